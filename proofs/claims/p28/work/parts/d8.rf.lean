/-! ===== blocks and deeds ===== -/
theorem zr.dkL {f : Int → Int} {N : Int} {t k d c b : Int} {l : List (Int × Int × Int × Int)} {nm ak : List Int} {x : ZS} (hl : l ≠ []) (h : zr f N x (1, t, k, d, c, b, l, nm, ak)) (h1 : zso f N t = 1) (hal : zwd f N t = 2 ∨ (4 ≤ zwd f N t ∧ zwd f N t ≤ 18 ∧ ¬ (b = 1 ∧ zwd f N t ≤ 9))) (hk : 300 ≤ k) : zr f N x (zft 3 t) := by
  cases l with
  | nil => exact absurd rfl hl
  | cons p s =>
    obtain ⟨a, w, n, e⟩ := p
    exact zr.dk h h1 hal hk
theorem zr.dnoL {f : Int → Int} {N : Int} {t k d c b : Int} {l : List (Int × Int × Int × Int)} {nm ak : List Int} {x : ZS} (hl : l ≠ []) (h : zr f N x (1, t, k, d, c, b, l, nm, ak)) (g : ¬ (zso f N t = 3 ∧ f t = 125)) (hal : ¬ (zso f N t = 1 ∧ (zwd f N t = 2 ∨ (4 ≤ zwd f N t ∧ zwd f N t ≤ 18 ∧ ¬ (b = 1 ∧ zwd f N t ≤ 9))))) : zr f N x (zrf f N t) := by
  cases l with
  | nil => exact absurd rfl hl
  | cons p s =>
    obtain ⟨a, w, n, e⟩ := p
    exact zr.dno h g hal
theorem zr.difL {f : Int → Int} {N : Int} {t k d c b : Int} {l : List (Int × Int × Int × Int)} {nm ak : List Int} {x : ZS} (hl : l ≠ []) (h : zr f N x (1, t, k, d, c, b, l, nm, ak)) (h1 : zso f N t = 1) (hw : zwd f N t = 2) (hk : k < 300) : zr f N x (2, znx f N t, k + 1, d, 0, b, (11, 0, 0, 0) :: l, nm, ak) := by
  cases l with
  | nil => exact absurd rfl hl
  | cons p s =>
    obtain ⟨a, w, n, e⟩ := p
    exact zr.dif h h1 hw hk
theorem zr.dtkL {f : Int → Int} {N : Int} {t k d c b : Int} {l : List (Int × Int × Int × Int)} {nm ak : List Int} {x : ZS} (hl : l ≠ []) (h : zr f N x (1, t, k, d, c, b, l, nm, ak)) (h1 : zso f N t = 1) (hw : 4 ≤ zwd f N t ∧ zwd f N t ≤ 7) (hb : ¬ (b = 1 ∧ zwd f N t ≤ 9)) (hk : k < 300) (g2 : zso f N (znx f N t) = 3 ∧ f (znx f N t) = 59) : zr f N x (1, znx f N (znx f N t), k + 1, d, 0, b, l, nm, ak) := by
  cases l with
  | nil => exact absurd rfl hl
  | cons p s =>
    obtain ⟨a, w, n, e⟩ := p
    exact zr.dtk h h1 hw hb hk g2
theorem zr.dtkfL {f : Int → Int} {N : Int} {t k d c b : Int} {l : List (Int × Int × Int × Int)} {nm ak : List Int} {x : ZS} (hl : l ≠ []) (h : zr f N x (1, t, k, d, c, b, l, nm, ak)) (h1 : zso f N t = 1) (hw : 4 ≤ zwd f N t ∧ zwd f N t ≤ 7) (hb : ¬ (b = 1 ∧ zwd f N t ≤ 9)) (hk : k < 300) (g2 : ¬ (zso f N (znx f N t) = 3 ∧ f (znx f N t) = 59)) : zr f N x (zrf f N (znx f N t)) := by
  cases l with
  | nil => exact absurd rfl hl
  | cons p s =>
    obtain ⟨a, w, n, e⟩ := p
    exact zr.dtkf h h1 hw hb hk g2
theorem zr.djpL {f : Int → Int} {N : Int} {t k d c b : Int} {l : List (Int × Int × Int × Int)} {nm ak : List Int} {x : ZS} (hl : l ≠ []) (h : zr f N x (1, t, k, d, c, b, l, nm, ak)) (h1 : zso f N t = 1) (hw : 8 ≤ zwd f N t ∧ zwd f N t ≤ 9) (hb : ¬ (b = 1 ∧ zwd f N t ≤ 9)) (hk : k < 300) (gn : zso f N (znx f N t) = 1 ∧ (zwd f N (znx f N t) = -1 ∨ 45 ≤ zwd f N (znx f N t))) (g2 : zso f N (znx f N (znx f N t)) = 3 ∧ f (znx f N (znx f N t)) = 59) : zr f N x (1, znx f N (znx f N (znx f N t)), k + 1, d, 0, b, l, nm, ak ++ [znx f N t]) := by
  cases l with
  | nil => exact absurd rfl hl
  | cons p s =>
    obtain ⟨a, w, n, e⟩ := p
    exact zr.djp h h1 hw hb hk gn g2
theorem zr.djpfL {f : Int → Int} {N : Int} {t k d c b : Int} {l : List (Int × Int × Int × Int)} {nm ak : List Int} {x : ZS} (hl : l ≠ []) (h : zr f N x (1, t, k, d, c, b, l, nm, ak)) (h1 : zso f N t = 1) (hw : 8 ≤ zwd f N t ∧ zwd f N t ≤ 9) (hb : ¬ (b = 1 ∧ zwd f N t ≤ 9)) (hk : k < 300) (gn : zso f N (znx f N t) = 1 ∧ (zwd f N (znx f N t) = -1 ∨ 45 ≤ zwd f N (znx f N t))) (g2 : ¬ (zso f N (znx f N (znx f N t)) = 3 ∧ f (znx f N (znx f N t)) = 59)) : zr f N x (zrf f N (znx f N (znx f N t))) := by
  cases l with
  | nil => exact absurd rfl hl
  | cons p s =>
    obtain ⟨a, w, n, e⟩ := p
    exact zr.djpf h h1 hw hb hk gn g2
theorem zr.djpnL {f : Int → Int} {N : Int} {t k d c b : Int} {l : List (Int × Int × Int × Int)} {nm ak : List Int} {x : ZS} (hl : l ≠ []) (h : zr f N x (1, t, k, d, c, b, l, nm, ak)) (h1 : zso f N t = 1) (hw : 8 ≤ zwd f N t ∧ zwd f N t ≤ 9) (hb : ¬ (b = 1 ∧ zwd f N t ≤ 9)) (hk : k < 300) (gn : ¬ (zso f N (znx f N t) = 1 ∧ (zwd f N (znx f N t) = -1 ∨ 45 ≤ zwd f N (znx f N t)))) : zr f N x (zrf f N (znx f N t)) := by
  cases l with
  | nil => exact absurd rfl hl
  | cons p s =>
    obtain ⟨a, w, n, e⟩ := p
    exact zr.djpn h h1 hw hb hk gn
theorem zr.dexL {f : Int → Int} {N : Int} {t k d c b : Int} {l : List (Int × Int × Int × Int)} {nm ak : List Int} {x : ZS} (hl : l ≠ []) (h : zr f N x (1, t, k, d, c, b, l, nm, ak)) (h1 : zso f N t = 1) (hw : 10 ≤ zwd f N t ∧ zwd f N t ≤ 18) (hk : k < 300) : zr f N x (2, znx f N t, k + 1, d, 0, b, (10, zwd f N t, 1, 0) :: l, nm, ak) := by
  cases l with
  | nil => exact absurd rfl hl
  | cons p s =>
    obtain ⟨a, w, n, e⟩ := p
    exact zr.dex h h1 hw hk

noncomputable def zbk (bk : Int → Int) : Nat → List (Int × Int × Int × Int)
  | 0 => []
  | n + 1 => (bk (n : Int), 0, 0, 0) :: zbk bk n
/-- the blocks that stand around -/
noncomputable def blr (M : jm) : List (Int × Int × Int × Int) := zbk (M 668) (M 598 107).toNat
theorem zbk_c {bk bk' : Int → Int} (n : Nat) (h : ∀ i : Int, 0 ≤ i → i < n → bk' i = bk i) : zbk bk' n = zbk bk n := by
  induction n with
  | zero => rfl
  | succ n ih =>
    unfold zbk
    rw [h (n : Int) (by omega) (by omega), ih (fun i h0 h1 => h i h0 (by omega))]
theorem blr_fr {M M' : jm} (e1 : ∀ i : Int, M' 668 i = M 668 i) (e2 : M' 598 107 = M 598 107) : blr M' = blr M := by
  unfold blr
  rw [show M' 668 = M 668 from funext e1, e2]
theorem blr_push {M M' : jm} {c kd : Int} (e : M 598 107 = c) (h0 : 0 ≤ c) (e1 : ∀ i : Int, i ≠ c → M' 668 i = M 668 i) (e2 : M' 668 c = kd) (e3 : M' 598 107 = c + 1) : blr M' = (kd, 0, 0, 0) :: blr M := by
  obtain ⟨m, rfl⟩ := Int.eq_ofNat_of_zero_le h0
  unfold blr
  rw [e3, e, show ((m : Int) + 1).toNat = m + 1 by omega, show ((m : Int)).toNat = m by omega]
  show (M' 668 (m : Int), 0, 0, 0) :: zbk (M' 668) m = _
  rw [e2, zbk_c m (fun i h1 h2 => e1 i (by omega))]
theorem blr_pop {M : jm} {c : Int} (e : M 598 107 = c) (h0 : 0 < c) : blr M = (M 668 (c - 1), 0, 0, 0) :: blr (ju M 598 107 (c - 1)) := by
  obtain ⟨m, hm⟩ : ∃ m : Nat, c = (m : Int) + 1 := ⟨(c - 1).toNat, by omega⟩
  unfold blr
  rw [ju_same, e, show c.toNat = m + 1 by omega, show (c - 1).toNat = m by omega, show (ju M 598 107 (c - 1)) 668 = M 668 from jw_o (by decide), show c - 1 = (m : Int) by omega]
  rfl
theorem blr_ne {M : jm} (h : 1 ≤ M 598 107) : blr M ≠ [] := by
  rw [blr_pop rfl (by omega)]
  exact fun q => by cases q
theorem blr_z {M : jm} (h : M 598 107 = 0) : blr M = [] := by
  unfold blr
  rw [h]
  rfl
/-- the names that were told; those that were asked -/
noncomputable def NMr (f : Int → Int) (N : Int) (M : jm) (nm : List Int) : Prop := (nm.length : Int) = M 598 88 ∧ ∀ k : Int, 0 ≤ k → k < nm.length → M 656 k = znm f N (nm.getD k.toNat 0)
noncomputable def AKr (f : Int → Int) (N : Int) (M : jm) (ak : List Int) : Prop := (ak.length : Int) = M 598 96 ∧ ∀ k : Int, 0 ≤ k → k < ak.length → M 661 k = znm f N (ak.getD k.toNat 0) ∧ M 662 k = ak.getD k.toNat 0
theorem NMr.fr {f : Int → Int} {N : Int} {M M' : jm} {nm : List Int} (h : NMr f N M nm) (e1 : ∀ i : Int, M' 656 i = M 656 i) (e2 : M' 598 88 = M 598 88) : NMr f N M' nm := ⟨h.1.trans e2.symm, fun k h0 h1 => (e1 k).trans (h.2 k h0 h1)⟩
theorem AKr.fr {f : Int → Int} {N : Int} {M M' : jm} {ak : List Int} (h : AKr f N M ak) (e1 : ∀ i : Int, M' 661 i = M 661 i) (e2 : ∀ i : Int, M' 662 i = M 662 i) (e3 : M' 598 96 = M 598 96) : AKr f N M' ak := ⟨h.1.trans e3.symm, fun k h0 h1 => ⟨(e1 k).trans (h.2 k h0 h1).1, (e2 k).trans (h.2 k h0 h1).2⟩⟩
theorem getD_app (l : List Int) (x : Int) (k : Nat) : (l ++ [x]).getD k 0 = if k < l.length then l.getD k 0 else if k = l.length then x else 0 := by
  induction l generalizing k with
  | nil =>
    cases k with
    | zero => rfl
    | succ k => rfl
  | cons y l ih =>
    cases k with
    | zero => rfl
    | succ k =>
      show (l ++ [x]).getD k 0 = _
      rw [ih k]
      show (if k < l.length then l.getD k 0 else if k = l.length then x else 0) = (if k + 1 < l.length + 1 then l.getD k 0 else if k + 1 = l.length + 1 then x else 0)
      by_cases h1 : k < l.length
      · rw [if_pos h1, if_pos (show k + 1 < l.length + 1 by omega)]
      · rw [if_neg h1, if_neg (show ¬ k + 1 < l.length + 1 by omega)]
        by_cases h2 : k = l.length
        · rw [if_pos h2, if_pos (show k + 1 = l.length + 1 by omega)]
        · rw [if_neg h2, if_neg (show ¬ k + 1 = l.length + 1 by omega)]
/-- a name is asked -/
theorem AKr.ask {f : Int → Int} {N t : Int} {M : jm} {ak : List Int} {c p q u : Int} (h : AKr f N M ak) (e : M 598 96 = c) (hp : p = znm f N t) (hu : u = t) : AKr f N (ju (ju (ju (ju M 661 c p) 662 c u) 663 c q) 598 96 (c + 1)) (ak ++ [t]) := by
  subst hu
  have hl := h.1
  refine ⟨?_, fun k h0 h1 => ?_⟩
  · rw [ju_same, List.length_append]
    show (((ak.length + 1 : Nat)) : Int) = c + 1
    omega
  · rw [List.length_append] at h1
    have h2 : k < (ak.length : Int) + 1 := h1
    rw [getD_app]
    by_cases q1 : k = c
    · rw [if_neg (by omega), if_pos (by omega), q1]
      refine ⟨?_, ?_⟩
      · rw [ju_c _ _ (by decide), ju_c _ _ (by decide), ju_c _ _ (by decide), ju_same, hp]
      · rw [ju_c _ _ (by decide), ju_c _ _ (by decide), ju_same]
    · rw [if_pos (by omega)]
      have q2 := h.2 k h0 (by omega)
      refine ⟨?_, ?_⟩
      · rw [ju_c _ _ (by decide), ju_c _ _ (by decide), ju_c _ _ (by decide), ju_i _ _ q1]
        exact q2.1
      · rw [ju_c _ _ (by decide), ju_c _ _ (by decide), ju_i _ _ q1, ju_c _ _ (by decide)]
        exact q2.2
theorem zex_n {w : Int} (h : 10 ≤ w ∧ w ≤ 18) : zex w = ndo (20 + w) := by
  rcases (show w = 10 ∨ w = 11 ∨ w = 12 ∨ w = 13 ∨ w = 14 ∨ w = 15 ∨ w = 16 ∨ w = 17 ∨ w = 18 by omega) with r | r | r | r | r | r | r | r | r <;> subst r <;> decide
/-- between deeds -/
noncomputable def ZDP (f : Int → Int) (N : Int) (xs : ZS) (M : jm) (nm : List Int) : Prop := ∃ (t : Int) (ak : List Int), TKr f N t M ∧ AKr f N M ak ∧ zr f N xs (1, t, M 598 89, M 598 100, 0, M 598 101, blr M, nm, ak)
/-- what stands before the sign at a deed's end -/
noncomputable def ZSB (f : Int → Int) (N : Int) (xs : ZS) (t : Int) (M : jm) (nm ak : List Int) : Prop := (zso f N t = 3 ∧ f t = 59 → zr f N xs (1, znx f N t, M 598 89, M 598 100, 0, M 598 101, blr M, nm, ak)) ∧ (¬ (zso f N t = 3 ∧ f t = 59) → zr f N xs (zrf f N t))
noncomputable def ZSC (f : Int → Int) (N : Int) (xs : ZS) (M : jm) (nm : List Int) : Prop := ∃ (t : Int) (ak : List Int), TKr f N t M ∧ AKr f N M ak ∧ ZSB f N xs t M nm ak
noncomputable def ZSCQ (f : Int → Int) (N : Int) (xs : ZS) (M : jm) (nm : List Int) : Prop := M 598 80 = 0 → ZSC f N xs M nm
noncomputable def ZDPQ (f : Int → Int) (N : Int) (xs : ZS) (M : jm) (nm : List Int) : Prop := M 598 80 = 0 → ZDP f N xs M nm
noncomputable def AKQ (f : Int → Int) (N : Int) (M : jm) (ak : List Int) : Prop := M 598 80 = 0 → AKr f N M ak
/-- before the next expression of a deed -/
noncomputable def Z01 (f : Int → Int) (N : Int) (xs : ZS) (k w t : Int) (M : jm) (nm ak : List Int) : Prop := (k = 0 ∧ zr f N xs (2, t, M 598 89, M 598 100, 0, M 598 101, (10, w, 1, 0) :: blr M, nm, ak)) ∨ (1 ≤ k ∧ ∃ c : Int, zr f N xs (3, t, M 598 89, M 598 100, c, M 598 101, (10, w, k, 0) :: blr M, nm, ak) ∧ 4 < zrk f N t)
noncomputable def Z01Q (f : Int → Int) (N : Int) (xs : ZS) (k w : Int) (M : jm) (nm ak : List Int) : Prop := M 598 80 = 0 → ∃ t : Int, TKr f N t M ∧ Z01 f N xs k w t M nm ak
theorem Z01.z0 {f : Int → Int} {N : Int} {xs : ZS} {k w t : Int} {M : jm} {nm ak : List Int} (h : Z01 f N xs k w t M nm ak) (e : k = 0) : zr f N xs (2, t, M 598 89, M 598 100, 0, M 598 101, (10, w, 1, 0) :: blr M, nm, ak) := by
  rcases h with h | h
  · exact h.2
  · exact absurd h.1 (by omega)
theorem Z01.z1 {f : Int → Int} {N : Int} {xs : ZS} {k w t : Int} {M : jm} {nm ak : List Int} (h : Z01 f N xs k w t M nm ak) (e : 1 ≤ k) : ∃ c : Int, zr f N xs (3, t, M 598 89, M 598 100, c, M 598 101, (10, w, k, 0) :: blr M, nm, ak) ∧ 4 < zrk f N t := by
  rcases h with h | h
  · exact absurd h.1 (by omega)
  · exact h.2
noncomputable def BGQ (f : Int → Int) (N t : Int) (M M' : jm) : Prop := (M' 598 80 = 0 ∧ M' 598 81 = M 598 81 ∧ (zso f N t = 3 ∧ f t = 123) ∧ M 598 100 < 12 ∧ M' 598 100 = M 598 100 + 1 ∧ TK M' < TK M ∧ (M' 598 74 = 3 → M' 598 79 ≠ 10 ∧ M' 598 79 ≠ 11) ∧ TKr f N (znx f N t) M') ∨ (M' 598 80 = 3 ∧ M' 598 81 = t ∧ (zso f N t = 3 ∧ f t = 123) ∧ M 598 100 = 12) ∨ (M' 598 80 ≠ 0 ∧ M' 598 80 = zwr (zso f N t) ∧ M' 598 81 = t ∧ ¬ (zso f N t = 3 ∧ f t = 123))
set_option maxHeartbeats 8000000 in
theorem r_beginBlock_z {A : Nat → Option (Nat × (Nat → Int32))} {Q : Option Value → jm → Prop} {f : Int → Int} {N : Int} {t : Int} {M : jm} (hI_M : RI M) (hH_M : RH M) (hS_M : RF M) {kd : Int} (h_kd : 0 ≤ kd ∧ kd ≤ 3) {p : Int} (h_p : 0 ≤ p ∧ p ≤ 2200) (p0 : M 598 73 ≤ M 598 72) (p1 : TKr f N t M) (p2 : M 598 100 ≤ 12) (p3 : M 598 107 ≤ 15) (p4 : M 598 80 = 0) (p5 : (M 598 74 = 3 → M 598 79 ≠ 10 ∧ M 598 79 ≠ 11)) (q : ∀ (M' : jm), RI M' → RH M' → RF M' → M' 598 73 ≤ M' 598 72 → M 598 73 ≤ M' 598 73 → TK M' ≤ TK M → M' 598 107 = M 598 107 + 1 → (∀ b k k' z x : Int, XS M b k 0 z x → M' 598 80 = 0 → (M 598 107 = 0 → kd = M 598 101 ∧ 0 ≤ kd ∧ kd ≤ 1 ∧ x = -1) → (1 ≤ M 598 107 → 2 ≤ kd ∧ kd ≤ 3 ∧ 0 ≤ p ∧ p < M 598 90 ∧ M 659 p = kd - 1 ∧ x = p) → k' + RVq (M 598 107 + 1) (M 598 101) ≤ k + RVq (M 598 107) (M 598 101) → 0 ≤ k' → XS M' b k' 0 z (-1)) → BGQ f N t M M' → TXr f N M' → blr M' = (kd, 0, 0, 0) :: blr M → (∀ (a : Nat) (i : Int), a ≠ 598 → a ≠ 668 → a ≠ 669 → M' a i = M a i) → (∀ (i : Int), i ≠ 73 → i ≠ 74 → i ≠ 75 → i ≠ 76 → i ≠ 77 → i ≠ 78 → i ≠ 79 → i ≠ 80 → i ≠ 81 → i ≠ 100 → i ≠ 107 → M' 598 i = M 598 i) → Q none M') : jc A 5 365 [.ref (598), .int (Int32.ofInt (kd)), .int (Int32.ofInt (p))] M Q := by
  have hT := p1.1
  have kk0 := p1.kz
  refine jc_of (m := xm_365) rfl (Nat.le_of_ble_eq_true rfl) rfl ?_
  refine jr.aload_n rfl rfl ?_
  refine jr.bipush rfl (by decide) ?_
  obtain ⟨v1, e1⟩ : ∃ z, M 598 73 = z := ⟨_, rfl⟩
  have b1 : 0 ≤ v1 ∧ v1 ≤ 1600 := by rw [← e1]; exact hI_M 598 73 (by decide)
  obtain ⟨v2, e2⟩ : ∃ z, M 598 72 = z := ⟨_, rfl⟩
  have b2 : 0 ≤ v2 ∧ v2 ≤ 1600 := by rw [← e2]; exact hI_M 598 72 (by decide)
  obtain ⟨v3, e3⟩ : ∃ z, M 598 80 = z := ⟨_, rfl⟩
  have b3 : 0 ≤ v3 ∧ v3 ≤ 7 := by rw [← e3]; exact hI_M 598 80 (by decide)
  obtain ⟨v4, e4⟩ : ∃ z, M 598 100 = z := ⟨_, rfl⟩
  have b4 : 0 ≤ v4 ∧ v4 ≤ 13 := by rw [← e4]; exact hI_M 598 100 (by decide)
  obtain ⟨v5, e5⟩ : ∃ z, M 598 74 = z := ⟨_, rfl⟩
  have b5 : 0 ≤ v5 ∧ v5 ≤ 4 := by rw [← e5]; exact hI_M 598 74 (by decide)
  obtain ⟨v6, e6⟩ : ∃ z, M 598 79 = z := ⟨_, rfl⟩
  have b6 : 0 ≤ v6 ∧ v6 ≤ 255 := by rw [← e6]; exact hI_M 598 79 (by decide)
  obtain ⟨v7, e7⟩ : ∃ z, M 598 89 = z := ⟨_, rfl⟩
  have b7 : 0 ≤ v7 ∧ v7 ≤ 301 := by rw [← e7]; exact hI_M 598 89 (by decide)
  obtain ⟨v8, e8⟩ : ∃ z, M 598 81 = z := ⟨_, rfl⟩
  have b8 : (-1) ≤ v8 ∧ v8 ≤ 1600 := by rw [← e8]; exact hI_M 598 81 (by decide)
  refine jr_v rfl rfl (Or.inl rfl) rfl rfl (by decide) rfl ⟨rfl, Nat.le_of_ble_eq_true rfl, Nat.le_of_ble_eq_true rfl⟩ rfl (jc.deep (c_wantDeeper_z (f := f) (N := N) hI_M hH_M hS_M (by omega) (by rw [e1, e2]; omega) p1 (by rw [e3]; omega) (by rw [e4]; omega) (by rw [e5, e6]; intro q; omega) (fun M9 hI_M9 hH_M9 hS_M9 qa9 qb9 qt9 qd9 ql9 sn9 q09 q19 qs9 hK9 w9_50 w9_51 => ?_) (fun M9 hI_M9 hH_M9 hS_M9 qa9 qb9 qt9 ql9 q09 q19 qs9 hT9 w9_50 w9_51 => ?_) (fun M9 hI_M9 hH_M9 hS_M9 qa9 qb9 qt9 qn9 q09 q19 qs9 hT9 w9_50 w9_51 => ?_)) (by decide))
  · have x9_72 := w9_51 72 (by decide) (by decide) (by decide) (by decide) (by decide) (by decide) (by decide) (by decide) (by decide) (by decide)
    have x9_89 := w9_51 89 (by decide) (by decide) (by decide) (by decide) (by decide) (by decide) (by decide) (by decide) (by decide) (by decide)
    have hT9 := hK9.1
    have kk9 := hK9.kz
    refine jr.aload_n rfl rfl ?_
    refine jr.getf (i := 108) (v := .ref 668) rfl rfl (by decide) rfl (by decide) rfl rfl rfl rfl ?_
    refine jr.aload_n rfl rfl ?_
    obtain ⟨v10, e10⟩ : ∃ z, M 598 107 = z := ⟨_, rfl⟩
    have b10 : 0 ≤ v10 ∧ v10 ≤ 16 := by rw [← e10]; exact hI_M 598 107 (by decide)
    have e11 : M9 598 107 = v10 := ((w9_51 107 (by decide) (by decide) (by decide) (by decide) (by decide) (by decide) (by decide) (by decide) (by decide) (by decide)).trans e10)
    refine jr.getf (i := 107) (x := v10) (v := .int (Int32.ofInt (v10))) rfl rfl (by decide) rfl (by decide) rfl rfl e11 rfl ?_
    refine jr.iload_n rfl rfl ?_
    refine jr.iast (i := v10) (x := kd) rfl (by decide) rfl (by decide) (by omega) (by omega) ?_
    refine jr.aload_n rfl rfl ?_
    refine jr.getf (i := 109) (v := .ref 669) rfl rfl (by decide) rfl (by decide) rfl rfl rfl rfl ?_
    refine jr.aload_n rfl rfl ?_
    refine jr.getf (i := 107) (x := v10) (v := .int (Int32.ofInt (v10))) rfl rfl (by decide) rfl (by decide) rfl rfl ((ju_c _ _ (by decide)).trans e11) rfl ?_
    refine jr.iload_n rfl rfl ?_
    refine jr.iast (i := v10) (x := p) rfl (by decide) rfl (by decide) (by omega) (by omega) ?_
    refine jr.aload_n rfl rfl ?_
    refine jr.dup rfl rfl ?_
    refine jr.getf (i := 107) (x := v10) (v := .int (Int32.ofInt (v10))) rfl rfl (by decide) rfl (by decide) rfl rfl ((ju_c _ _ (by decide)).trans ((ju_c _ _ (by decide)).trans e11)) rfl ?_
    refine jr.iconst rfl ?_
    refine jr.iadd rfl ?_
    refine jr.putf (i := 107) (x := (v10 + 1)) rfl rfl (by decide) rfl (by decide) rfl rfl rfl rfl rfl ?_
    have e12 : M9 598 72 = v2 := ((w9_51 72 (by decide) (by decide) (by decide) (by decide) (by decide) (by decide) (by decide) (by decide) (by decide) (by decide)).trans e2)
    have y13 : (ju (ju (ju M9 668 v10 kd) 669 v10 p) 598 107 (v10 + 1)) 598 72 = v2 := ((ju_i _ _ (by decide)).trans ((ju_c _ _ (by decide)).trans ((ju_c _ _ (by decide)).trans e12)))
    obtain ⟨v14, e14⟩ : ∃ z, M9 598 73 = z := ⟨_, rfl⟩
    have b14 : 0 ≤ v14 ∧ v14 ≤ 1600 := by rw [← e14]; exact hI_M9 598 73 (by decide)
    have y15 : (ju (ju (ju M9 668 v10 kd) 669 v10 p) 598 107 (v10 + 1)) 598 73 = v14 := ((ju_i _ _ (by decide)).trans ((ju_c _ _ (by decide)).trans ((ju_c _ _ (by decide)).trans e14)))
    obtain ⟨v16, e16⟩ : ∃ z, M9 598 74 = z := ⟨_, rfl⟩
    have b16 : 0 ≤ v16 ∧ v16 ≤ 4 := by rw [← e16]; exact hI_M9 598 74 (by decide)
    have y17 : (ju (ju (ju M9 668 v10 kd) 669 v10 p) 598 107 (v10 + 1)) 598 74 = v16 := ((ju_i _ _ (by decide)).trans ((ju_c _ _ (by decide)).trans ((ju_c _ _ (by decide)).trans e16)))
    obtain ⟨v18, e18⟩ : ∃ z, M9 598 75 = z := ⟨_, rfl⟩
    have b18 : 0 ≤ v18 ∧ v18 ≤ 1600 := by rw [← e18]; exact hI_M9 598 75 (by decide)
    have y19 : (ju (ju (ju M9 668 v10 kd) 669 v10 p) 598 107 (v10 + 1)) 598 75 = v18 := ((ju_i _ _ (by decide)).trans ((ju_c _ _ (by decide)).trans ((ju_c _ _ (by decide)).trans e18)))
    obtain ⟨v20, e20⟩ : ∃ z, M9 598 79 = z := ⟨_, rfl⟩
    have b20 : 0 ≤ v20 ∧ v20 ≤ 255 := by rw [← e20]; exact hI_M9 598 79 (by decide)
    have y21 : (ju (ju (ju M9 668 v10 kd) 669 v10 p) 598 107 (v10 + 1)) 598 79 = v20 := ((ju_i _ _ (by decide)).trans ((ju_c _ _ (by decide)).trans ((ju_c _ _ (by decide)).trans e20)))
    obtain ⟨v22, e22⟩ : ∃ z, M9 598 80 = z := ⟨_, rfl⟩
    have b22 : 0 ≤ v22 ∧ v22 ≤ 7 := by rw [← e22]; exact hI_M9 598 80 (by decide)
    have y23 : (ju (ju (ju M9 668 v10 kd) 669 v10 p) 598 107 (v10 + 1)) 598 80 = v22 := ((ju_i _ _ (by decide)).trans ((ju_c _ _ (by decide)).trans ((ju_c _ _ (by decide)).trans e22)))
    obtain ⟨v24, e24⟩ : ∃ z, M9 598 81 = z := ⟨_, rfl⟩
    have b24 : (-1) ≤ v24 ∧ v24 ≤ 1600 := by rw [← e24]; exact hI_M9 598 81 (by decide)
    have y25 : (ju (ju (ju M9 668 v10 kd) 669 v10 p) 598 107 (v10 + 1)) 598 81 = v24 := ((ju_i _ _ (by decide)).trans ((ju_c _ _ (by decide)).trans ((ju_c _ _ (by decide)).trans e24)))
    obtain ⟨v26, e26⟩ : ∃ z, M9 598 100 = z := ⟨_, rfl⟩
    have b26 : 0 ≤ v26 ∧ v26 ≤ 13 := by rw [← e26]; exact hI_M9 598 100 (by decide)
    have y27 : (ju (ju (ju M9 668 v10 kd) 669 v10 p) 598 107 (v10 + 1)) 598 100 = v26 := ((ju_i _ _ (by decide)).trans ((ju_c _ _ (by decide)).trans ((ju_c _ _ (by decide)).trans e26)))
    have y28 : (ju (ju (ju M9 668 v10 kd) 669 v10 p) 598 107 (v10 + 1)) 598 107 = v10 + 1 := (ju_same _ _ _ _)
    have y29 : TK (ju (ju (ju M9 668 v10 kd) 669 v10 p) 598 107 (v10 + 1)) = TK M9 := ((TK.o (Or.inr ⟨by decide, by decide⟩)).trans ((TK.o (Or.inl (by decide))).trans ((TK.o (Or.inl (by decide))).trans rfl)))
    have sn0 : ((ju (ju (ju M9 668 v10 kd) 669 v10 p) 598 107 (v10 + 1)) 598 74 = 3 → (ju (ju (ju M9 668 v10 kd) 669 v10 p) 598 107 (v10 + 1)) 598 79 ≠ 10 ∧ (ju (ju (ju M9 668 v10 kd) 669 v10 p) 598 107 (v10 + 1)) 598 79 ≠ 11) := by intro q; omega
    exact jr.vreturn rfl rfl (q _ (RI.u (RI.u (RI.u hI_M9 (a := 668) (i := v10) (by rw [xri_row rfl rfl]; show (0 : Int) ≤ _ ∧ _ ≤ (3 : Int); omega)) (a := 669) (i := v10) (by rw [xri_row rfl rfl]; show (0 : Int) ≤ _ ∧ _ ≤ (2200 : Int); omega)) (a := 598) (i := 107) (show (0 : Int) ≤ _ ∧ _ ≤ (16 : Int) from by omega)) (RH.o (RH.o (RH.o hH_M9 (by decide) (by decide) (by decide)) (by decide) (by decide) (by decide)) (by decide) (by decide) (by decide)) (RF.o (RF.o (RF.o hS_M9 (by decide) (by decide)) (by decide) (by decide)) (by decide) (by decide))  (by omega) (by omega) (by omega) (by omega) (fun b k k' z x hx hf h1 h2 hk hk0 => by have x88 := w9_51 88 (by decide) (by decide) (by decide) (by decide) (by decide) (by decide) (by decide) (by decide) (by decide) (by decide); have x90 := w9_51 90 (by decide) (by decide) (by decide) (by decide) (by decide) (by decide) (by decide) (by decide) (by decide) (by decide); have x101 := w9_51 101 (by decide) (by decide) (by decide) (by decide) (by decide) (by decide) (by decide) (by decide) (by decide) (by decide); have x107 := w9_51 107 (by decide) (by decide) (by decide) (by decide) (by decide) (by decide) (by decide) (by decide) (by decide) (by decide); have x89 := w9_51 89 (by decide) (by decide) (by decide) (by decide) (by decide) (by decide) (by decide) (by decide) (by decide) (by decide); have dpx := XS.dep hx; have hx1 := XS.fr2 hx w9_50 x88 x90 x101 x107 (k' := k) (d' := 1) (z' := z) (by omega) (XS.kz hx).1 ⟨(XS.kz hx).2, Int.le_refl _⟩ (by omega); exact XS.blk1 hx1 e11 kd p k' (fun w => by have q := h1 (by omega); omega) (fun w => by obtain ⟨u1, u2, u3, u4, u5, u6⟩ := h2 (by omega); exact ⟨u1, u2, u3, by omega, by rw [w9_50 659 _ (by decide)]; exact u5, u6⟩) (by rw [x101, ← e10]; exact hk) hk0 (by omega)) (Or.inl ⟨by omega, by omega, qs9, by omega, by omega, by omega, sn0, (TKr.oo (TKr.cc (TKr.cc hK9 (by decide) (by decide) (by decide) (by decide)) (by decide) (by decide) (by decide) (by decide)) (by decide))⟩) (TXr.o (TXr.k (TXr.k hT9 (by decide) (by decide) (by decide) (by decide)) (by decide) (by decide) (by decide) (by decide)) (by decide)) (blr_push (M := M) e10 (by omega) (fun i hi => by rw [ju_c _ _ (by decide), ju_c _ _ (by decide), ju_i _ _ hi]; exact w9_50 668 i (by decide)) (by rw [ju_c _ _ (by decide), ju_c _ _ (by decide), ju_same]) (ju_same _ _ _ _)) (fun a i f598 f668 f669 => ((ju_c _ _ f598).trans ((ju_c _ _ f669).trans ((ju_c _ _ f668).trans ((w9_50 a i f598).trans rfl))))) (fun i g73 g74 g75 g76 g77 g78 g79 g80 g81 g100 g107 => ((ju_i _ _ g107).trans ((ju_c _ _ (by decide)).trans ((ju_c _ _ (by decide)).trans ((w9_51 i g73 g74 g75 g76 g77 g78 g79 g80 g81 g100).trans rfl))))))
  · have x9_72 := w9_51 72 (by decide) (by decide) (by decide) (by decide) (by decide) (by decide) (by decide) (by decide) (by decide) (by decide)
    have x9_89 := w9_51 89 (by decide) (by decide) (by decide) (by decide) (by decide) (by decide) (by decide) (by decide) (by decide) (by decide)
    have mk1 : True := trivial
    refine jr.aload_n rfl rfl ?_
    refine jr.getf (i := 108) (v := .ref 668) rfl rfl (by decide) rfl (by decide) rfl rfl rfl rfl ?_
    refine jr.aload_n rfl rfl ?_
    obtain ⟨v30, e30⟩ : ∃ z, M 598 107 = z := ⟨_, rfl⟩
    have b30 : 0 ≤ v30 ∧ v30 ≤ 16 := by rw [← e30]; exact hI_M 598 107 (by decide)
    have e31 : M9 598 107 = v30 := ((w9_51 107 (by decide) (by decide) (by decide) (by decide) (by decide) (by decide) (by decide) (by decide) (by decide) (by decide)).trans e30)
    refine jr.getf (i := 107) (x := v30) (v := .int (Int32.ofInt (v30))) rfl rfl (by decide) rfl (by decide) rfl rfl e31 rfl ?_
    refine jr.iload_n rfl rfl ?_
    refine jr.iast (i := v30) (x := kd) rfl (by decide) rfl (by decide) (by omega) (by omega) ?_
    refine jr.aload_n rfl rfl ?_
    refine jr.getf (i := 109) (v := .ref 669) rfl rfl (by decide) rfl (by decide) rfl rfl rfl rfl ?_
    refine jr.aload_n rfl rfl ?_
    refine jr.getf (i := 107) (x := v30) (v := .int (Int32.ofInt (v30))) rfl rfl (by decide) rfl (by decide) rfl rfl ((ju_c _ _ (by decide)).trans e31) rfl ?_
    refine jr.iload_n rfl rfl ?_
    refine jr.iast (i := v30) (x := p) rfl (by decide) rfl (by decide) (by omega) (by omega) ?_
    refine jr.aload_n rfl rfl ?_
    refine jr.dup rfl rfl ?_
    refine jr.getf (i := 107) (x := v30) (v := .int (Int32.ofInt (v30))) rfl rfl (by decide) rfl (by decide) rfl rfl ((ju_c _ _ (by decide)).trans ((ju_c _ _ (by decide)).trans e31)) rfl ?_
    refine jr.iconst rfl ?_
    refine jr.iadd rfl ?_
    refine jr.putf (i := 107) (x := (v30 + 1)) rfl rfl (by decide) rfl (by decide) rfl rfl rfl rfl rfl ?_
    have e32 : M9 598 72 = v2 := ((w9_51 72 (by decide) (by decide) (by decide) (by decide) (by decide) (by decide) (by decide) (by decide) (by decide) (by decide)).trans e2)
    have y33 : (ju (ju (ju M9 668 v30 kd) 669 v30 p) 598 107 (v30 + 1)) 598 72 = v2 := ((ju_i _ _ (by decide)).trans ((ju_c _ _ (by decide)).trans ((ju_c _ _ (by decide)).trans e32)))
    obtain ⟨v34, e34⟩ : ∃ z, M9 598 73 = z := ⟨_, rfl⟩
    have b34 : 0 ≤ v34 ∧ v34 ≤ 1600 := by rw [← e34]; exact hI_M9 598 73 (by decide)
    have y35 : (ju (ju (ju M9 668 v30 kd) 669 v30 p) 598 107 (v30 + 1)) 598 73 = v34 := ((ju_i _ _ (by decide)).trans ((ju_c _ _ (by decide)).trans ((ju_c _ _ (by decide)).trans e34)))
    obtain ⟨v36, e36⟩ : ∃ z, M9 598 74 = z := ⟨_, rfl⟩
    have b36 : 0 ≤ v36 ∧ v36 ≤ 4 := by rw [← e36]; exact hI_M9 598 74 (by decide)
    have y37 : (ju (ju (ju M9 668 v30 kd) 669 v30 p) 598 107 (v30 + 1)) 598 74 = v36 := ((ju_i _ _ (by decide)).trans ((ju_c _ _ (by decide)).trans ((ju_c _ _ (by decide)).trans e36)))
    obtain ⟨v38, e38⟩ : ∃ z, M9 598 75 = z := ⟨_, rfl⟩
    have b38 : 0 ≤ v38 ∧ v38 ≤ 1600 := by rw [← e38]; exact hI_M9 598 75 (by decide)
    have y39 : (ju (ju (ju M9 668 v30 kd) 669 v30 p) 598 107 (v30 + 1)) 598 75 = v38 := ((ju_i _ _ (by decide)).trans ((ju_c _ _ (by decide)).trans ((ju_c _ _ (by decide)).trans e38)))
    obtain ⟨v40, e40⟩ : ∃ z, M9 598 79 = z := ⟨_, rfl⟩
    have b40 : 0 ≤ v40 ∧ v40 ≤ 255 := by rw [← e40]; exact hI_M9 598 79 (by decide)
    have y41 : (ju (ju (ju M9 668 v30 kd) 669 v30 p) 598 107 (v30 + 1)) 598 79 = v40 := ((ju_i _ _ (by decide)).trans ((ju_c _ _ (by decide)).trans ((ju_c _ _ (by decide)).trans e40)))
    obtain ⟨v42, e42⟩ : ∃ z, M9 598 80 = z := ⟨_, rfl⟩
    have b42 : 0 ≤ v42 ∧ v42 ≤ 7 := by rw [← e42]; exact hI_M9 598 80 (by decide)
    have y43 : (ju (ju (ju M9 668 v30 kd) 669 v30 p) 598 107 (v30 + 1)) 598 80 = v42 := ((ju_i _ _ (by decide)).trans ((ju_c _ _ (by decide)).trans ((ju_c _ _ (by decide)).trans e42)))
    obtain ⟨v44, e44⟩ : ∃ z, M9 598 81 = z := ⟨_, rfl⟩
    have b44 : (-1) ≤ v44 ∧ v44 ≤ 1600 := by rw [← e44]; exact hI_M9 598 81 (by decide)
    have y45 : (ju (ju (ju M9 668 v30 kd) 669 v30 p) 598 107 (v30 + 1)) 598 81 = v44 := ((ju_i _ _ (by decide)).trans ((ju_c _ _ (by decide)).trans ((ju_c _ _ (by decide)).trans e44)))
    obtain ⟨v46, e46⟩ : ∃ z, M9 598 100 = z := ⟨_, rfl⟩
    have b46 : 0 ≤ v46 ∧ v46 ≤ 13 := by rw [← e46]; exact hI_M9 598 100 (by decide)
    have y47 : (ju (ju (ju M9 668 v30 kd) 669 v30 p) 598 107 (v30 + 1)) 598 100 = v46 := ((ju_i _ _ (by decide)).trans ((ju_c _ _ (by decide)).trans ((ju_c _ _ (by decide)).trans e46)))
    have y48 : (ju (ju (ju M9 668 v30 kd) 669 v30 p) 598 107 (v30 + 1)) 598 107 = v30 + 1 := (ju_same _ _ _ _)
    have y49 : TK (ju (ju (ju M9 668 v30 kd) 669 v30 p) 598 107 (v30 + 1)) = TK M9 := ((TK.o (Or.inr ⟨by decide, by decide⟩)).trans ((TK.o (Or.inl (by decide))).trans ((TK.o (Or.inl (by decide))).trans rfl)))
    exact jr.vreturn rfl rfl (q _ (RI.u (RI.u (RI.u hI_M9 (a := 668) (i := v30) (by rw [xri_row rfl rfl]; show (0 : Int) ≤ _ ∧ _ ≤ (3 : Int); omega)) (a := 669) (i := v30) (by rw [xri_row rfl rfl]; show (0 : Int) ≤ _ ∧ _ ≤ (2200 : Int); omega)) (a := 598) (i := 107) (show (0 : Int) ≤ _ ∧ _ ≤ (16 : Int) from by omega)) (RH.o (RH.o (RH.o hH_M9 (by decide) (by decide) (by decide)) (by decide) (by decide) (by decide)) (by decide) (by decide) (by decide)) (RF.o (RF.o (RF.o hS_M9 (by decide) (by decide)) (by decide) (by decide)) (by decide) (by decide))  (by omega) (by omega) (by omega) (by omega) (fun b k k' z x hx hf h1 h2 hk hk0 => by have x88 := w9_51 88 (by decide) (by decide) (by decide) (by decide) (by decide) (by decide) (by decide) (by decide) (by decide) (by decide); have x90 := w9_51 90 (by decide) (by decide) (by decide) (by decide) (by decide) (by decide) (by decide) (by decide) (by decide) (by decide); have x101 := w9_51 101 (by decide) (by decide) (by decide) (by decide) (by decide) (by decide) (by decide) (by decide) (by decide) (by decide); have x107 := w9_51 107 (by decide) (by decide) (by decide) (by decide) (by decide) (by decide) (by decide) (by decide) (by decide) (by decide); have x89 := w9_51 89 (by decide) (by decide) (by decide) (by decide) (by decide) (by decide) (by decide) (by decide) (by decide) (by decide); have dpx := XS.dep hx; have hx1 := XS.fr2 hx w9_50 x88 x90 x101 x107 (k' := k) (d' := 1) (z' := z) (by omega) (XS.kz hx).1 ⟨(XS.kz hx).2, Int.le_refl _⟩ (by omega); exact XS.blk1 hx1 e31 kd p k' (fun w => by have q := h1 (by omega); omega) (fun w => by obtain ⟨u1, u2, u3, u4, u5, u6⟩ := h2 (by omega); exact ⟨u1, u2, u3, by omega, by rw [w9_50 659 _ (by decide)]; exact u5, u6⟩) (by rw [x101, ← e30]; exact hk) hk0 (by omega)) (Or.inr (Or.inl ⟨by omega, by omega, qs9, by omega⟩)) (TXr.o (TXr.k (TXr.k hT9 (by decide) (by decide) (by decide) (by decide)) (by decide) (by decide) (by decide) (by decide)) (by decide)) (blr_push (M := M) e30 (by omega) (fun i hi => by rw [ju_c _ _ (by decide), ju_c _ _ (by decide), ju_i _ _ hi]; exact w9_50 668 i (by decide)) (by rw [ju_c _ _ (by decide), ju_c _ _ (by decide), ju_same]) (ju_same _ _ _ _)) (fun a i f598 f668 f669 => ((ju_c _ _ f598).trans ((ju_c _ _ f669).trans ((ju_c _ _ f668).trans ((w9_50 a i f598).trans rfl))))) (fun i g73 g74 g75 g76 g77 g78 g79 g80 g81 g100 g107 => ((ju_i _ _ g107).trans ((ju_c _ _ (by decide)).trans ((ju_c _ _ (by decide)).trans ((w9_51 i g73 g74 g75 g76 g77 g78 g79 g80 g81 g100).trans rfl))))))
  · have x9_72 := w9_51 72 (by decide) (by decide) (by decide) (by decide) (by decide) (by decide) (by decide) (by decide) (by decide) (by decide)
    have x9_89 := w9_51 89 (by decide) (by decide) (by decide) (by decide) (by decide) (by decide) (by decide) (by decide) (by decide) (by decide)
    have mk2 : True := trivial
    refine jr.aload_n rfl rfl ?_
    refine jr.getf (i := 108) (v := .ref 668) rfl rfl (by decide) rfl (by decide) rfl rfl rfl rfl ?_
    refine jr.aload_n rfl rfl ?_
    obtain ⟨v50, e50⟩ : ∃ z, M 598 107 = z := ⟨_, rfl⟩
    have b50 : 0 ≤ v50 ∧ v50 ≤ 16 := by rw [← e50]; exact hI_M 598 107 (by decide)
    have e51 : M9 598 107 = v50 := ((w9_51 107 (by decide) (by decide) (by decide) (by decide) (by decide) (by decide) (by decide) (by decide) (by decide) (by decide)).trans e50)
    refine jr.getf (i := 107) (x := v50) (v := .int (Int32.ofInt (v50))) rfl rfl (by decide) rfl (by decide) rfl rfl e51 rfl ?_
    refine jr.iload_n rfl rfl ?_
    refine jr.iast (i := v50) (x := kd) rfl (by decide) rfl (by decide) (by omega) (by omega) ?_
    refine jr.aload_n rfl rfl ?_
    refine jr.getf (i := 109) (v := .ref 669) rfl rfl (by decide) rfl (by decide) rfl rfl rfl rfl ?_
    refine jr.aload_n rfl rfl ?_
    refine jr.getf (i := 107) (x := v50) (v := .int (Int32.ofInt (v50))) rfl rfl (by decide) rfl (by decide) rfl rfl ((ju_c _ _ (by decide)).trans e51) rfl ?_
    refine jr.iload_n rfl rfl ?_
    refine jr.iast (i := v50) (x := p) rfl (by decide) rfl (by decide) (by omega) (by omega) ?_
    refine jr.aload_n rfl rfl ?_
    refine jr.dup rfl rfl ?_
    refine jr.getf (i := 107) (x := v50) (v := .int (Int32.ofInt (v50))) rfl rfl (by decide) rfl (by decide) rfl rfl ((ju_c _ _ (by decide)).trans ((ju_c _ _ (by decide)).trans e51)) rfl ?_
    refine jr.iconst rfl ?_
    refine jr.iadd rfl ?_
    refine jr.putf (i := 107) (x := (v50 + 1)) rfl rfl (by decide) rfl (by decide) rfl rfl rfl rfl rfl ?_
    have e52 : M9 598 72 = v2 := ((w9_51 72 (by decide) (by decide) (by decide) (by decide) (by decide) (by decide) (by decide) (by decide) (by decide) (by decide)).trans e2)
    have y53 : (ju (ju (ju M9 668 v50 kd) 669 v50 p) 598 107 (v50 + 1)) 598 72 = v2 := ((ju_i _ _ (by decide)).trans ((ju_c _ _ (by decide)).trans ((ju_c _ _ (by decide)).trans e52)))
    obtain ⟨v54, e54⟩ : ∃ z, M9 598 73 = z := ⟨_, rfl⟩
    have b54 : 0 ≤ v54 ∧ v54 ≤ 1600 := by rw [← e54]; exact hI_M9 598 73 (by decide)
    have y55 : (ju (ju (ju M9 668 v50 kd) 669 v50 p) 598 107 (v50 + 1)) 598 73 = v54 := ((ju_i _ _ (by decide)).trans ((ju_c _ _ (by decide)).trans ((ju_c _ _ (by decide)).trans e54)))
    obtain ⟨v56, e56⟩ : ∃ z, M9 598 74 = z := ⟨_, rfl⟩
    have b56 : 0 ≤ v56 ∧ v56 ≤ 4 := by rw [← e56]; exact hI_M9 598 74 (by decide)
    have y57 : (ju (ju (ju M9 668 v50 kd) 669 v50 p) 598 107 (v50 + 1)) 598 74 = v56 := ((ju_i _ _ (by decide)).trans ((ju_c _ _ (by decide)).trans ((ju_c _ _ (by decide)).trans e56)))
    obtain ⟨v58, e58⟩ : ∃ z, M9 598 75 = z := ⟨_, rfl⟩
    have b58 : 0 ≤ v58 ∧ v58 ≤ 1600 := by rw [← e58]; exact hI_M9 598 75 (by decide)
    have y59 : (ju (ju (ju M9 668 v50 kd) 669 v50 p) 598 107 (v50 + 1)) 598 75 = v58 := ((ju_i _ _ (by decide)).trans ((ju_c _ _ (by decide)).trans ((ju_c _ _ (by decide)).trans e58)))
    obtain ⟨v60, e60⟩ : ∃ z, M9 598 79 = z := ⟨_, rfl⟩
    have b60 : 0 ≤ v60 ∧ v60 ≤ 255 := by rw [← e60]; exact hI_M9 598 79 (by decide)
    have y61 : (ju (ju (ju M9 668 v50 kd) 669 v50 p) 598 107 (v50 + 1)) 598 79 = v60 := ((ju_i _ _ (by decide)).trans ((ju_c _ _ (by decide)).trans ((ju_c _ _ (by decide)).trans e60)))
    obtain ⟨v62, e62⟩ : ∃ z, M9 598 80 = z := ⟨_, rfl⟩
    have b62 : 0 ≤ v62 ∧ v62 ≤ 7 := by rw [← e62]; exact hI_M9 598 80 (by decide)
    have y63 : (ju (ju (ju M9 668 v50 kd) 669 v50 p) 598 107 (v50 + 1)) 598 80 = v62 := ((ju_i _ _ (by decide)).trans ((ju_c _ _ (by decide)).trans ((ju_c _ _ (by decide)).trans e62)))
    obtain ⟨v64, e64⟩ : ∃ z, M9 598 81 = z := ⟨_, rfl⟩
    have b64 : (-1) ≤ v64 ∧ v64 ≤ 1600 := by rw [← e64]; exact hI_M9 598 81 (by decide)
    have y65 : (ju (ju (ju M9 668 v50 kd) 669 v50 p) 598 107 (v50 + 1)) 598 81 = v64 := ((ju_i _ _ (by decide)).trans ((ju_c _ _ (by decide)).trans ((ju_c _ _ (by decide)).trans e64)))
    obtain ⟨v66, e66⟩ : ∃ z, M9 598 100 = z := ⟨_, rfl⟩
    have b66 : 0 ≤ v66 ∧ v66 ≤ 13 := by rw [← e66]; exact hI_M9 598 100 (by decide)
    have y67 : (ju (ju (ju M9 668 v50 kd) 669 v50 p) 598 107 (v50 + 1)) 598 100 = v66 := ((ju_i _ _ (by decide)).trans ((ju_c _ _ (by decide)).trans ((ju_c _ _ (by decide)).trans e66)))
    have y68 : (ju (ju (ju M9 668 v50 kd) 669 v50 p) 598 107 (v50 + 1)) 598 107 = v50 + 1 := (ju_same _ _ _ _)
    have y69 : TK (ju (ju (ju M9 668 v50 kd) 669 v50 p) 598 107 (v50 + 1)) = TK M9 := ((TK.o (Or.inr ⟨by decide, by decide⟩)).trans ((TK.o (Or.inl (by decide))).trans ((TK.o (Or.inl (by decide))).trans rfl)))
    exact jr.vreturn rfl rfl (q _ (RI.u (RI.u (RI.u hI_M9 (a := 668) (i := v50) (by rw [xri_row rfl rfl]; show (0 : Int) ≤ _ ∧ _ ≤ (3 : Int); omega)) (a := 669) (i := v50) (by rw [xri_row rfl rfl]; show (0 : Int) ≤ _ ∧ _ ≤ (2200 : Int); omega)) (a := 598) (i := 107) (show (0 : Int) ≤ _ ∧ _ ≤ (16 : Int) from by omega)) (RH.o (RH.o (RH.o hH_M9 (by decide) (by decide) (by decide)) (by decide) (by decide) (by decide)) (by decide) (by decide) (by decide)) (RF.o (RF.o (RF.o hS_M9 (by decide) (by decide)) (by decide) (by decide)) (by decide) (by decide))  (by omega) (by omega) (by omega) (by omega) (fun b k k' z x hx hf h1 h2 hk hk0 => by have x88 := w9_51 88 (by decide) (by decide) (by decide) (by decide) (by decide) (by decide) (by decide) (by decide) (by decide) (by decide); have x90 := w9_51 90 (by decide) (by decide) (by decide) (by decide) (by decide) (by decide) (by decide) (by decide) (by decide) (by decide); have x101 := w9_51 101 (by decide) (by decide) (by decide) (by decide) (by decide) (by decide) (by decide) (by decide) (by decide) (by decide); have x107 := w9_51 107 (by decide) (by decide) (by decide) (by decide) (by decide) (by decide) (by decide) (by decide) (by decide) (by decide); have x89 := w9_51 89 (by decide) (by decide) (by decide) (by decide) (by decide) (by decide) (by decide) (by decide) (by decide) (by decide); have dpx := XS.dep hx; have hx1 := XS.fr2 hx w9_50 x88 x90 x101 x107 (k' := k) (d' := 1) (z' := z) (by omega) (XS.kz hx).1 ⟨(XS.kz hx).2, Int.le_refl _⟩ (by omega); exact XS.blk1 hx1 e51 kd p k' (fun w => by have q := h1 (by omega); omega) (fun w => by obtain ⟨u1, u2, u3, u4, u5, u6⟩ := h2 (by omega); exact ⟨u1, u2, u3, by omega, by rw [w9_50 659 _ (by decide)]; exact u5, u6⟩) (by rw [x101, ← e50]; exact hk) hk0 (by omega)) (Or.inr (Or.inr ⟨by omega, by omega, by omega, qs9⟩)) (TXr.o (TXr.k (TXr.k hT9 (by decide) (by decide) (by decide) (by decide)) (by decide) (by decide) (by decide) (by decide)) (by decide)) (blr_push (M := M) e50 (by omega) (fun i hi => by rw [ju_c _ _ (by decide), ju_c _ _ (by decide), ju_i _ _ hi]; exact w9_50 668 i (by decide)) (by rw [ju_c _ _ (by decide), ju_c _ _ (by decide), ju_same]) (ju_same _ _ _ _)) (fun a i f598 f668 f669 => ((ju_c _ _ f598).trans ((ju_c _ _ f669).trans ((ju_c _ _ f668).trans ((w9_50 a i f598).trans rfl))))) (fun i g73 g74 g75 g76 g77 g78 g79 g80 g81 g100 g107 => ((ju_i _ _ g107).trans ((ju_c _ _ (by decide)).trans ((ju_c _ _ (by decide)).trans ((w9_51 i g73 g74 g75 g76 g77 g78 g79 g80 g81 g100).trans rfl))))))
set_option maxHeartbeats 8000000 in
theorem r_beginBlock_zb {A : Nat → Option (Nat × (Nat → Int32))} {Q : Option Value → jm → Prop} {f : Int → Int} {N : Int} {M : jm} (hI_M : RI M) (hH_M : RH M) (hS_M : RF M) {kd : Int} (h_kd : 0 ≤ kd ∧ kd ≤ 3) {p : Int} (h_p : 0 ≤ p ∧ p ≤ 2200) (p0 : M 598 73 ≤ M 598 72) (p1 : TXr f N M) (p2 : M 598 107 ≤ 15) (p3 : M 598 80 ≠ 0) (q : ∀ (M' : jm), RI M' → RH M' → RF M' → M' 598 73 ≤ M' 598 72 → M 598 73 ≤ M' 598 73 → TK M' ≤ TK M → M' 598 107 = M 598 107 + 1 → M' 598 80 = M 598 80 → M' 598 81 = M 598 81 → TXr f N M' → (∀ (a : Nat) (i : Int), a ≠ 598 → a ≠ 668 → a ≠ 669 → M' a i = M a i) → (∀ (i : Int), i ≠ 73 → i ≠ 74 → i ≠ 75 → i ≠ 76 → i ≠ 77 → i ≠ 78 → i ≠ 79 → i ≠ 80 → i ≠ 81 → i ≠ 100 → i ≠ 107 → M' 598 i = M 598 i) → Q none M') : jc A 5 365 [.ref (598), .int (Int32.ofInt (kd)), .int (Int32.ofInt (p))] M Q := by
  have hT := p1
  refine jc_of (m := xm_365) rfl (Nat.le_of_ble_eq_true rfl) rfl ?_
  refine jr.aload_n rfl rfl ?_
  refine jr.bipush rfl (by decide) ?_
  obtain ⟨v1, e1⟩ : ∃ z, M 598 73 = z := ⟨_, rfl⟩
  have b1 : 0 ≤ v1 ∧ v1 ≤ 1600 := by rw [← e1]; exact hI_M 598 73 (by decide)
  obtain ⟨v2, e2⟩ : ∃ z, M 598 72 = z := ⟨_, rfl⟩
  have b2 : 0 ≤ v2 ∧ v2 ≤ 1600 := by rw [← e2]; exact hI_M 598 72 (by decide)
  obtain ⟨v3, e3⟩ : ∃ z, M 598 80 = z := ⟨_, rfl⟩
  have b3 : 0 ≤ v3 ∧ v3 ≤ 7 := by rw [← e3]; exact hI_M 598 80 (by decide)
  obtain ⟨v4, e4⟩ : ∃ z, M 598 89 = z := ⟨_, rfl⟩
  have b4 : 0 ≤ v4 ∧ v4 ≤ 301 := by rw [← e4]; exact hI_M 598 89 (by decide)
  obtain ⟨v5, e5⟩ : ∃ z, M 598 100 = z := ⟨_, rfl⟩
  have b5 : 0 ≤ v5 ∧ v5 ≤ 13 := by rw [← e5]; exact hI_M 598 100 (by decide)
  obtain ⟨v6, e6⟩ : ∃ z, M 598 81 = z := ⟨_, rfl⟩
  have b6 : (-1) ≤ v6 ∧ v6 ≤ 1600 := by rw [← e6]; exact hI_M 598 81 (by decide)
  refine jr_v rfl rfl (Or.inl rfl) rfl rfl (by decide) rfl ⟨rfl, Nat.le_of_ble_eq_true rfl, Nat.le_of_ble_eq_true rfl⟩ rfl (jc.deep (d_wantDeeper_z (f := f) (N := N) hI_M hH_M hS_M (by omega) (by rw [e1, e2]; omega) hT (by rw [e3]; omega) (fun M7 hI_M7 hH_M7 hS_M7 qa7 qb7 qt7 q07 q17 hT7 w7_50 w7_51 => ?_)) (by decide))
  have x7_72 := w7_51 72 (by decide) (by decide) (by decide) (by decide) (by decide) (by decide) (by decide) (by decide) (by decide) (by decide)
  have x7_89 := w7_51 89 (by decide) (by decide) (by decide) (by decide) (by decide) (by decide) (by decide) (by decide) (by decide) (by decide)
  refine jr.aload_n rfl rfl ?_
  refine jr.getf (i := 108) (v := .ref 668) rfl rfl (by decide) rfl (by decide) rfl rfl rfl rfl ?_
  refine jr.aload_n rfl rfl ?_
  obtain ⟨v8, e8⟩ : ∃ z, M 598 107 = z := ⟨_, rfl⟩
  have b8 : 0 ≤ v8 ∧ v8 ≤ 16 := by rw [← e8]; exact hI_M 598 107 (by decide)
  have e9 : M7 598 107 = v8 := ((w7_51 107 (by decide) (by decide) (by decide) (by decide) (by decide) (by decide) (by decide) (by decide) (by decide) (by decide)).trans e8)
  refine jr.getf (i := 107) (x := v8) (v := .int (Int32.ofInt (v8))) rfl rfl (by decide) rfl (by decide) rfl rfl e9 rfl ?_
  refine jr.iload_n rfl rfl ?_
  refine jr.iast (i := v8) (x := kd) rfl (by decide) rfl (by decide) (by omega) (by omega) ?_
  refine jr.aload_n rfl rfl ?_
  refine jr.getf (i := 109) (v := .ref 669) rfl rfl (by decide) rfl (by decide) rfl rfl rfl rfl ?_
  refine jr.aload_n rfl rfl ?_
  refine jr.getf (i := 107) (x := v8) (v := .int (Int32.ofInt (v8))) rfl rfl (by decide) rfl (by decide) rfl rfl ((ju_c _ _ (by decide)).trans e9) rfl ?_
  refine jr.iload_n rfl rfl ?_
  refine jr.iast (i := v8) (x := p) rfl (by decide) rfl (by decide) (by omega) (by omega) ?_
  refine jr.aload_n rfl rfl ?_
  refine jr.dup rfl rfl ?_
  refine jr.getf (i := 107) (x := v8) (v := .int (Int32.ofInt (v8))) rfl rfl (by decide) rfl (by decide) rfl rfl ((ju_c _ _ (by decide)).trans ((ju_c _ _ (by decide)).trans e9)) rfl ?_
  refine jr.iconst rfl ?_
  refine jr.iadd rfl ?_
  refine jr.putf (i := 107) (x := (v8 + 1)) rfl rfl (by decide) rfl (by decide) rfl rfl rfl rfl rfl ?_
  have e10 : M7 598 72 = v2 := ((w7_51 72 (by decide) (by decide) (by decide) (by decide) (by decide) (by decide) (by decide) (by decide) (by decide) (by decide)).trans e2)
  have y11 : (ju (ju (ju M7 668 v8 kd) 669 v8 p) 598 107 (v8 + 1)) 598 72 = v2 := ((ju_i _ _ (by decide)).trans ((ju_c _ _ (by decide)).trans ((ju_c _ _ (by decide)).trans e10)))
  obtain ⟨v12, e12⟩ : ∃ z, M7 598 73 = z := ⟨_, rfl⟩
  have b12 : 0 ≤ v12 ∧ v12 ≤ 1600 := by rw [← e12]; exact hI_M7 598 73 (by decide)
  have y13 : (ju (ju (ju M7 668 v8 kd) 669 v8 p) 598 107 (v8 + 1)) 598 73 = v12 := ((ju_i _ _ (by decide)).trans ((ju_c _ _ (by decide)).trans ((ju_c _ _ (by decide)).trans e12)))
  obtain ⟨v14, e14⟩ : ∃ z, M7 598 74 = z := ⟨_, rfl⟩
  have b14 : 0 ≤ v14 ∧ v14 ≤ 4 := by rw [← e14]; exact hI_M7 598 74 (by decide)
  have y15 : (ju (ju (ju M7 668 v8 kd) 669 v8 p) 598 107 (v8 + 1)) 598 74 = v14 := ((ju_i _ _ (by decide)).trans ((ju_c _ _ (by decide)).trans ((ju_c _ _ (by decide)).trans e14)))
  obtain ⟨v16, e16⟩ : ∃ z, M7 598 75 = z := ⟨_, rfl⟩
  have b16 : 0 ≤ v16 ∧ v16 ≤ 1600 := by rw [← e16]; exact hI_M7 598 75 (by decide)
  have y17 : (ju (ju (ju M7 668 v8 kd) 669 v8 p) 598 107 (v8 + 1)) 598 75 = v16 := ((ju_i _ _ (by decide)).trans ((ju_c _ _ (by decide)).trans ((ju_c _ _ (by decide)).trans e16)))
  obtain ⟨v18, e18⟩ : ∃ z, M7 598 79 = z := ⟨_, rfl⟩
  have b18 : 0 ≤ v18 ∧ v18 ≤ 255 := by rw [← e18]; exact hI_M7 598 79 (by decide)
  have y19 : (ju (ju (ju M7 668 v8 kd) 669 v8 p) 598 107 (v8 + 1)) 598 79 = v18 := ((ju_i _ _ (by decide)).trans ((ju_c _ _ (by decide)).trans ((ju_c _ _ (by decide)).trans e18)))
  obtain ⟨v20, e20⟩ : ∃ z, M7 598 80 = z := ⟨_, rfl⟩
  have b20 : 0 ≤ v20 ∧ v20 ≤ 7 := by rw [← e20]; exact hI_M7 598 80 (by decide)
  have y21 : (ju (ju (ju M7 668 v8 kd) 669 v8 p) 598 107 (v8 + 1)) 598 80 = v20 := ((ju_i _ _ (by decide)).trans ((ju_c _ _ (by decide)).trans ((ju_c _ _ (by decide)).trans e20)))
  obtain ⟨v22, e22⟩ : ∃ z, M7 598 81 = z := ⟨_, rfl⟩
  have b22 : (-1) ≤ v22 ∧ v22 ≤ 1600 := by rw [← e22]; exact hI_M7 598 81 (by decide)
  have y23 : (ju (ju (ju M7 668 v8 kd) 669 v8 p) 598 107 (v8 + 1)) 598 81 = v22 := ((ju_i _ _ (by decide)).trans ((ju_c _ _ (by decide)).trans ((ju_c _ _ (by decide)).trans e22)))
  obtain ⟨v24, e24⟩ : ∃ z, M7 598 100 = z := ⟨_, rfl⟩
  have b24 : 0 ≤ v24 ∧ v24 ≤ 13 := by rw [← e24]; exact hI_M7 598 100 (by decide)
  have y25 : (ju (ju (ju M7 668 v8 kd) 669 v8 p) 598 107 (v8 + 1)) 598 100 = v24 := ((ju_i _ _ (by decide)).trans ((ju_c _ _ (by decide)).trans ((ju_c _ _ (by decide)).trans e24)))
  have y26 : (ju (ju (ju M7 668 v8 kd) 669 v8 p) 598 107 (v8 + 1)) 598 107 = v8 + 1 := (ju_same _ _ _ _)
  have y27 : TK (ju (ju (ju M7 668 v8 kd) 669 v8 p) 598 107 (v8 + 1)) = TK M7 := ((TK.o (Or.inr ⟨by decide, by decide⟩)).trans ((TK.o (Or.inl (by decide))).trans ((TK.o (Or.inl (by decide))).trans rfl)))
  exact jr.vreturn rfl rfl (q _ (RI.u (RI.u (RI.u hI_M7 (a := 668) (i := v8) (by rw [xri_row rfl rfl]; show (0 : Int) ≤ _ ∧ _ ≤ (3 : Int); omega)) (a := 669) (i := v8) (by rw [xri_row rfl rfl]; show (0 : Int) ≤ _ ∧ _ ≤ (2200 : Int); omega)) (a := 598) (i := 107) (show (0 : Int) ≤ _ ∧ _ ≤ (16 : Int) from by omega)) (RH.o (RH.o (RH.o hH_M7 (by decide) (by decide) (by decide)) (by decide) (by decide) (by decide)) (by decide) (by decide) (by decide)) (RF.o (RF.o (RF.o hS_M7 (by decide) (by decide)) (by decide) (by decide)) (by decide) (by decide))  (by omega) (by omega) (by omega) (by omega) (by omega) (by omega) (TXr.o (TXr.k (TXr.k hT7 (by decide) (by decide) (by decide) (by decide)) (by decide) (by decide) (by decide) (by decide)) (by decide)) (fun a i f598 f668 f669 => ((ju_c _ _ f598).trans ((ju_c _ _ f669).trans ((ju_c _ _ f668).trans ((w7_50 a i f598).trans rfl))))) (fun i g73 g74 g75 g76 g77 g78 g79 g80 g81 g100 g107 => ((ju_i _ _ g107).trans ((ju_c _ _ (by decide)).trans ((ju_c _ _ (by decide)).trans ((w7_51 i g73 g74 g75 g76 g77 g78 g79 g80 g81 g100).trans rfl))))))
theorem c_beginBlock_z {A : Nat → Option (Nat × (Nat → Int32))} {Q : Option Value → jm → Prop} {f : Int → Int} {N : Int} {M : jm} (hI_M : RI M) (hH_M : RH M) (hS_M : RF M) {kd : Int} (h_kd : 0 ≤ kd ∧ kd ≤ 3) {p : Int} (h_p : 0 ≤ p ∧ p ≤ 2200) {t : Int} (p0 : M 598 73 ≤ M 598 72) (hK : TKr f N t M) (h0 : M 598 80 = 0) (p2 : M 598 100 ≤ 12) (p3 : M 598 107 ≤ 15) (hs : (M 598 74 = 3 → M 598 79 ≠ 10 ∧ M 598 79 ≠ 11)) (k1 : ∀ M' : jm, RI M' → RH M' → RF M' → M' 598 73 ≤ M' 598 72 → M 598 73 ≤ M' 598 73 → TK M' < TK M → M' 598 100 = M 598 100 + 1 → M 598 100 < 12 → (M' 598 74 = 3 → M' 598 79 ≠ 10 ∧ M' 598 79 ≠ 11) → M' 598 80 = 0 → M' 598 81 = M 598 81 → (zso f N t = 3 ∧ f t = 123) → TKr f N (znx f N t) M' → M' 598 107 = M 598 107 + 1 → (∀ b k k' z x : Int, XS M b k 0 z x → M' 598 80 = 0 → (M 598 107 = 0 → kd = M 598 101 ∧ 0 ≤ kd ∧ kd ≤ 1 ∧ x = -1) → (1 ≤ M 598 107 → 2 ≤ kd ∧ kd ≤ 3 ∧ 0 ≤ p ∧ p < M 598 90 ∧ M 659 p = kd - 1 ∧ x = p) → k' + RVq (M 598 107 + 1) (M 598 101) ≤ k + RVq (M 598 107) (M 598 101) → 0 ≤ k' → XS M' b k' 0 z (-1)) → blr M' = (kd, 0, 0, 0) :: blr M → (∀ (a : Nat) (i : Int), a ≠ 598 → a ≠ 668 → a ≠ 669 → M' a i = M a i) → (∀ (i : Int), i ≠ 73 → i ≠ 74 → i ≠ 75 → i ≠ 76 → i ≠ 77 → i ≠ 78 → i ≠ 79 → i ≠ 80 → i ≠ 81 → i ≠ 100 → i ≠ 107 → M' 598 i = M 598 i) → Q none M') (k2 : ∀ M' : jm, RI M' → RH M' → RF M' → M' 598 73 ≤ M' 598 72 → M 598 73 ≤ M' 598 73 → TK M' ≤ TK M → M 598 100 = 12 → M' 598 80 = 3 → M' 598 81 = t → (zso f N t = 3 ∧ f t = 123) → TXr f N M' → M' 598 107 = M 598 107 + 1 → (∀ (a : Nat) (i : Int), a ≠ 598 → a ≠ 668 → a ≠ 669 → M' a i = M a i) → (∀ (i : Int), i ≠ 73 → i ≠ 74 → i ≠ 75 → i ≠ 76 → i ≠ 77 → i ≠ 78 → i ≠ 79 → i ≠ 80 → i ≠ 81 → i ≠ 100 → i ≠ 107 → M' 598 i = M 598 i) → Q none M') (k3 : ∀ M' : jm, RI M' → RH M' → RF M' → M' 598 73 ≤ M' 598 72 → M 598 73 ≤ M' 598 73 → TK M' ≤ TK M → M' 598 80 ≠ 0 → M' 598 80 = zwr (zso f N t) → M' 598 81 = t → ¬ (zso f N t = 3 ∧ f t = 123) → TXr f N M' → M' 598 107 = M 598 107 + 1 → (∀ (a : Nat) (i : Int), a ≠ 598 → a ≠ 668 → a ≠ 669 → M' a i = M a i) → (∀ (i : Int), i ≠ 73 → i ≠ 74 → i ≠ 75 → i ≠ 76 → i ≠ 77 → i ≠ 78 → i ≠ 79 → i ≠ 80 → i ≠ 81 → i ≠ 100 → i ≠ 107 → M' 598 i = M 598 i) → Q none M') : jc A 5 365 [.ref (598), .int (Int32.ofInt (kd)), .int (Int32.ofInt (p))] M Q := r_beginBlock_z hI_M hH_M hS_M h_kd h_p p0 hK p2 p3 h0 hs (fun M' a1 a2 a3 w0 w1 w2 w3 w4 w5 w6 w7 w8 w9 => by
  rcases w5 with h | h | h
  · exact k1 M' a1 a2 a3 w0 w1 h.2.2.2.2.2.1 h.2.2.2.2.1 h.2.2.2.1 h.2.2.2.2.2.2.1 h.1 h.2.1 h.2.2.1 h.2.2.2.2.2.2.2 w3 w4 w7 w8 w9
  · exact k2 M' a1 a2 a3 w0 w1 w2 h.2.2.2 h.1 h.2.1 h.2.2.1 w6 w3 w8 w9
  · exact k3 M' a1 a2 a3 w0 w1 w2 h.1 h.2.1 h.2.2.1 h.2.2.2 w6 w3 w8 w9)
theorem d_beginBlock_z {A : Nat → Option (Nat × (Nat → Int32))} {Q : Option Value → jm → Prop} {f : Int → Int} {N : Int} {M : jm} (hI_M : RI M) (hH_M : RH M) (hS_M : RF M) {kd : Int} (h_kd : 0 ≤ kd ∧ kd ≤ 3) {p : Int} (h_p : 0 ≤ p ∧ p ≤ 2200) (p0 : M 598 73 ≤ M 598 72) (hT : TXr f N M) (h0 : M 598 80 ≠ 0) (p3 : M 598 107 ≤ 15) (k1 : ∀ M' : jm, RI M' → RH M' → RF M' → M' 598 73 ≤ M' 598 72 → M 598 73 ≤ M' 598 73 → TK M' ≤ TK M → M' 598 80 = M 598 80 → M' 598 81 = M 598 81 → TXr f N M' → M' 598 107 = M 598 107 + 1 → (∀ (a : Nat) (i : Int), a ≠ 598 → a ≠ 668 → a ≠ 669 → M' a i = M a i) → (∀ (i : Int), i ≠ 73 → i ≠ 74 → i ≠ 75 → i ≠ 76 → i ≠ 77 → i ≠ 78 → i ≠ 79 → i ≠ 80 → i ≠ 81 → i ≠ 100 → i ≠ 107 → M' 598 i = M 598 i) → Q none M') : jc A 5 365 [.ref (598), .int (Int32.ofInt (kd)), .int (Int32.ofInt (p))] M Q := r_beginBlock_zb hI_M hH_M hS_M h_kd h_p p0 hT p3 h0 (fun M' a1 a2 a3 w0 w1 w2 w3 w4 w5 w6 w7 w8 => by
  exact k1 M' a1 a2 a3 w0 w1 w2 w4 w5 w6 w3 w7 w8)
theorem c_exp_z {A : Nat → Option (Nat × (Nat → Int32))} {M : jm} {Q : Option Value → jm → Prop} {f : Int → Int} {N : Int} {b kk : Int} {xs : ZS} {t bh : Int} {s0 : List (Int × Int × Int × Int)} {nm ak : List Int} (hI_M : RI M) (hH_M : RH M) (hS_M : RF M) (p0 : SS M b kk) (p1 : 0 ≤ b ∧ b ≤ 4) (p2 : TKr f N t M) (p3 : zr f N xs (2, t, M 598 89, M 598 100, 0, bh, s0, nm, ak)) (p4 : HD s0) (k1 : ∀ M' : jm, RI M' → RH M' → RF M' → BS M' → TK M' ≤ TK M → M' 598 73 ≤ M' 598 72 → CP M M' → M 598 89 ≤ M' 598 89 → TXr f N M' → zr f N xs (zft (M' 598 80) (M' 598 81)) → (∀ (a : Nat) (i : Int), a ≠ 598 → a ≠ 659 → a ≠ 660 → a ≠ 664 → a ≠ 665 → a ≠ 666 → a ≠ 667 → M' a i = M a i) → (∀ (i : Int), i ≠ 73 → i ≠ 74 → i ≠ 75 → i ≠ 76 → i ≠ 77 → i ≠ 78 → i ≠ 79 → i ≠ 80 → i ≠ 81 → i ≠ 89 → i ≠ 90 → i ≠ 100 → i ≠ 102 → M' 598 i = M 598 i) → Q none M') (k2 : ∀ M' : jm, RI M' → RH M' → RF M' → SS M' (b + 1) kk → TK M' < TK M → CP M M' → M 598 89 ≤ M' 598 89 → TXr f N M' → M' 598 81 = M 598 81 → (ZEP f N xs M' bh s0 nm ak) → (∀ (a : Nat) (i : Int), a ≠ 598 → a ≠ 659 → a ≠ 660 → a ≠ 664 → a ≠ 665 → a ≠ 666 → a ≠ 667 → M' a i = M a i) → (∀ (i : Int), i ≠ 73 → i ≠ 74 → i ≠ 75 → i ≠ 76 → i ≠ 77 → i ≠ 78 → i ≠ 79 → i ≠ 80 → i ≠ 81 → i ≠ 89 → i ≠ 90 → i ≠ 100 → i ≠ 102 → M' 598 i = M 598 i) → Q none M') : jc A 7 364 [.ref (598)] M Q := r_exp_z hI_M hH_M hS_M p0 p1 p2 p3 p4 (fun M' a1 a2 a3 w0 w1 w2 w3 w4 w5 w6 w7 w8 w9 w10 w11 => by
  rcases w0 with z | z
  · exact k1 M' a1 a2 a3 z w1 w2 w4 w5 w6 (w7 z.1) w10 w11
  · exact k2 M' a1 a2 a3 z.1 z.2 w4 w5 w6 (w9 z.1.1) (w8 z.1.1) w10 w11)
set_option maxHeartbeats 8000000 in
theorem r_deed_L230_z {A : Nat → Option (Nat × (Nat → Int32))} {Q : Option Value → jm → Prop} {f : Int → Int} {N : Int} {xs : ZS} {t : Int} {nm ak : List Int} {M0 : jm} (q : ∀ (M' : jm), RI M' → RH M' → RF M' → (BT M' ∨ (DS M' 0 ∧ TK M' < TK M0)) → TK M' ≤ TK M0 → M' 598 73 ≤ M' 598 72 → (M' 598 80 ≠ 0 ∨ TK M' < TK M0) → M0 598 107 ≤ M' 598 107 → TXr f N M' → ZFQ f N xs M' → ZDPQ f N xs M' nm → K8Q M0 M' → (∀ (a : Nat) (i : Int), a ≠ 598 → a ≠ 659 → a ≠ 660 → a ≠ 661 → a ≠ 662 → a ≠ 663 → a ≠ 664 → a ≠ 665 → a ≠ 666 → a ≠ 667 → a ≠ 668 → a ≠ 669 → M' a i = M0 a i) → (∀ (i : Int), i ≠ 73 → i ≠ 74 → i ≠ 75 → i ≠ 76 → i ≠ 77 → i ≠ 78 → i ≠ 79 → i ≠ 80 → i ≠ 81 → i ≠ 89 → i ≠ 90 → i ≠ 96 → i ≠ 100 → i ≠ 102 → i ≠ 107 → M' 598 i = M0 598 i) → Q none M') : ∀ (M : jm) (w : Int), RI M → RH M → RF M → (∀ (a : Nat) (i : Int), a ≠ 598 → a ≠ 659 → a ≠ 660 → a ≠ 661 → a ≠ 662 → a ≠ 663 → a ≠ 664 → a ≠ 665 → a ≠ 666 → a ≠ 667 → a ≠ 668 → a ≠ 669 → M a i = M0 a i) → (∀ (i : Int), i ≠ 73 → i ≠ 74 → i ≠ 75 → i ≠ 76 → i ≠ 77 → i ≠ 78 → i ≠ 79 → i ≠ 80 → i ≠ 81 → i ≠ 89 → i ≠ 90 → i ≠ 96 → i ≠ 100 → i ≠ 102 → i ≠ 107 → M 598 i = M0 598 i) → 4 ≤ w ∧ w ≤ 18 → (BS M ∨ DJ M w) → M 598 73 ≤ M 598 72 → TK M ≤ TK M0 → (M 598 80 ≠ 0 ∨ TK M < TK M0) → M 598 107 = M0 598 107 → 1 ≤ M 598 88 → M 598 107 ≤ 12 → TXr f N M → ZFQ f N xs M → ZSCQ f N xs M nm → K8Q M0 M → jr A 7 xm_367 230 [(1, .int (Int32.ofInt (w))), (0, .ref (598))] [] M Q := by
    intro M w hI_M hH_M hS_M hF_M hG_M h_w hy0 hy1 hy2 hy3 hy4 hy5 hy6 hy7 hy8 hy9 hy10
    have hT := hy7
    rcases hy0 with zb | zg
    · obtain ⟨za, zc⟩ := zb
      have zfz := hy8 za
      refine jr.aload_n rfl rfl ?_
      refine jr.bipush rfl (by decide) ?_
      refine jr.iload_n rfl rfl ?_
      refine jr.iadd rfl ?_
      refine jr.lconst (x := 0) rfl (by decide) ?_
      obtain ⟨v1, e1⟩ : ∃ z, M 598 90 = z := ⟨_, rfl⟩
      have b1 : 0 ≤ v1 ∧ v1 ≤ 2200 := by rw [← e1]; exact hI_M 598 90 (by decide)
      refine jr_v rfl rfl (Or.inl rfl) rfl rfl (by decide) rfl ⟨rfl, Nat.le_of_ble_eq_true rfl, Nat.le_of_ble_eq_true rfl⟩ rfl (jc.deep (r_emit e1 (by omega) (by omega) (by omega) ?_) (by decide))
      refine jr.aload_n rfl rfl ?_
      refine jr.bipush rfl (by decide) ?_
      obtain ⟨v2, e2⟩ : ∃ z, M 598 73 = z := ⟨_, rfl⟩
      have b2 : 0 ≤ v2 ∧ v2 ≤ 1600 := by rw [← e2]; exact hI_M 598 73 (by decide)
      obtain ⟨v3, e3⟩ : ∃ z, M 598 72 = z := ⟨_, rfl⟩
      have b3 : 0 ≤ v3 ∧ v3 ≤ 1600 := by rw [← e3]; exact hI_M 598 72 (by decide)
      obtain ⟨v4, e4⟩ : ∃ z, M 598 80 = z := ⟨_, rfl⟩
      have b4 : 0 ≤ v4 ∧ v4 ≤ 7 := by rw [← e4]; exact hI_M 598 80 (by decide)
      obtain ⟨v6, e6⟩ : ∃ z, M 598 74 = z := ⟨_, rfl⟩
      have b6 : 0 ≤ v6 ∧ v6 ≤ 4 := by rw [← e6]; exact hI_M 598 74 (by decide)
      obtain ⟨v8, e8⟩ : ∃ z, M 598 75 = z := ⟨_, rfl⟩
      have b8 : 0 ≤ v8 ∧ v8 ≤ 1600 := by rw [← e8]; exact hI_M 598 75 (by decide)
      obtain ⟨v10, e10⟩ : ∃ z, M 598 79 = z := ⟨_, rfl⟩
      have b10 : 0 ≤ v10 ∧ v10 ≤ 255 := by rw [← e10]; exact hI_M 598 79 (by decide)
      obtain ⟨v13, e13⟩ : ∃ z, M 598 81 = z := ⟨_, rfl⟩
      have b13 : (-1) ≤ v13 ∧ v13 ≤ 1600 := by rw [← e13]; exact hI_M 598 81 (by decide)
      obtain ⟨v15, e15⟩ : ∃ z, M 598 89 = z := ⟨_, rfl⟩
      have b15 : 0 ≤ v15 ∧ v15 ≤ 301 := by rw [← e15]; exact hI_M 598 89 (by decide)
      obtain ⟨v17, e17⟩ : ∃ z, M 598 100 = z := ⟨_, rfl⟩
      have b17 : 0 ≤ v17 ∧ v17 ≤ 13 := by rw [← e17]; exact hI_M 598 100 (by decide)
      refine jr_v rfl rfl (Or.inl rfl) rfl rfl (by decide) rfl ⟨rfl, Nat.le_of_ble_eq_true rfl, Nat.le_of_ble_eq_true rfl⟩ rfl (jc.deep (d_want_z (f := f) (N := N) (RI.u (RI.u (RI.u hI_M (a := 659) (i := v1) (by rw [xri_row rfl rfl]; show (0 : Int) ≤ _ ∧ _ ≤ (1000 : Int); omega)) (a := 660) (i := v1) (by rw [xri_row rfl rfl]; show (-9223372036854775808 : Int) ≤ _ ∧ _ ≤ (9223372036854775807 : Int); omega)) (a := 598) (i := 90) (show (0 : Int) ≤ _ ∧ _ ≤ (2200 : Int) from by omega)) (RH.o (RH.o (RH.o hH_M (by decide) (by decide) (by decide)) (by decide) (by decide) (by decide)) (by decide) (by decide) (by decide)) (RF.o (RF.o (RF.o hS_M (by decide) (by decide)) (by decide) (by decide)) (by decide) (by decide)) (by omega) (by rw [((ju_i _ _ (by decide)).trans ((ju_c _ _ (by decide)).trans ((ju_c _ _ (by decide)).trans e2))), ((ju_i _ _ (by decide)).trans ((ju_c _ _ (by decide)).trans ((ju_c _ _ (by decide)).trans e3)))]; omega) (TXr.o (TXr.k (TXr.k hT (by decide) (by decide) (by decide) (by decide)) (by decide) (by decide) (by decide) (by decide)) (by decide)) (by rw [((ju_i _ _ (by decide)).trans ((ju_c _ _ (by decide)).trans ((ju_c _ _ (by decide)).trans e4)))]; omega) (fun M19 hI_M19 hH_M19 hS_M19 qa19 qb19 qt19 q019 q119 hT19 w19_50 w19_51 => ?_)) (by decide))
      have y5 : (ju (ju (ju M 659 v1 (20 + w)) 660 v1 0) 598 90 (v1 + 1)) 598 73 = v2 := ((ju_i _ _ (by decide)).trans ((ju_c _ _ (by decide)).trans ((ju_c _ _ (by decide)).trans e2)))
      have y7 : (ju (ju (ju M 659 v1 (20 + w)) 660 v1 0) 598 90 (v1 + 1)) 598 74 = v6 := ((ju_i _ _ (by decide)).trans ((ju_c _ _ (by decide)).trans ((ju_c _ _ (by decide)).trans e6)))
      have y9 : (ju (ju (ju M 659 v1 (20 + w)) 660 v1 0) 598 90 (v1 + 1)) 598 75 = v8 := ((ju_i _ _ (by decide)).trans ((ju_c _ _ (by decide)).trans ((ju_c _ _ (by decide)).trans e8)))
      have y11 : (ju (ju (ju M 659 v1 (20 + w)) 660 v1 0) 598 90 (v1 + 1)) 598 79 = v10 := ((ju_i _ _ (by decide)).trans ((ju_c _ _ (by decide)).trans ((ju_c _ _ (by decide)).trans e10)))
      have y12 : (ju (ju (ju M 659 v1 (20 + w)) 660 v1 0) 598 90 (v1 + 1)) 598 80 = v4 := ((ju_i _ _ (by decide)).trans ((ju_c _ _ (by decide)).trans ((ju_c _ _ (by decide)).trans e4)))
      have y14 : (ju (ju (ju M 659 v1 (20 + w)) 660 v1 0) 598 90 (v1 + 1)) 598 81 = v13 := ((ju_i _ _ (by decide)).trans ((ju_c _ _ (by decide)).trans ((ju_c _ _ (by decide)).trans e13)))
      have y16 : (ju (ju (ju M 659 v1 (20 + w)) 660 v1 0) 598 90 (v1 + 1)) 598 89 = v15 := ((ju_i _ _ (by decide)).trans ((ju_c _ _ (by decide)).trans ((ju_c _ _ (by decide)).trans e15)))
      have y18 : (ju (ju (ju M 659 v1 (20 + w)) 660 v1 0) 598 90 (v1 + 1)) 598 100 = v17 := ((ju_i _ _ (by decide)).trans ((ju_c _ _ (by decide)).trans ((ju_c _ _ (by decide)).trans e17)))
      have tb19 : TK (ju (ju (ju M 659 v1 (20 + w)) 660 v1 0) 598 90 (v1 + 1)) = TK M := ((TK.o (Or.inr ⟨by decide, by decide⟩)).trans ((TK.o (Or.inl (by decide))).trans ((TK.o (Or.inl (by decide))).trans rfl)))
      have x19_72 := w19_51 72 (by decide) (by decide) (by decide) (by decide) (by decide) (by decide) (by decide) (by decide) (by decide)
      have x19_89 := w19_51 89 (by decide) (by decide) (by decide) (by decide) (by decide) (by decide) (by decide) (by decide) (by decide)
      have x19_100 := w19_51 100 (by decide) (by decide) (by decide) (by decide) (by decide) (by decide) (by decide) (by decide) (by decide)
      have zfz : zr f N xs (zft (M19 598 80) (M19 598 81)) := zr.fe zfz (by omega) (by omega)
      have e20 : M19 598 72 = v3 := ((w19_51 72 (by decide) (by decide) (by decide) (by decide) (by decide) (by decide) (by decide) (by decide) (by decide)).trans ((ju_i _ _ (by decide)).trans ((ju_c _ _ (by decide)).trans ((ju_c _ _ (by decide)).trans e3))))
      have y21 : M19 598 72 = v3 := e20
      obtain ⟨v22, e22⟩ : ∃ z, M19 598 73 = z := ⟨_, rfl⟩
      have b22 : 0 ≤ v22 ∧ v22 ≤ 1600 := by rw [← e22]; exact hI_M19 598 73 (by decide)
      have y23 : M19 598 73 = v22 := e22
      obtain ⟨v24, e24⟩ : ∃ z, M19 598 74 = z := ⟨_, rfl⟩
      have b24 : 0 ≤ v24 ∧ v24 ≤ 4 := by rw [← e24]; exact hI_M19 598 74 (by decide)
      have y25 : M19 598 74 = v24 := e24
      obtain ⟨v26, e26⟩ : ∃ z, M19 598 79 = z := ⟨_, rfl⟩
      have b26 : 0 ≤ v26 ∧ v26 ≤ 255 := by rw [← e26]; exact hI_M19 598 79 (by decide)
      have y27 : M19 598 79 = v26 := e26
      obtain ⟨v28, e28⟩ : ∃ z, M19 598 80 = z := ⟨_, rfl⟩
      have b28 : 0 ≤ v28 ∧ v28 ≤ 7 := by rw [← e28]; exact hI_M19 598 80 (by decide)
      have y29 : M19 598 80 = v28 := e28
      have e30 : M19 598 89 = v15 := ((w19_51 89 (by decide) (by decide) (by decide) (by decide) (by decide) (by decide) (by decide) (by decide) (by decide)).trans ((ju_i _ _ (by decide)).trans ((ju_c _ _ (by decide)).trans ((ju_c _ _ (by decide)).trans e15))))
      have y31 : M19 598 89 = v15 := e30
      have e32 : M19 598 90 = v1 + 1 := ((w19_51 90 (by decide) (by decide) (by decide) (by decide) (by decide) (by decide) (by decide) (by decide) (by decide)).trans (ju_same _ _ _ _))
      have y33 : M19 598 90 = v1 + 1 := e32
      obtain ⟨v34, e34⟩ : ∃ z, M 598 96 = z := ⟨_, rfl⟩
      have b34 : 0 ≤ v34 ∧ v34 ≤ 300 := by rw [← e34]; exact hI_M 598 96 (by decide)
      have e35 : M19 598 96 = v34 := ((w19_51 96 (by decide) (by decide) (by decide) (by decide) (by decide) (by decide) (by decide) (by decide) (by decide)).trans ((ju_i _ _ (by decide)).trans ((ju_c _ _ (by decide)).trans ((ju_c _ _ (by decide)).trans e34))))
      have y36 : M19 598 96 = v34 := e35
      have e37 : M19 598 100 = v17 := ((w19_51 100 (by decide) (by decide) (by decide) (by decide) (by decide) (by decide) (by decide) (by decide) (by decide)).trans ((ju_i _ _ (by decide)).trans ((ju_c _ _ (by decide)).trans ((ju_c _ _ (by decide)).trans e17))))
      have y38 : M19 598 100 = v17 := e37
      obtain ⟨v39, e39⟩ : ∃ z, M 598 107 = z := ⟨_, rfl⟩
      have b39 : 0 ≤ v39 ∧ v39 ≤ 16 := by rw [← e39]; exact hI_M 598 107 (by decide)
      have e40 : M19 598 107 = v39 := ((w19_51 107 (by decide) (by decide) (by decide) (by decide) (by decide) (by decide) (by decide) (by decide) (by decide)).trans ((ju_i _ _ (by decide)).trans ((ju_c _ _ (by decide)).trans ((ju_c _ _ (by decide)).trans e39))))
      have y41 : M19 598 107 = v39 := e40
      obtain ⟨v42, e42⟩ : ∃ z, M19 598 75 = z := ⟨_, rfl⟩
      have b42 : 0 ≤ v42 ∧ v42 ≤ 1600 := by rw [← e42]; exact hI_M19 598 75 (by decide)
      have y43 : M19 598 75 = v42 := e42
      obtain ⟨v44, e44⟩ : ∃ z, M19 598 81 = z := ⟨_, rfl⟩
      have b44 : (-1) ≤ v44 ∧ v44 ≤ 1600 := by rw [← e44]; exact hI_M19 598 81 (by decide)
      have y45 : M19 598 81 = v44 := e44
      obtain ⟨v46, e46⟩ : ∃ z, M 598 101 = z := ⟨_, rfl⟩
      have b46 : 0 ≤ v46 ∧ v46 ≤ 1 := by rw [← e46]; exact hI_M 598 101 (by decide)
      have e47 : M19 598 101 = v46 := ((w19_51 101 (by decide) (by decide) (by decide) (by decide) (by decide) (by decide) (by decide) (by decide) (by decide)).trans ((ju_i _ _ (by decide)).trans ((ju_c _ _ (by decide)).trans ((ju_c _ _ (by decide)).trans e46))))
      have y48 : M19 598 101 = v46 := e47
      exact jr.vreturn rfl rfl (q _ hI_M19 hH_M19 hS_M19  (Or.inl ⟨by omega, by omega⟩) (by omega) (by omega) (by omega) (by omega) hT19 (fun _ => zr.fe zfz (by omega) (by omega)) (fun q => by exfalso; omega) (fun q => by omega) (fun a i f598 f659 f660 f661 f662 f663 f664 f665 f666 f667 f668 f669 => ((w19_50 a i f598).trans ((ju_c _ _ f598).trans ((ju_c _ _ f660).trans ((ju_c _ _ f659).trans (hF_M a i f598 f659 f660 f661 f662 f663 f664 f665 f666 f667 f668 f669)))))) (fun i g73 g74 g75 g76 g77 g78 g79 g80 g81 g89 g90 g96 g100 g102 g107 => ((w19_51 i g73 g74 g75 g76 g77 g78 g79 g80 g81).trans ((ju_i _ _ g90).trans ((ju_c _ _ (by decide)).trans ((ju_c _ _ (by decide)).trans (hG_M i g73 g74 g75 g76 g77 g78 g79 g80 g81 g89 g90 g96 g100 g102 g107)))))))
    · obtain ⟨⟨sa, hX, sc, sd, se, sf⟩, sk, dj⟩ := zg
      have dpx := XS.dep hX
      have sl := XS.sgle hX
      have dlw := dl_deed (w := w) (by omega)
      obtain ⟨tc, ak1, hKc, hAK1, hsB⟩ := hy9 (by omega)
      have kkc := hKc.kz
      have h81 := hy10 (by omega)
      have bM_107 : (0 : Int) ≤ M 598 107 ∧ M 598 107 ≤ 16 := hI_M 598 107 (by decide)
      have bM_73 : (0 : Int) ≤ M 598 73 ∧ M 598 73 ≤ 1600 := hI_M 598 73 (by decide)
      have bM_88 : (0 : Int) ≤ M 598 88 ∧ M 598 88 ≤ 16 := hI_M 598 88 (by decide)
      have bM_100 : (0 : Int) ≤ M 598 100 ∧ M 598 100 ≤ 13 := hI_M 598 100 (by decide)
      refine jr.aload_n rfl rfl ?_
      refine jr.bipush rfl (by decide) ?_
      refine jr.iload_n rfl rfl ?_
      refine jr.iadd rfl ?_
      refine jr.lconst (x := 0) rfl (by decide) ?_
      obtain ⟨v49, e49⟩ : ∃ z, M 598 90 = z := ⟨_, rfl⟩
      have b49 : 0 ≤ v49 ∧ v49 ≤ 2200 := by rw [← e49]; exact hI_M 598 90 (by decide)
      obtain ⟨v50, e50⟩ : ∃ z, M 598 100 = z := ⟨_, rfl⟩
      have b50 : 0 ≤ v50 ∧ v50 ≤ 13 := by rw [← e50]; exact hI_M 598 100 (by decide)
      obtain ⟨v52, e52⟩ : ∃ z, M 598 107 = z := ⟨_, rfl⟩
      have b52 : 0 ≤ v52 ∧ v52 ≤ 16 := by rw [← e52]; exact hI_M 598 107 (by decide)
      obtain ⟨v54, e54⟩ : ∃ z, M 598 88 = z := ⟨_, rfl⟩
      have b54 : 0 ≤ v54 ∧ v54 ≤ 16 := by rw [← e54]; exact hI_M 598 88 (by decide)
      refine jr_v rfl rfl (Or.inl rfl) rfl rfl (by decide) rfl ⟨rfl, Nat.le_of_ble_eq_true rfl, Nat.le_of_ble_eq_true rfl⟩ rfl (jc.deep (r_emit e49 (by omega) (by omega) (by omega) ?_) (by decide))
      have y51 : M 598 100 = v50 := e50
      have y53 : M 598 107 = v52 := e52
      have y55 : M 598 88 = v54 := e54
      have hX := XS.deed hX e49 (by omega) (by omega) (by omega) (fun q => by rcases dj with ⟨z1, z2, z3⟩ | ⟨z1, z2, z3, z4⟩; (exfalso; omega); (rw [e49] at z4; exact ⟨by omega, z4, by omega⟩))
      have hA : AK (ju (ju (ju M 659 v49 (20 + w)) 660 v49 0) 598 90 (v49 + 1)) := by rcases dj with ⟨z1, z2, z3⟩ | ⟨z1, z2, z3, z4⟩; (exact AK.emit (op := 20 + w) (a := 0) z3 e49); (exact AK2.emit (a := 0) z2 e49 (by omega) (by omega))
      have hB : LB _ := LB.emit (M := M) (c := v49) (op := 20 + w) (a := 0) (by omega)
      refine jr.aload_n rfl rfl ?_
      refine jr.bipush rfl (by decide) ?_
      obtain ⟨v56, e56⟩ : ∃ z, M 598 73 = z := ⟨_, rfl⟩
      have b56 : 0 ≤ v56 ∧ v56 ≤ 1600 := by rw [← e56]; exact hI_M 598 73 (by decide)
      obtain ⟨v57, e57⟩ : ∃ z, M 598 72 = z := ⟨_, rfl⟩
      have b57 : 0 ≤ v57 ∧ v57 ≤ 1600 := by rw [← e57]; exact hI_M 598 72 (by decide)
      obtain ⟨v58, e58⟩ : ∃ z, M 598 80 = z := ⟨_, rfl⟩
      have b58 : 0 ≤ v58 ∧ v58 ≤ 7 := by rw [← e58]; exact hI_M 598 80 (by decide)
      obtain ⟨v59, e59⟩ : ∃ z, M 598 74 = z := ⟨_, rfl⟩
      have b59 : 0 ≤ v59 ∧ v59 ≤ 4 := by rw [← e59]; exact hI_M 598 74 (by decide)
      obtain ⟨v60, e60⟩ : ∃ z, M 598 79 = z := ⟨_, rfl⟩
      have b60 : 0 ≤ v60 ∧ v60 ≤ 255 := by rw [← e60]; exact hI_M 598 79 (by decide)
      obtain ⟨v63, e63⟩ : ∃ z, M 598 75 = z := ⟨_, rfl⟩
      have b63 : 0 ≤ v63 ∧ v63 ≤ 1600 := by rw [← e63]; exact hI_M 598 75 (by decide)
      obtain ⟨v67, e67⟩ : ∃ z, M 598 81 = z := ⟨_, rfl⟩
      have b67 : (-1) ≤ v67 ∧ v67 ≤ 1600 := by rw [← e67]; exact hI_M 598 81 (by decide)
      obtain ⟨v69, e69⟩ : ∃ z, M 598 89 = z := ⟨_, rfl⟩
      have b69 : 0 ≤ v69 ∧ v69 ≤ 301 := by rw [← e69]; exact hI_M 598 89 (by decide)
      refine jr_v rfl rfl (Or.inl rfl) rfl rfl (by decide) rfl ⟨rfl, Nat.le_of_ble_eq_true rfl, Nat.le_of_ble_eq_true rfl⟩ rfl (jc.deep (c_want_z (f := f) (N := N) (RI.u (RI.u (RI.u hI_M (a := 659) (i := v49) (by rw [xri_row rfl rfl]; show (0 : Int) ≤ _ ∧ _ ≤ (1000 : Int); omega)) (a := 660) (i := v49) (by rw [xri_row rfl rfl]; show (-9223372036854775808 : Int) ≤ _ ∧ _ ≤ (9223372036854775807 : Int); omega)) (a := 598) (i := 90) (show (0 : Int) ≤ _ ∧ _ ≤ (2200 : Int) from by omega)) (RH.o (RH.o (RH.o hH_M (by decide) (by decide) (by decide)) (by decide) (by decide) (by decide)) (by decide) (by decide) (by decide)) (RF.o (RF.o (RF.o hS_M (by decide) (by decide)) (by decide) (by decide)) (by decide) (by decide)) (by omega) (by rw [((ju_i _ _ (by decide)).trans ((ju_c _ _ (by decide)).trans ((ju_c _ _ (by decide)).trans e56))), ((ju_i _ _ (by decide)).trans ((ju_c _ _ (by decide)).trans ((ju_c _ _ (by decide)).trans e57)))]; omega) (TKr.oo (TKr.cc (TKr.cc hKc (by decide) (by decide) (by decide) (by decide)) (by decide) (by decide) (by decide) (by decide)) (by decide)) (by rw [((ju_i _ _ (by decide)).trans ((ju_c _ _ (by decide)).trans ((ju_c _ _ (by decide)).trans e58)))]; omega) (by rw [((ju_i _ _ (by decide)).trans ((ju_c _ _ (by decide)).trans ((ju_c _ _ (by decide)).trans e59))), ((ju_i _ _ (by decide)).trans ((ju_c _ _ (by decide)).trans ((ju_c _ _ (by decide)).trans e60)))]; intro q; omega) (fun M72 hI_M72 hH_M72 hS_M72 qa72 qb72 qt72 sn72 q072 q172 qs72 hK72 w72_50 w72_51 => ?_) (fun M72 hI_M72 hH_M72 hS_M72 qa72 qb72 qt72 qn72 q072 q172 qs72 hT72 w72_50 w72_51 => ?_)) (by decide))
      · have y61 : (ju (ju (ju M 659 v49 (20 + w)) 660 v49 0) 598 90 (v49 + 1)) 598 73 = v56 := ((ju_i _ _ (by decide)).trans ((ju_c _ _ (by decide)).trans ((ju_c _ _ (by decide)).trans e56)))
        have y62 : (ju (ju (ju M 659 v49 (20 + w)) 660 v49 0) 598 90 (v49 + 1)) 598 74 = v59 := ((ju_i _ _ (by decide)).trans ((ju_c _ _ (by decide)).trans ((ju_c _ _ (by decide)).trans e59)))
        have y64 : (ju (ju (ju M 659 v49 (20 + w)) 660 v49 0) 598 90 (v49 + 1)) 598 75 = v63 := ((ju_i _ _ (by decide)).trans ((ju_c _ _ (by decide)).trans ((ju_c _ _ (by decide)).trans e63)))
        have y65 : (ju (ju (ju M 659 v49 (20 + w)) 660 v49 0) 598 90 (v49 + 1)) 598 79 = v60 := ((ju_i _ _ (by decide)).trans ((ju_c _ _ (by decide)).trans ((ju_c _ _ (by decide)).trans e60)))
        have y66 : (ju (ju (ju M 659 v49 (20 + w)) 660 v49 0) 598 90 (v49 + 1)) 598 80 = v58 := ((ju_i _ _ (by decide)).trans ((ju_c _ _ (by decide)).trans ((ju_c _ _ (by decide)).trans e58)))
        have y68 : (ju (ju (ju M 659 v49 (20 + w)) 660 v49 0) 598 90 (v49 + 1)) 598 81 = v67 := ((ju_i _ _ (by decide)).trans ((ju_c _ _ (by decide)).trans ((ju_c _ _ (by decide)).trans e67)))
        have y70 : (ju (ju (ju M 659 v49 (20 + w)) 660 v49 0) 598 90 (v49 + 1)) 598 89 = v69 := ((ju_i _ _ (by decide)).trans ((ju_c _ _ (by decide)).trans ((ju_c _ _ (by decide)).trans e69)))
        have y71 : (ju (ju (ju M 659 v49 (20 + w)) 660 v49 0) 598 90 (v49 + 1)) 598 100 = v50 := ((ju_i _ _ (by decide)).trans ((ju_c _ _ (by decide)).trans ((ju_c _ _ (by decide)).trans e50)))
        have tb72 : TK (ju (ju (ju M 659 v49 (20 + w)) 660 v49 0) 598 90 (v49 + 1)) = TK M := ((TK.o (Or.inr ⟨by decide, by decide⟩)).trans ((TK.o (Or.inl (by decide))).trans ((TK.o (Or.inl (by decide))).trans rfl)))
        have x72_72 := w72_51 72 (by decide) (by decide) (by decide) (by decide) (by decide) (by decide) (by decide) (by decide) (by decide)
        have x72_89 := w72_51 89 (by decide) (by decide) (by decide) (by decide) (by decide) (by decide) (by decide) (by decide) (by decide)
        have x72_100 := w72_51 100 (by decide) (by decide) (by decide) (by decide) (by decide) (by decide) (by decide) (by decide) (by decide)
        have hT72 := hK72.1
        have kk72 := hK72.kz
        have y73 : (ju (ju (ju M 659 v49 (20 + w)) 660 v49 0) 598 90 (v49 + 1)) 598 73 = v56 := ((ju_i _ _ (by decide)).trans ((ju_c _ _ (by decide)).trans ((ju_c _ _ (by decide)).trans e56)))
        have y74 : (ju (ju (ju M 659 v49 (20 + w)) 660 v49 0) 598 90 (v49 + 1)) 598 74 = v59 := ((ju_i _ _ (by decide)).trans ((ju_c _ _ (by decide)).trans ((ju_c _ _ (by decide)).trans e59)))
        have y75 : (ju (ju (ju M 659 v49 (20 + w)) 660 v49 0) 598 90 (v49 + 1)) 598 89 = v69 := ((ju_i _ _ (by decide)).trans ((ju_c _ _ (by decide)).trans ((ju_c _ _ (by decide)).trans e69)))
        have y76 : (ju (ju (ju M 659 v49 (20 + w)) 660 v49 0) 598 90 (v49 + 1)) 598 100 = v50 := ((ju_i _ _ (by decide)).trans ((ju_c _ _ (by decide)).trans ((ju_c _ _ (by decide)).trans e50)))
        have x72_89 := w72_51 89 (by decide) (by decide) (by decide) (by decide) (by decide) (by decide) (by decide) (by decide) (by decide)
        have x72_100 := w72_51 100 (by decide) (by decide) (by decide) (by decide) (by decide) (by decide) (by decide) (by decide) (by decide)
        have hX := XS.fr2 hX w72_50 (w72_51 88 (by decide) (by decide) (by decide) (by decide) (by decide) (by decide) (by decide) (by decide) (by decide)) (w72_51 90 (by decide) (by decide) (by decide) (by decide) (by decide) (by decide) (by decide) (by decide) (by decide)) (w72_51 101 (by decide) (by decide) (by decide) (by decide) (by decide) (by decide) (by decide) (by decide) (by decide)) (w72_51 107 (by decide) (by decide) (by decide) (by decide) (by decide) (by decide) (by decide) (by decide) (by decide)) (k' := 0) (d' := 0) (z' := 0) (by omega) (by omega) (by omega) (by omega)
        have hA := AK.cp hA (CP.f (CP.rfl _) (fun i => w72_50 659 i (by decide)) (w72_51 90 (by decide) (by decide) (by decide) (by decide) (by decide) (by decide) (by decide) (by decide) (by decide))) (fun i => w72_50 663 i (by decide)) (w72_51 96 (by decide) (by decide) (by decide) (by decide) (by decide) (by decide) (by decide) (by decide) (by decide))
        have hB := LB.fr hB (fun i => w72_50 659 i (by decide)) (w72_51 90 (by decide) (by decide) (by decide) (by decide) (by decide) (by decide) (by decide) (by decide) (by decide))
        have x72_101 := w72_51 101 (by decide) (by decide) (by decide) (by decide) (by decide) (by decide) (by decide) (by decide) (by decide)
        have x72_107 := w72_51 107 (by decide) (by decide) (by decide) (by decide) (by decide) (by decide) (by decide) (by decide) (by decide)
        have x72_88 := w72_51 88 (by decide) (by decide) (by decide) (by decide) (by decide) (by decide) (by decide) (by decide) (by decide)
        have x72_96 := w72_51 96 (by decide) (by decide) (by decide) (by decide) (by decide) (by decide) (by decide) (by decide) (by decide)
        have e77 : M72 598 72 = v57 := ((w72_51 72 (by decide) (by decide) (by decide) (by decide) (by decide) (by decide) (by decide) (by decide) (by decide)).trans ((ju_i _ _ (by decide)).trans ((ju_c _ _ (by decide)).trans ((ju_c _ _ (by decide)).trans e57))))
        have y78 : M72 598 72 = v57 := e77
        obtain ⟨v79, e79⟩ : ∃ z, M72 598 73 = z := ⟨_, rfl⟩
        have b79 : 0 ≤ v79 ∧ v79 ≤ 1600 := by rw [← e79]; exact hI_M72 598 73 (by decide)
        have y80 : M72 598 73 = v79 := e79
        obtain ⟨v81, e81⟩ : ∃ z, M72 598 74 = z := ⟨_, rfl⟩
        have b81 : 0 ≤ v81 ∧ v81 ≤ 4 := by rw [← e81]; exact hI_M72 598 74 (by decide)
        have y82 : M72 598 74 = v81 := e81
        obtain ⟨v83, e83⟩ : ∃ z, M72 598 79 = z := ⟨_, rfl⟩
        have b83 : 0 ≤ v83 ∧ v83 ≤ 255 := by rw [← e83]; exact hI_M72 598 79 (by decide)
        have y84 : M72 598 79 = v83 := e83
        obtain ⟨v85, e85⟩ : ∃ z, M72 598 80 = z := ⟨_, rfl⟩
        have b85 : 0 ≤ v85 ∧ v85 ≤ 7 := by rw [← e85]; exact hI_M72 598 80 (by decide)
        have y86 : M72 598 80 = v85 := e85
        have e87 : M72 598 89 = v69 := ((w72_51 89 (by decide) (by decide) (by decide) (by decide) (by decide) (by decide) (by decide) (by decide) (by decide)).trans ((ju_i _ _ (by decide)).trans ((ju_c _ _ (by decide)).trans ((ju_c _ _ (by decide)).trans e69))))
        have y88 : M72 598 89 = v69 := e87
        have e89 : M72 598 90 = v49 + 1 := ((w72_51 90 (by decide) (by decide) (by decide) (by decide) (by decide) (by decide) (by decide) (by decide) (by decide)).trans (ju_same _ _ _ _))
        have y90 : M72 598 90 = v49 + 1 := e89
        obtain ⟨v91, e91⟩ : ∃ z, M 598 96 = z := ⟨_, rfl⟩
        have b91 : 0 ≤ v91 ∧ v91 ≤ 300 := by rw [← e91]; exact hI_M 598 96 (by decide)
        have e92 : M72 598 96 = v91 := ((w72_51 96 (by decide) (by decide) (by decide) (by decide) (by decide) (by decide) (by decide) (by decide) (by decide)).trans ((ju_i _ _ (by decide)).trans ((ju_c _ _ (by decide)).trans ((ju_c _ _ (by decide)).trans e91))))
        have y93 : M72 598 96 = v91 := e92
        have e94 : M72 598 100 = v50 := ((w72_51 100 (by decide) (by decide) (by decide) (by decide) (by decide) (by decide) (by decide) (by decide) (by decide)).trans ((ju_i _ _ (by decide)).trans ((ju_c _ _ (by decide)).trans ((ju_c _ _ (by decide)).trans e50))))
        have y95 : M72 598 100 = v50 := e94
        have e96 : M72 598 107 = v52 := ((w72_51 107 (by decide) (by decide) (by decide) (by decide) (by decide) (by decide) (by decide) (by decide) (by decide)).trans ((ju_i _ _ (by decide)).trans ((ju_c _ _ (by decide)).trans ((ju_c _ _ (by decide)).trans e52))))
        have y97 : M72 598 107 = v52 := e96
        obtain ⟨v98, e98⟩ : ∃ z, M72 598 75 = z := ⟨_, rfl⟩
        have b98 : 0 ≤ v98 ∧ v98 ≤ 1600 := by rw [← e98]; exact hI_M72 598 75 (by decide)
        have y99 : M72 598 75 = v98 := e98
        obtain ⟨v100, e100⟩ : ∃ z, M72 598 81 = z := ⟨_, rfl⟩
        have b100 : (-1) ≤ v100 ∧ v100 ≤ 1600 := by rw [← e100]; exact hI_M72 598 81 (by decide)
        have y101 : M72 598 81 = v100 := e100
        obtain ⟨v102, e102⟩ : ∃ z, M 598 101 = z := ⟨_, rfl⟩
        have b102 : 0 ≤ v102 ∧ v102 ≤ 1 := by rw [← e102]; exact hI_M 598 101 (by decide)
        have e103 : M72 598 101 = v102 := ((w72_51 101 (by decide) (by decide) (by decide) (by decide) (by decide) (by decide) (by decide) (by decide) (by decide)).trans ((ju_i _ _ (by decide)).trans ((ju_c _ _ (by decide)).trans ((ju_c _ _ (by decide)).trans e102))))
        have y104 : M72 598 101 = v102 := e103
        exact jr.vreturn rfl rfl (q _ hI_M72 hH_M72 hS_M72  (by exact Or.inr ⟨⟨by omega, XS.adj hX (k' := 0) (z' := 0) (by omega) (by omega) (by omega), by omega, by omega, by omega, by omega, hB, hA, by omega⟩, by omega⟩) (by omega) (by omega) (by omega) (by omega) hT72 (fun q => by exfalso; omega) (fun _ => ⟨_, ak1, hK72, (AKr.fr (AKr.fr (AKr.fr (AKr.fr hAK1 (fun i => ju_c _ _ (by decide)) (fun i => ju_c _ _ (by decide)) (ju_c _ _ (by decide))) (fun i => ju_c _ _ (by decide)) (fun i => ju_c _ _ (by decide)) (ju_c _ _ (by decide))) (fun i => ju_c _ _ (by decide)) (fun i => ju_c _ _ (by decide)) (ju_i _ _ (by decide))) (fun i => w72_50 661 i (by decide)) (fun i => w72_50 662 i (by decide)) (w72_51 96 (by decide) (by decide) (by decide) (by decide) (by decide) (by decide) (by decide) (by decide) (by decide))), (zr.eqx (hsB.1 qs72) rfl rfl (by omega) (by omega) (by omega) (by rw [((blr_fr (fun i => w72_50 668 i (by decide)) (w72_51 107 (by decide) (by decide) (by decide) (by decide) (by decide) (by decide) (by decide) (by decide) (by decide))).trans ((blr_fr (fun i => ju_c _ _ (by decide)) (ju_i _ _ (by decide))).trans ((blr_fr (fun i => ju_c _ _ (by decide)) (ju_c _ _ (by decide))).trans ((blr_fr (fun i => ju_c _ _ (by decide)) (ju_c _ _ (by decide))).trans rfl))))]))⟩) (fun q => by omega) (fun a i f598 f659 f660 f661 f662 f663 f664 f665 f666 f667 f668 f669 => ((w72_50 a i f598).trans ((ju_c _ _ f598).trans ((ju_c _ _ f660).trans ((ju_c _ _ f659).trans (hF_M a i f598 f659 f660 f661 f662 f663 f664 f665 f666 f667 f668 f669)))))) (fun i g73 g74 g75 g76 g77 g78 g79 g80 g81 g89 g90 g96 g100 g102 g107 => ((w72_51 i g73 g74 g75 g76 g77 g78 g79 g80 g81).trans ((ju_i _ _ g90).trans ((ju_c _ _ (by decide)).trans ((ju_c _ _ (by decide)).trans (hG_M i g73 g74 g75 g76 g77 g78 g79 g80 g81 g89 g90 g96 g100 g102 g107)))))))
      · have y61 : (ju (ju (ju M 659 v49 (20 + w)) 660 v49 0) 598 90 (v49 + 1)) 598 73 = v56 := ((ju_i _ _ (by decide)).trans ((ju_c _ _ (by decide)).trans ((ju_c _ _ (by decide)).trans e56)))
        have y62 : (ju (ju (ju M 659 v49 (20 + w)) 660 v49 0) 598 90 (v49 + 1)) 598 74 = v59 := ((ju_i _ _ (by decide)).trans ((ju_c _ _ (by decide)).trans ((ju_c _ _ (by decide)).trans e59)))
        have y64 : (ju (ju (ju M 659 v49 (20 + w)) 660 v49 0) 598 90 (v49 + 1)) 598 75 = v63 := ((ju_i _ _ (by decide)).trans ((ju_c _ _ (by decide)).trans ((ju_c _ _ (by decide)).trans e63)))
        have y65 : (ju (ju (ju M 659 v49 (20 + w)) 660 v49 0) 598 90 (v49 + 1)) 598 79 = v60 := ((ju_i _ _ (by decide)).trans ((ju_c _ _ (by decide)).trans ((ju_c _ _ (by decide)).trans e60)))
        have y66 : (ju (ju (ju M 659 v49 (20 + w)) 660 v49 0) 598 90 (v49 + 1)) 598 80 = v58 := ((ju_i _ _ (by decide)).trans ((ju_c _ _ (by decide)).trans ((ju_c _ _ (by decide)).trans e58)))
        have y68 : (ju (ju (ju M 659 v49 (20 + w)) 660 v49 0) 598 90 (v49 + 1)) 598 81 = v67 := ((ju_i _ _ (by decide)).trans ((ju_c _ _ (by decide)).trans ((ju_c _ _ (by decide)).trans e67)))
        have y70 : (ju (ju (ju M 659 v49 (20 + w)) 660 v49 0) 598 90 (v49 + 1)) 598 89 = v69 := ((ju_i _ _ (by decide)).trans ((ju_c _ _ (by decide)).trans ((ju_c _ _ (by decide)).trans e69)))
        have y71 : (ju (ju (ju M 659 v49 (20 + w)) 660 v49 0) 598 90 (v49 + 1)) 598 100 = v50 := ((ju_i _ _ (by decide)).trans ((ju_c _ _ (by decide)).trans ((ju_c _ _ (by decide)).trans e50)))
        have tb72 : TK (ju (ju (ju M 659 v49 (20 + w)) 660 v49 0) 598 90 (v49 + 1)) = TK M := ((TK.o (Or.inr ⟨by decide, by decide⟩)).trans ((TK.o (Or.inl (by decide))).trans ((TK.o (Or.inl (by decide))).trans rfl)))
        have x72_72 := w72_51 72 (by decide) (by decide) (by decide) (by decide) (by decide) (by decide) (by decide) (by decide) (by decide)
        have x72_89 := w72_51 89 (by decide) (by decide) (by decide) (by decide) (by decide) (by decide) (by decide) (by decide) (by decide)
        have x72_100 := w72_51 100 (by decide) (by decide) (by decide) (by decide) (by decide) (by decide) (by decide) (by decide) (by decide)
        have zfz : zr f N xs (zft (M72 598 80) (M72 598 81)) := zr.rfz (hsB.2 qs72) q072 q172
        have e105 : M72 598 72 = v57 := ((w72_51 72 (by decide) (by decide) (by decide) (by decide) (by decide) (by decide) (by decide) (by decide) (by decide)).trans ((ju_i _ _ (by decide)).trans ((ju_c _ _ (by decide)).trans ((ju_c _ _ (by decide)).trans e57))))
        have y106 : M72 598 72 = v57 := e105
        obtain ⟨v107, e107⟩ : ∃ z, M72 598 73 = z := ⟨_, rfl⟩
        have b107 : 0 ≤ v107 ∧ v107 ≤ 1600 := by rw [← e107]; exact hI_M72 598 73 (by decide)
        have y108 : M72 598 73 = v107 := e107
        obtain ⟨v109, e109⟩ : ∃ z, M72 598 74 = z := ⟨_, rfl⟩
        have b109 : 0 ≤ v109 ∧ v109 ≤ 4 := by rw [← e109]; exact hI_M72 598 74 (by decide)
        have y110 : M72 598 74 = v109 := e109
        obtain ⟨v111, e111⟩ : ∃ z, M72 598 79 = z := ⟨_, rfl⟩
        have b111 : 0 ≤ v111 ∧ v111 ≤ 255 := by rw [← e111]; exact hI_M72 598 79 (by decide)
        have y112 : M72 598 79 = v111 := e111
        obtain ⟨v113, e113⟩ : ∃ z, M72 598 80 = z := ⟨_, rfl⟩
        have b113 : 0 ≤ v113 ∧ v113 ≤ 7 := by rw [← e113]; exact hI_M72 598 80 (by decide)
        have y114 : M72 598 80 = v113 := e113
        have e115 : M72 598 89 = v69 := ((w72_51 89 (by decide) (by decide) (by decide) (by decide) (by decide) (by decide) (by decide) (by decide) (by decide)).trans ((ju_i _ _ (by decide)).trans ((ju_c _ _ (by decide)).trans ((ju_c _ _ (by decide)).trans e69))))
        have y116 : M72 598 89 = v69 := e115
        have e117 : M72 598 90 = v49 + 1 := ((w72_51 90 (by decide) (by decide) (by decide) (by decide) (by decide) (by decide) (by decide) (by decide) (by decide)).trans (ju_same _ _ _ _))
        have y118 : M72 598 90 = v49 + 1 := e117
        obtain ⟨v119, e119⟩ : ∃ z, M 598 96 = z := ⟨_, rfl⟩
        have b119 : 0 ≤ v119 ∧ v119 ≤ 300 := by rw [← e119]; exact hI_M 598 96 (by decide)
        have e120 : M72 598 96 = v119 := ((w72_51 96 (by decide) (by decide) (by decide) (by decide) (by decide) (by decide) (by decide) (by decide) (by decide)).trans ((ju_i _ _ (by decide)).trans ((ju_c _ _ (by decide)).trans ((ju_c _ _ (by decide)).trans e119))))
        have y121 : M72 598 96 = v119 := e120
        have e122 : M72 598 100 = v50 := ((w72_51 100 (by decide) (by decide) (by decide) (by decide) (by decide) (by decide) (by decide) (by decide) (by decide)).trans ((ju_i _ _ (by decide)).trans ((ju_c _ _ (by decide)).trans ((ju_c _ _ (by decide)).trans e50))))
        have y123 : M72 598 100 = v50 := e122
        have e124 : M72 598 107 = v52 := ((w72_51 107 (by decide) (by decide) (by decide) (by decide) (by decide) (by decide) (by decide) (by decide) (by decide)).trans ((ju_i _ _ (by decide)).trans ((ju_c _ _ (by decide)).trans ((ju_c _ _ (by decide)).trans e52))))
        have y125 : M72 598 107 = v52 := e124
        obtain ⟨v126, e126⟩ : ∃ z, M72 598 75 = z := ⟨_, rfl⟩
        have b126 : 0 ≤ v126 ∧ v126 ≤ 1600 := by rw [← e126]; exact hI_M72 598 75 (by decide)
        have y127 : M72 598 75 = v126 := e126
        obtain ⟨v128, e128⟩ : ∃ z, M72 598 81 = z := ⟨_, rfl⟩
        have b128 : (-1) ≤ v128 ∧ v128 ≤ 1600 := by rw [← e128]; exact hI_M72 598 81 (by decide)
        have y129 : M72 598 81 = v128 := e128
        obtain ⟨v130, e130⟩ : ∃ z, M 598 101 = z := ⟨_, rfl⟩
        have b130 : 0 ≤ v130 ∧ v130 ≤ 1 := by rw [← e130]; exact hI_M 598 101 (by decide)
        have e131 : M72 598 101 = v130 := ((w72_51 101 (by decide) (by decide) (by decide) (by decide) (by decide) (by decide) (by decide) (by decide) (by decide)).trans ((ju_i _ _ (by decide)).trans ((ju_c _ _ (by decide)).trans ((ju_c _ _ (by decide)).trans e130))))
        have y132 : M72 598 101 = v130 := e131
        exact jr.vreturn rfl rfl (q _ hI_M72 hH_M72 hS_M72  (Or.inl ⟨by omega, by omega⟩) (by omega) (by omega) (by omega) (by omega) hT72 (fun _ => zr.fe zfz (by omega) (by omega)) (fun q => by exfalso; omega) (fun q => by omega) (fun a i f598 f659 f660 f661 f662 f663 f664 f665 f666 f667 f668 f669 => ((w72_50 a i f598).trans ((ju_c _ _ f598).trans ((ju_c _ _ f660).trans ((ju_c _ _ f659).trans (hF_M a i f598 f659 f660 f661 f662 f663 f664 f665 f666 f667 f668 f669)))))) (fun i g73 g74 g75 g76 g77 g78 g79 g80 g81 g89 g90 g96 g100 g102 g107 => ((w72_51 i g73 g74 g75 g76 g77 g78 g79 g80 g81).trans ((ju_i _ _ g90).trans ((ju_c _ _ (by decide)).trans ((ju_c _ _ (by decide)).trans (hG_M i g73 g74 g75 g76 g77 g78 g79 g80 g81 g89 g90 g96 g100 g102 g107)))))))
set_option maxHeartbeats 8000000 in
theorem r_deed_L188_z {A : Nat → Option (Nat × (Nat → Int32))} {Q : Option Value → jm → Prop} {f : Int → Int} {N : Int} {xs : ZS} {t : Int} {nm ak : List Int} {M0 : jm} (q : ∀ (M' : jm), RI M' → RH M' → RF M' → (BT M' ∨ (DS M' 0 ∧ TK M' < TK M0)) → TK M' ≤ TK M0 → M' 598 73 ≤ M' 598 72 → (M' 598 80 ≠ 0 ∨ TK M' < TK M0) → M0 598 107 ≤ M' 598 107 → TXr f N M' → ZFQ f N xs M' → ZDPQ f N xs M' nm → K8Q M0 M' → (∀ (a : Nat) (i : Int), a ≠ 598 → a ≠ 659 → a ≠ 660 → a ≠ 661 → a ≠ 662 → a ≠ 663 → a ≠ 664 → a ≠ 665 → a ≠ 666 → a ≠ 667 → a ≠ 668 → a ≠ 669 → M' a i = M0 a i) → (∀ (i : Int), i ≠ 73 → i ≠ 74 → i ≠ 75 → i ≠ 76 → i ≠ 77 → i ≠ 78 → i ≠ 79 → i ≠ 80 → i ≠ 81 → i ≠ 89 → i ≠ 90 → i ≠ 96 → i ≠ 100 → i ≠ 102 → i ≠ 107 → M' 598 i = M0 598 i) → Q none M') : ∀ (nM : Nat) (M : jm) (k : Int) (w : Int), RI M → RH M → RF M → (∀ (a : Nat) (i : Int), a ≠ 598 → a ≠ 659 → a ≠ 660 → a ≠ 661 → a ≠ 662 → a ≠ 663 → a ≠ 664 → a ≠ 665 → a ≠ 666 → a ≠ 667 → a ≠ 668 → a ≠ 669 → M a i = M0 a i) → (∀ (i : Int), i ≠ 73 → i ≠ 74 → i ≠ 75 → i ≠ 76 → i ≠ 77 → i ≠ 78 → i ≠ 79 → i ≠ 80 → i ≠ 81 → i ≠ 89 → i ≠ 90 → i ≠ 96 → i ≠ 100 → i ≠ 102 → i ≠ 107 → M 598 i = M0 598 i) → 0 ≤ k ∧ k ≤ 5 → 10 ≤ w ∧ w ≤ 18 → (BS M ∨ (SS M k (0 + 2 + 2) ∧ AK M ∧ M 598 96 ≤ M 598 89)) → M 598 73 ≤ M 598 72 → TK M ≤ TK M0 → (M 598 80 ≠ 0 ∨ TK M < TK M0) → M 598 107 = M0 598 107 → 1 ≤ M 598 88 → k ≤ ndo (20 + w) → M 598 107 ≤ 12 → TXr f N M → ZFQ f N xs M → AKQ f N M ak → Z01Q f N xs k w M nm ak → K8Q M0 M → 5 - k ≤ nM → jr A 7 xm_367 188 [(3, .int (Int32.ofInt (k))), (1, .int (Int32.ofInt (w))), (0, .ref (598))] [] M Q := by
  intro nM
  induction nM using Nat.strongRecOn with
  | ind nM ih =>
    intro M k w hI_M hH_M hS_M hF_M hG_M h_k h_w hy0 hy1 hy2 hy3 hy4 hy5 hy6 hy7 hy8 hy9 hy10 hy11 hy12 hm
    have hT := hy8
    have hzex := zex_n (w := w) (by omega)
    rcases hy0 with zb | zg
    · obtain ⟨za, zc⟩ := zb
      have zfz := hy9 za
      refine jr.iload_n rfl rfl ?_
      refine jr.iload_n rfl rfl ?_
      refine jr_s rfl rfl (Or.inl rfl) ⟨Nat.le_of_ble_eq_true rfl, Nat.le_of_ble_eq_true rfl⟩ rfl rfl (jc.deep (r_exps hI_M hH_M hS_M (Kp.rfl _) (by omega)  (fun r1 z1 w1_0 => ?_)) (by decide))
      refine jr.icmp_ge rfl rfl (by omega) (by omega) (fun h193 => ?_) (fun h193 => ?_)
      · obtain ⟨v2, e2⟩ : ∃ z, M 598 80 = z := ⟨_, rfl⟩
        have b2 : 0 ≤ v2 ∧ v2 ≤ 7 := by rw [← e2]; exact hI_M 598 80 (by decide)
        have y3 : M 598 80 = v2 := e2
        obtain ⟨v4, e4⟩ : ∃ z, M 598 90 = z := ⟨_, rfl⟩
        have b4 : 0 ≤ v4 ∧ v4 ≤ 2200 := by rw [← e4]; exact hI_M 598 90 (by decide)
        have y5 : M 598 90 = v4 := e4
        obtain ⟨v6, e6⟩ : ∃ z, M 598 73 = z := ⟨_, rfl⟩
        have b6 : 0 ≤ v6 ∧ v6 ≤ 1600 := by rw [← e6]; exact hI_M 598 73 (by decide)
        obtain ⟨v7, e7⟩ : ∃ z, M 598 72 = z := ⟨_, rfl⟩
        have b7 : 0 ≤ v7 ∧ v7 ≤ 1600 := by rw [← e7]; exact hI_M 598 72 (by decide)
        obtain ⟨v8, e8⟩ : ∃ z, M 598 107 = z := ⟨_, rfl⟩
        have b8 : 0 ≤ v8 ∧ v8 ≤ 16 := by rw [← e8]; exact hI_M 598 107 (by decide)
        obtain ⟨v9, e9⟩ : ∃ z, M 598 88 = z := ⟨_, rfl⟩
        have b9 : 0 ≤ v9 ∧ v9 ≤ 16 := by rw [← e9]; exact hI_M 598 88 (by decide)
        obtain ⟨v10, e10⟩ : ∃ z, M 598 75 = z := ⟨_, rfl⟩
        have b10 : 0 ≤ v10 ∧ v10 ≤ 1600 := by rw [← e10]; exact hI_M 598 75 (by decide)
        have y11 : M 598 75 = v10 := e10
        have y12 : M 598 80 = v2 := e2
        obtain ⟨v13, e13⟩ : ∃ z, M 598 81 = z := ⟨_, rfl⟩
        have b13 : (-1) ≤ v13 ∧ v13 ≤ 1600 := by rw [← e13]; exact hI_M 598 81 (by decide)
        have y14 : M 598 81 = v13 := e13
        obtain ⟨v15, e15⟩ : ∃ z, M 598 89 = z := ⟨_, rfl⟩
        have b15 : 0 ≤ v15 ∧ v15 ≤ 301 := by rw [← e15]; exact hI_M 598 89 (by decide)
        have y16 : M 598 89 = v15 := e15
        obtain ⟨v17, e17⟩ : ∃ z, M 598 96 = z := ⟨_, rfl⟩
        have b17 : 0 ≤ v17 ∧ v17 ≤ 300 := by rw [← e17]; exact hI_M 598 96 (by decide)
        have y18 : M 598 96 = v17 := e17
        obtain ⟨v19, e19⟩ : ∃ z, M 598 100 = z := ⟨_, rfl⟩
        have b19 : 0 ≤ v19 ∧ v19 ≤ 13 := by rw [← e19]; exact hI_M 598 100 (by decide)
        have y20 : M 598 100 = v19 := e19
        obtain ⟨v21, e21⟩ : ∃ z, M 598 101 = z := ⟨_, rfl⟩
        have b21 : 0 ≤ v21 ∧ v21 ≤ 1 := by rw [← e21]; exact hI_M 598 101 (by decide)
        have y22 : M 598 101 = v21 := e21
        have y23 : M 598 107 = v8 := e8
        have y24 : M 598 75 = v10 := e10
        have y25 : M 598 80 = v2 := e2
        have y26 : M 598 81 = v13 := e13
        have y27 : M 598 89 = v15 := e15
        have y28 : M 598 96 = v17 := e17
        have y29 : M 598 100 = v19 := e19
        have y30 : M 598 101 = v21 := e21
        have y31 : M 598 107 = v8 := e8
        have y32 : M 598 75 = v10 := e10
        have y33 : M 598 80 = v2 := e2
        have y34 : M 598 81 = v13 := e13
        have y35 : M 598 89 = v15 := e15
        have y36 : M 598 96 = v17 := e17
        have y37 : M 598 100 = v19 := e19
        have y38 : M 598 101 = v21 := e21
        have y39 : M 598 107 = v8 := e8
        have y40 : M 598 75 = v10 := e10
        have y41 : M 598 80 = v2 := e2
        have y42 : M 598 81 = v13 := e13
        have y43 : M 598 89 = v15 := e15
        have y44 : M 598 96 = v17 := e17
        have y45 : M 598 100 = v19 := e19
        have y46 : M 598 101 = v21 := e21
        have y47 : M 598 107 = v8 := e8
        refine jr.pick [1, 2] rfl rfl ?_
        exact r_deed_L230_z (t := 0) (ak := []) q M w hI_M hH_M hS_M  (fun a i f598 f659 f660 f661 f662 f663 f664 f665 f666 f667 f668 f669 => (hF_M a i f598 f659 f660 f661 f662 f663 f664 f665 f666 f667 f668 f669)) (fun i g73 g74 g75 g76 g77 g78 g79 g80 g81 g89 g90 g96 g100 g102 g107 => (hG_M i g73 g74 g75 g76 g77 g78 g79 g80 g81 g89 g90 g96 g100 g102 g107)) (by omega) (Or.inl ⟨by omega, by omega⟩) (by rw [e6, e7] <;> omega) (by omega) (by omega) (by rw [e8] <;> omega) (by rw [e9] <;> omega) (by rw [e8] <;> omega) hT (fun _ => zr.fe zfz (by omega) (by omega)) (fun q => by exfalso; omega) (fun q => by omega)
      · refine jr.aload_n rfl rfl ?_
        obtain ⟨v48, e48⟩ : ∃ z, M 598 80 = z := ⟨_, rfl⟩
        have b48 : 0 ≤ v48 ∧ v48 ≤ 7 := by rw [← e48]; exact hI_M 598 80 (by decide)
        refine jr_v rfl rfl (Or.inl rfl) rfl rfl (by decide) rfl ⟨rfl, Nat.le_of_ble_eq_true rfl, Nat.le_of_ble_eq_true rfl⟩ rfl (jc.deep (c_good hI_M  (fun t197_0 => ?_) (fun f197_0 => ?_)) (by decide))
        · exfalso
          omega
        · refine jr.if_eq rfl rfl (by omega) (fun _ => ?_) (fun h => absurd (by decide) h)
          have y49 : M 598 80 = v48 := e48
          obtain ⟨v50, e50⟩ : ∃ z, M 598 90 = z := ⟨_, rfl⟩
          have b50 : 0 ≤ v50 ∧ v50 ≤ 2200 := by rw [← e50]; exact hI_M 598 90 (by decide)
          have y51 : M 598 90 = v50 := e50
          obtain ⟨v52, e52⟩ : ∃ z, M 598 73 = z := ⟨_, rfl⟩
          have b52 : 0 ≤ v52 ∧ v52 ≤ 1600 := by rw [← e52]; exact hI_M 598 73 (by decide)
          obtain ⟨v53, e53⟩ : ∃ z, M 598 72 = z := ⟨_, rfl⟩
          have b53 : 0 ≤ v53 ∧ v53 ≤ 1600 := by rw [← e53]; exact hI_M 598 72 (by decide)
          obtain ⟨v54, e54⟩ : ∃ z, M 598 107 = z := ⟨_, rfl⟩
          have b54 : 0 ≤ v54 ∧ v54 ≤ 16 := by rw [← e54]; exact hI_M 598 107 (by decide)
          obtain ⟨v55, e55⟩ : ∃ z, M 598 88 = z := ⟨_, rfl⟩
          have b55 : 0 ≤ v55 ∧ v55 ≤ 16 := by rw [← e55]; exact hI_M 598 88 (by decide)
          obtain ⟨v56, e56⟩ : ∃ z, M 598 75 = z := ⟨_, rfl⟩
          have b56 : 0 ≤ v56 ∧ v56 ≤ 1600 := by rw [← e56]; exact hI_M 598 75 (by decide)
          have y57 : M 598 75 = v56 := e56
          have y58 : M 598 80 = v48 := e48
          obtain ⟨v59, e59⟩ : ∃ z, M 598 81 = z := ⟨_, rfl⟩
          have b59 : (-1) ≤ v59 ∧ v59 ≤ 1600 := by rw [← e59]; exact hI_M 598 81 (by decide)
          have y60 : M 598 81 = v59 := e59
          obtain ⟨v61, e61⟩ : ∃ z, M 598 89 = z := ⟨_, rfl⟩
          have b61 : 0 ≤ v61 ∧ v61 ≤ 301 := by rw [← e61]; exact hI_M 598 89 (by decide)
          have y62 : M 598 89 = v61 := e61
          obtain ⟨v63, e63⟩ : ∃ z, M 598 96 = z := ⟨_, rfl⟩
          have b63 : 0 ≤ v63 ∧ v63 ≤ 300 := by rw [← e63]; exact hI_M 598 96 (by decide)
          have y64 : M 598 96 = v63 := e63
          obtain ⟨v65, e65⟩ : ∃ z, M 598 100 = z := ⟨_, rfl⟩
          have b65 : 0 ≤ v65 ∧ v65 ≤ 13 := by rw [← e65]; exact hI_M 598 100 (by decide)
          have y66 : M 598 100 = v65 := e65
          obtain ⟨v67, e67⟩ : ∃ z, M 598 101 = z := ⟨_, rfl⟩
          have b67 : 0 ≤ v67 ∧ v67 ≤ 1 := by rw [← e67]; exact hI_M 598 101 (by decide)
          have y68 : M 598 101 = v67 := e67
          have y69 : M 598 107 = v54 := e54
          have y70 : M 598 75 = v56 := e56
          have y71 : M 598 80 = v48 := e48
          have y72 : M 598 81 = v59 := e59
          have y73 : M 598 89 = v61 := e61
          have y74 : M 598 96 = v63 := e63
          have y75 : M 598 100 = v65 := e65
          have y76 : M 598 101 = v67 := e67
          have y77 : M 598 107 = v54 := e54
          have y78 : M 598 75 = v56 := e56
          have y79 : M 598 80 = v48 := e48
          have y80 : M 598 81 = v59 := e59
          have y81 : M 598 89 = v61 := e61
          have y82 : M 598 96 = v63 := e63
          have y83 : M 598 100 = v65 := e65
          have y84 : M 598 101 = v67 := e67
          have y85 : M 598 107 = v54 := e54
          have y86 : M 598 75 = v56 := e56
          have y87 : M 598 80 = v48 := e48
          have y88 : M 598 81 = v59 := e59
          have y89 : M 598 89 = v61 := e61
          have y90 : M 598 96 = v63 := e63
          have y91 : M 598 100 = v65 := e65
          have y92 : M 598 101 = v67 := e67
          have y93 : M 598 107 = v54 := e54
          refine jr.pick [1, 2] rfl rfl ?_
          exact r_deed_L230_z (t := 0) (ak := []) q M w hI_M hH_M hS_M  (fun a i f598 f659 f660 f661 f662 f663 f664 f665 f666 f667 f668 f669 => (hF_M a i f598 f659 f660 f661 f662 f663 f664 f665 f666 f667 f668 f669)) (fun i g73 g74 g75 g76 g77 g78 g79 g80 g81 g89 g90 g96 g100 g102 g107 => (hG_M i g73 g74 g75 g76 g77 g78 g79 g80 g81 g89 g90 g96 g100 g102 g107)) (by omega) (Or.inl ⟨by omega, by omega⟩) (by rw [e52, e53] <;> omega) (by omega) (by omega) (by rw [e54] <;> omega) (by rw [e55] <;> omega) (by rw [e54] <;> omega) hT (fun _ => zr.fe zfz (by omega) (by omega)) (fun q => by exfalso; omega) (fun q => by omega)
    · obtain ⟨⟨sa, hX, sc, sd, se, sf⟩, hA, sk⟩ := zg
      have dpx := XS.dep hX
      have sl := XS.sgle hX
      obtain ⟨tl, hKl, hzl⟩ := hy11 (by omega)
      have kkl := hKl.kz
      have h81 := hy12 (by omega)
      have bM_107 : (0 : Int) ≤ M 598 107 ∧ M 598 107 ≤ 16 := hI_M 598 107 (by decide)
      have bM_73 : (0 : Int) ≤ M 598 73 ∧ M 598 73 ≤ 1600 := hI_M 598 73 (by decide)
      have bM_88 : (0 : Int) ≤ M 598 88 ∧ M 598 88 ≤ 16 := hI_M 598 88 (by decide)
      have bM_100 : (0 : Int) ≤ M 598 100 ∧ M 598 100 ≤ 13 := hI_M 598 100 (by decide)
      refine jr.iload_n rfl rfl ?_
      refine jr.iload_n rfl rfl ?_
      refine jr_s rfl rfl (Or.inl rfl) ⟨Nat.le_of_ble_eq_true rfl, Nat.le_of_ble_eq_true rfl⟩ rfl rfl (jc.deep (r_exps hI_M hH_M hS_M (Kp.rfl _) (by omega)  (fun r94 z94 w94_0 => ?_)) (by decide))
      refine jr.icmp_ge rfl rfl (by omega) (by omega) (fun h193 => ?_) (fun h193 => ?_)
      · obtain ⟨v95, e95⟩ : ∃ z, M 598 72 = z := ⟨_, rfl⟩
        have b95 : 0 ≤ v95 ∧ v95 ≤ 1600 := by rw [← e95]; exact hI_M 598 72 (by decide)
        have y96 : M 598 72 = v95 := e95
        obtain ⟨v97, e97⟩ : ∃ z, M 598 73 = z := ⟨_, rfl⟩
        have b97 : 0 ≤ v97 ∧ v97 ≤ 1600 := by rw [← e97]; exact hI_M 598 73 (by decide)
        have y98 : M 598 73 = v97 := e97
        obtain ⟨v99, e99⟩ : ∃ z, M 598 74 = z := ⟨_, rfl⟩
        have b99 : 0 ≤ v99 ∧ v99 ≤ 4 := by rw [← e99]; exact hI_M 598 74 (by decide)
        have y100 : M 598 74 = v99 := e99
        obtain ⟨v101, e101⟩ : ∃ z, M 598 79 = z := ⟨_, rfl⟩
        have b101 : 0 ≤ v101 ∧ v101 ≤ 255 := by rw [← e101]; exact hI_M 598 79 (by decide)
        have y102 : M 598 79 = v101 := e101
        obtain ⟨v103, e103⟩ : ∃ z, M 598 80 = z := ⟨_, rfl⟩
        have b103 : 0 ≤ v103 ∧ v103 ≤ 7 := by rw [← e103]; exact hI_M 598 80 (by decide)
        have y104 : M 598 80 = v103 := e103
        obtain ⟨v105, e105⟩ : ∃ z, M 598 89 = z := ⟨_, rfl⟩
        have b105 : 0 ≤ v105 ∧ v105 ≤ 301 := by rw [← e105]; exact hI_M 598 89 (by decide)
        have y106 : M 598 89 = v105 := e105
        obtain ⟨v107, e107⟩ : ∃ z, M 598 90 = z := ⟨_, rfl⟩
        have b107 : 0 ≤ v107 ∧ v107 ≤ 2200 := by rw [← e107]; exact hI_M 598 90 (by decide)
        have y108 : M 598 90 = v107 := e107
        obtain ⟨v109, e109⟩ : ∃ z, M 598 96 = z := ⟨_, rfl⟩
        have b109 : 0 ≤ v109 ∧ v109 ≤ 300 := by rw [← e109]; exact hI_M 598 96 (by decide)
        have y110 : M 598 96 = v109 := e109
        obtain ⟨v111, e111⟩ : ∃ z, M 598 100 = z := ⟨_, rfl⟩
        have b111 : 0 ≤ v111 ∧ v111 ≤ 13 := by rw [← e111]; exact hI_M 598 100 (by decide)
        have y112 : M 598 100 = v111 := e111
        obtain ⟨v113, e113⟩ : ∃ z, M 598 107 = z := ⟨_, rfl⟩
        have b113 : 0 ≤ v113 ∧ v113 ≤ 16 := by rw [← e113]; exact hI_M 598 107 (by decide)
        have y114 : M 598 107 = v113 := e113
        obtain ⟨v115, e115⟩ : ∃ z, M 598 88 = z := ⟨_, rfl⟩
        have b115 : 0 ≤ v115 ∧ v115 ≤ 16 := by rw [← e115]; exact hI_M 598 88 (by decide)
        obtain ⟨v116, e116⟩ : ∃ z, M 598 75 = z := ⟨_, rfl⟩
        have b116 : 0 ≤ v116 ∧ v116 ≤ 1600 := by rw [← e116]; exact hI_M 598 75 (by decide)
        have y117 : M 598 75 = v116 := e116
        have y118 : M 598 80 = v103 := e103
        obtain ⟨v119, e119⟩ : ∃ z, M 598 81 = z := ⟨_, rfl⟩
        have b119 : (-1) ≤ v119 ∧ v119 ≤ 1600 := by rw [← e119]; exact hI_M 598 81 (by decide)
        have y120 : M 598 81 = v119 := e119
        have y121 : M 598 89 = v105 := e105
        have y122 : M 598 96 = v109 := e109
        have y123 : M 598 100 = v111 := e111
        obtain ⟨v124, e124⟩ : ∃ z, M 598 101 = z := ⟨_, rfl⟩
        have b124 : 0 ≤ v124 ∧ v124 ≤ 1 := by rw [← e124]; exact hI_M 598 101 (by decide)
        have y125 : M 598 101 = v124 := e124
        have y126 : M 598 107 = v113 := e113
        have y127 : M 598 75 = v116 := e116
        have y128 : M 598 80 = v103 := e103
        have y129 : M 598 81 = v119 := e119
        have y130 : M 598 89 = v105 := e105
        have y131 : M 598 96 = v109 := e109
        have y132 : M 598 100 = v111 := e111
        have y133 : M 598 101 = v124 := e124
        have y134 : M 598 107 = v113 := e113
        have y135 : M 598 75 = v116 := e116
        have y136 : M 598 80 = v103 := e103
        have y137 : M 598 81 = v119 := e119
        have y138 : M 598 89 = v105 := e105
        have y139 : M 598 96 = v109 := e109
        have y140 : M 598 100 = v111 := e111
        have y141 : M 598 101 = v124 := e124
        have y142 : M 598 107 = v113 := e113
        have y143 : M 598 75 = v116 := e116
        have y144 : M 598 80 = v103 := e103
        have y145 : M 598 81 = v119 := e119
        have y146 : M 598 89 = v105 := e105
        have y147 : M 598 96 = v109 := e109
        have y148 : M 598 100 = v111 := e111
        have y149 : M 598 101 = v124 := e124
        have y150 : M 598 107 = v113 := e113
        refine jr.pick [1, 2] rfl rfl ?_
        exact r_deed_L230_z (t := 0) (ak := []) q M w hI_M hH_M hS_M  (fun a i f598 f659 f660 f661 f662 f663 f664 f665 f666 f667 f668 f669 => (hF_M a i f598 f659 f660 f661 f662 f663 f664 f665 f666 f667 f668 f669)) (fun i g73 g74 g75 g76 g77 g78 g79 g80 g81 g89 g90 g96 g100 g102 g107 => (hG_M i g73 g74 g75 g76 g77 g78 g79 g80 g81 g89 g90 g96 g100 g102 g107)) (by omega) (Or.inr ⟨⟨by omega, by rw [show ndo (20 + w) = k by omega]; exact hX, by omega, by omega, by omega, by omega⟩, by omega, Or.inl ⟨by omega, by omega, hA⟩⟩) (by rw [e97, e95] <;> omega) (by omega) (by omega) (by rw [e113] <;> omega) (by rw [e115] <;> omega) (by rw [e113] <;> omega) hT (fun q => by exfalso; omega) (fun _ => by obtain ⟨cb, hzb, hrb⟩ := hzl.z1 (by omega); exact ⟨tl, ak, hKl, hy10 (by omega), fun q => zr.exe hzb hrb (by omega) q, fun q => zr.exef hzb hrb (by omega) q⟩) (fun q => by omega)
      · refine jr.aload_n rfl rfl ?_
        obtain ⟨v151, e151⟩ : ∃ z, M 598 80 = z := ⟨_, rfl⟩
        have b151 : 0 ≤ v151 ∧ v151 ≤ 7 := by rw [← e151]; exact hI_M 598 80 (by decide)
        refine jr_v rfl rfl (Or.inl rfl) rfl rfl (by decide) rfl ⟨rfl, Nat.le_of_ble_eq_true rfl, Nat.le_of_ble_eq_true rfl⟩ rfl (jc.deep (c_good hI_M  (fun t197_0 => ?_) (fun f197_0 => ?_)) (by decide))
        · refine jr.if_eq rfl rfl (by omega) (fun h => absurd h (by decide)) (fun _ => ?_)
          refine jr.iload_n rfl rfl ?_
          refine jr.if_le rfl rfl (by omega) (fun h204 => ?_) (fun h204 => ?_)
          · refine jr.aload_n rfl rfl ?_
            refine jr_v rfl rfl (Or.inl rfl) rfl rfl (by decide) rfl ⟨rfl, Nat.le_of_ble_eq_true rfl, Nat.le_of_ble_eq_true rfl⟩ rfl (jc.deep (c_good hI_M  (fun t214_0 => ?_) (fun f214_0 => ?_)) (by decide))
            · refine jr.if_eq rfl rfl (by omega) (fun h => absurd h (by decide)) (fun _ => ?_)
              refine jr.aload_n rfl rfl ?_
              refine jr_v rfl rfl (Or.inl rfl) rfl rfl (by decide) rfl ⟨rfl, Nat.le_of_ble_eq_true rfl, Nat.le_of_ble_eq_true rfl⟩ rfl (jc.deep (c_exp_z hI_M hH_M hS_M ⟨by omega, hX, by omega, by omega, by omega, by omega⟩ (by omega) hKl (hzl.z0 (by omega)) ⟨10, _, _, _, _, rfl, by decide⟩ (fun M152 hI_M152 hH_M152 hS_M152 bs152 wt152 wl152 wc152 wn152 hTx152 zfz wF152 wG152 => ?_) (fun M152 hI_M152 hH_M152 hS_M152 ss152 wt152 wc152 wn152 hTx152 u81152 zo152 wF152 wG152 => ?_)) (by decide))
              · obtain ⟨ba152, bb152⟩ := bs152
                have x152_72 := wG152 72 (by decide) (by decide) (by decide) (by decide) (by decide) (by decide) (by decide) (by decide) (by decide) (by decide) (by decide) (by decide) (by decide)
                have x152_101 := wG152 101 (by decide) (by decide) (by decide) (by decide) (by decide) (by decide) (by decide) (by decide) (by decide) (by decide) (by decide) (by decide) (by decide)
                have x152_107 := wG152 107 (by decide) (by decide) (by decide) (by decide) (by decide) (by decide) (by decide) (by decide) (by decide) (by decide) (by decide) (by decide) (by decide)
                have x152_96 := wG152 96 (by decide) (by decide) (by decide) (by decide) (by decide) (by decide) (by decide) (by decide) (by decide) (by decide) (by decide) (by decide) (by decide)
                have x152_88 := wG152 88 (by decide) (by decide) (by decide) (by decide) (by decide) (by decide) (by decide) (by decide) (by decide) (by decide) (by decide) (by decide) (by decide)
                refine jr.iinc rfl rfl (by decide) rfl ?_
                refine jr.goto rfl rfl ?_
                obtain ⟨v153, e153⟩ : ∃ z, M152 598 80 = z := ⟨_, rfl⟩
                have b153 : 0 ≤ v153 ∧ v153 ≤ 7 := by rw [← e153]; exact hI_M152 598 80 (by decide)
                have y154 : M152 598 80 = v153 := e153
                obtain ⟨v155, e155⟩ : ∃ z, M152 598 90 = z := ⟨_, rfl⟩
                have b155 : 0 ≤ v155 ∧ v155 ≤ 2200 := by rw [← e155]; exact hI_M152 598 90 (by decide)
                have y156 : M152 598 90 = v155 := e155
                obtain ⟨v157, e157⟩ : ∃ z, M152 598 73 = z := ⟨_, rfl⟩
                have b157 : 0 ≤ v157 ∧ v157 ≤ 1600 := by rw [← e157]; exact hI_M152 598 73 (by decide)
                obtain ⟨v158, e158⟩ : ∃ z, M 598 72 = z := ⟨_, rfl⟩
                have b158 : 0 ≤ v158 ∧ v158 ≤ 1600 := by rw [← e158]; exact hI_M 598 72 (by decide)
                have e159 : M152 598 72 = v158 := ((wG152 72 (by decide) (by decide) (by decide) (by decide) (by decide) (by decide) (by decide) (by decide) (by decide) (by decide) (by decide) (by decide) (by decide)).trans e158)
                obtain ⟨v160, e160⟩ : ∃ z, M 598 107 = z := ⟨_, rfl⟩
                have b160 : 0 ≤ v160 ∧ v160 ≤ 16 := by rw [← e160]; exact hI_M 598 107 (by decide)
                have e161 : M152 598 107 = v160 := ((wG152 107 (by decide) (by decide) (by decide) (by decide) (by decide) (by decide) (by decide) (by decide) (by decide) (by decide) (by decide) (by decide) (by decide)).trans e160)
                obtain ⟨v162, e162⟩ : ∃ z, M 598 88 = z := ⟨_, rfl⟩
                have b162 : 0 ≤ v162 ∧ v162 ≤ 16 := by rw [← e162]; exact hI_M 598 88 (by decide)
                have e163 : M152 598 88 = v162 := ((wG152 88 (by decide) (by decide) (by decide) (by decide) (by decide) (by decide) (by decide) (by decide) (by decide) (by decide) (by decide) (by decide) (by decide)).trans e162)
                obtain ⟨v164, e164⟩ : ∃ z, M152 598 75 = z := ⟨_, rfl⟩
                have b164 : 0 ≤ v164 ∧ v164 ≤ 1600 := by rw [← e164]; exact hI_M152 598 75 (by decide)
                have y165 : M152 598 75 = v164 := e164
                have y166 : M152 598 80 = v153 := e153
                obtain ⟨v167, e167⟩ : ∃ z, M152 598 81 = z := ⟨_, rfl⟩
                have b167 : (-1) ≤ v167 ∧ v167 ≤ 1600 := by rw [← e167]; exact hI_M152 598 81 (by decide)
                have y168 : M152 598 81 = v167 := e167
                obtain ⟨v169, e169⟩ : ∃ z, M152 598 89 = z := ⟨_, rfl⟩
                have b169 : 0 ≤ v169 ∧ v169 ≤ 301 := by rw [← e169]; exact hI_M152 598 89 (by decide)
                have y170 : M152 598 89 = v169 := e169
                obtain ⟨v171, e171⟩ : ∃ z, M 598 96 = z := ⟨_, rfl⟩
                have b171 : 0 ≤ v171 ∧ v171 ≤ 300 := by rw [← e171]; exact hI_M 598 96 (by decide)
                have e172 : M152 598 96 = v171 := ((wG152 96 (by decide) (by decide) (by decide) (by decide) (by decide) (by decide) (by decide) (by decide) (by decide) (by decide) (by decide) (by decide) (by decide)).trans e171)
                have y173 : M152 598 96 = v171 := e172
                obtain ⟨v174, e174⟩ : ∃ z, M152 598 100 = z := ⟨_, rfl⟩
                have b174 : 0 ≤ v174 ∧ v174 ≤ 13 := by rw [← e174]; exact hI_M152 598 100 (by decide)
                have y175 : M152 598 100 = v174 := e174
                obtain ⟨v176, e176⟩ : ∃ z, M 598 101 = z := ⟨_, rfl⟩
                have b176 : 0 ≤ v176 ∧ v176 ≤ 1 := by rw [← e176]; exact hI_M 598 101 (by decide)
                have e177 : M152 598 101 = v176 := ((wG152 101 (by decide) (by decide) (by decide) (by decide) (by decide) (by decide) (by decide) (by decide) (by decide) (by decide) (by decide) (by decide) (by decide)).trans e176)
                have y178 : M152 598 101 = v176 := e177
                have y179 : M152 598 107 = v160 := e161
                have y180 : M152 598 75 = v164 := e164
                have y181 : M152 598 80 = v153 := e153
                have y182 : M152 598 81 = v167 := e167
                have y183 : M152 598 89 = v169 := e169
                have y184 : M152 598 96 = v171 := e172
                have y185 : M152 598 100 = v174 := e174
                have y186 : M152 598 101 = v176 := e177
                have y187 : M152 598 107 = v160 := e161
                have y188 : M152 598 75 = v164 := e164
                have y189 : M152 598 80 = v153 := e153
                have y190 : M152 598 81 = v167 := e167
                have y191 : M152 598 89 = v169 := e169
                have y192 : M152 598 96 = v171 := e172
                have y193 : M152 598 100 = v174 := e174
                have y194 : M152 598 101 = v176 := e177
                have y195 : M152 598 107 = v160 := e161
                have y196 : M152 598 75 = v164 := e164
                have y197 : M152 598 80 = v153 := e153
                have y198 : M152 598 81 = v167 := e167
                have y199 : M152 598 89 = v169 := e169
                have y200 : M152 598 96 = v171 := e172
                have y201 : M152 598 100 = v174 := e174
                have y202 : M152 598 101 = v176 := e177
                have y203 : M152 598 107 = v160 := e161
                have y204 : M152 598 75 = v164 := e164
                have y205 : M152 598 80 = v153 := e153
                have y206 : M152 598 81 = v167 := e167
                have y207 : M152 598 89 = v169 := e169
                have y208 : M152 598 96 = v171 := e172
                have y209 : M152 598 100 = v174 := e174
                have y210 : M152 598 101 = v176 := e177
                have y211 : M152 598 107 = v160 := e161
                refine jr.pick [0, 1, 2] rfl rfl ?_
                exact ih (nM - 1) (by omega) M152 (k + 1) w hI_M152 hH_M152 hS_M152  (fun a i f598 f659 f660 f661 f662 f663 f664 f665 f666 f667 f668 f669 => ((wF152 a i f598 f659 f660 f664 f665 f666 f667).trans (hF_M a i f598 f659 f660 f661 f662 f663 f664 f665 f666 f667 f668 f669))) (fun i g73 g74 g75 g76 g77 g78 g79 g80 g81 g89 g90 g96 g100 g102 g107 => ((wG152 i g73 g74 g75 g76 g77 g78 g79 g80 g81 g89 g90 g100 g102).trans (hG_M i g73 g74 g75 g76 g77 g78 g79 g80 g81 g89 g90 g96 g100 g102 g107))) (by omega) (by omega) (Or.inl ⟨by omega, by omega⟩) (by rw [e157, e159] <;> omega) (by omega) (by omega) (by rw [e161] <;> omega) (by rw [e163] <;> omega) (by omega) (by rw [e161] <;> omega) hTx152 (fun _ => zr.fe zfz (by omega) (by omega)) (fun q => by exfalso; omega) (fun q => by exfalso; omega) (fun q => by omega) (by omega)
              · obtain ⟨sa152, hX, sc152, sd152, se152, sf152⟩ := ss152
                have hA := AK.cp hA wc152 (fun i => wF152 663 i (by decide) (by decide) (by decide) (by decide) (by decide) (by decide) (by decide)) (wG152 96 (by decide) (by decide) (by decide) (by decide) (by decide) (by decide) (by decide) (by decide) (by decide) (by decide) (by decide) (by decide) (by decide))
                have dpx152 := XS.dep hX
                have sl152 := XS.sgle hX
                have bM152_107 : (0 : Int) ≤ M152 598 107 ∧ M152 598 107 ≤ 16 := hI_M152 598 107 (by decide)
                have bM152_73 : (0 : Int) ≤ M152 598 73 ∧ M152 598 73 ≤ 1600 := hI_M152 598 73 (by decide)
                have bM152_88 : (0 : Int) ≤ M152 598 88 ∧ M152 598 88 ≤ 16 := hI_M152 598 88 (by decide)
                have bM152_100 : (0 : Int) ≤ M152 598 100 ∧ M152 598 100 ≤ 13 := hI_M152 598 100 (by decide)
                have x152_72 := wG152 72 (by decide) (by decide) (by decide) (by decide) (by decide) (by decide) (by decide) (by decide) (by decide) (by decide) (by decide) (by decide) (by decide)
                have x152_101 := wG152 101 (by decide) (by decide) (by decide) (by decide) (by decide) (by decide) (by decide) (by decide) (by decide) (by decide) (by decide) (by decide) (by decide)
                have x152_107 := wG152 107 (by decide) (by decide) (by decide) (by decide) (by decide) (by decide) (by decide) (by decide) (by decide) (by decide) (by decide) (by decide) (by decide)
                have x152_96 := wG152 96 (by decide) (by decide) (by decide) (by decide) (by decide) (by decide) (by decide) (by decide) (by decide) (by decide) (by decide) (by decide) (by decide)
                have x152_88 := wG152 88 (by decide) (by decide) (by decide) (by decide) (by decide) (by decide) (by decide) (by decide) (by decide) (by decide) (by decide) (by decide) (by decide)
                obtain ⟨tx, cx, hKx, hzx, hrx⟩ := zo152
                have kkx := hKx.kz
                have blx : blr M152 = blr M := blr_fr (fun i => wF152 668 i (by decide) (by decide) (by decide) (by decide) (by decide) (by decide) (by decide)) (wG152 107 (by decide) (by decide) (by decide) (by decide) (by decide) (by decide) (by decide) (by decide) (by decide) (by decide) (by decide) (by decide) (by decide))
                refine jr.iinc rfl rfl (by decide) rfl ?_
                refine jr.goto rfl rfl ?_
                obtain ⟨v212, e212⟩ : ∃ z, M 598 72 = z := ⟨_, rfl⟩
                have b212 : 0 ≤ v212 ∧ v212 ≤ 1600 := by rw [← e212]; exact hI_M 598 72 (by decide)
                have e213 : M152 598 72 = v212 := ((wG152 72 (by decide) (by decide) (by decide) (by decide) (by decide) (by decide) (by decide) (by decide) (by decide) (by decide) (by decide) (by decide) (by decide)).trans e212)
                have y214 : M152 598 72 = v212 := e213
                obtain ⟨v215, e215⟩ : ∃ z, M152 598 73 = z := ⟨_, rfl⟩
                have b215 : 0 ≤ v215 ∧ v215 ≤ 1600 := by rw [← e215]; exact hI_M152 598 73 (by decide)
                have y216 : M152 598 73 = v215 := e215
                obtain ⟨v217, e217⟩ : ∃ z, M152 598 74 = z := ⟨_, rfl⟩
                have b217 : 0 ≤ v217 ∧ v217 ≤ 4 := by rw [← e217]; exact hI_M152 598 74 (by decide)
                have y218 : M152 598 74 = v217 := e217
                obtain ⟨v219, e219⟩ : ∃ z, M152 598 79 = z := ⟨_, rfl⟩
                have b219 : 0 ≤ v219 ∧ v219 ≤ 255 := by rw [← e219]; exact hI_M152 598 79 (by decide)
                have y220 : M152 598 79 = v219 := e219
                obtain ⟨v221, e221⟩ : ∃ z, M152 598 80 = z := ⟨_, rfl⟩
                have b221 : 0 ≤ v221 ∧ v221 ≤ 7 := by rw [← e221]; exact hI_M152 598 80 (by decide)
                have y222 : M152 598 80 = v221 := e221
                obtain ⟨v223, e223⟩ : ∃ z, M152 598 89 = z := ⟨_, rfl⟩
                have b223 : 0 ≤ v223 ∧ v223 ≤ 301 := by rw [← e223]; exact hI_M152 598 89 (by decide)
                have y224 : M152 598 89 = v223 := e223
                obtain ⟨v225, e225⟩ : ∃ z, M152 598 90 = z := ⟨_, rfl⟩
                have b225 : 0 ≤ v225 ∧ v225 ≤ 2200 := by rw [← e225]; exact hI_M152 598 90 (by decide)
                have y226 : M152 598 90 = v225 := e225
                obtain ⟨v227, e227⟩ : ∃ z, M 598 96 = z := ⟨_, rfl⟩
                have b227 : 0 ≤ v227 ∧ v227 ≤ 300 := by rw [← e227]; exact hI_M 598 96 (by decide)
                have e228 : M152 598 96 = v227 := ((wG152 96 (by decide) (by decide) (by decide) (by decide) (by decide) (by decide) (by decide) (by decide) (by decide) (by decide) (by decide) (by decide) (by decide)).trans e227)
                have y229 : M152 598 96 = v227 := e228
                obtain ⟨v230, e230⟩ : ∃ z, M152 598 100 = z := ⟨_, rfl⟩
                have b230 : 0 ≤ v230 ∧ v230 ≤ 13 := by rw [← e230]; exact hI_M152 598 100 (by decide)
                have y231 : M152 598 100 = v230 := e230
                obtain ⟨v232, e232⟩ : ∃ z, M 598 107 = z := ⟨_, rfl⟩
                have b232 : 0 ≤ v232 ∧ v232 ≤ 16 := by rw [← e232]; exact hI_M 598 107 (by decide)
                have e233 : M152 598 107 = v232 := ((wG152 107 (by decide) (by decide) (by decide) (by decide) (by decide) (by decide) (by decide) (by decide) (by decide) (by decide) (by decide) (by decide) (by decide)).trans e232)
                have y234 : M152 598 107 = v232 := e233
                obtain ⟨v235, e235⟩ : ∃ z, M 598 88 = z := ⟨_, rfl⟩
                have b235 : 0 ≤ v235 ∧ v235 ≤ 16 := by rw [← e235]; exact hI_M 598 88 (by decide)
                have e236 : M152 598 88 = v235 := ((wG152 88 (by decide) (by decide) (by decide) (by decide) (by decide) (by decide) (by decide) (by decide) (by decide) (by decide) (by decide) (by decide) (by decide)).trans e235)
                obtain ⟨v237, e237⟩ : ∃ z, M152 598 75 = z := ⟨_, rfl⟩
                have b237 : 0 ≤ v237 ∧ v237 ≤ 1600 := by rw [← e237]; exact hI_M152 598 75 (by decide)
                have y238 : M152 598 75 = v237 := e237
                have y239 : M152 598 80 = v221 := e221
                obtain ⟨v240, e240⟩ : ∃ z, M152 598 81 = z := ⟨_, rfl⟩
                have b240 : (-1) ≤ v240 ∧ v240 ≤ 1600 := by rw [← e240]; exact hI_M152 598 81 (by decide)
                have y241 : M152 598 81 = v240 := e240
                have y242 : M152 598 89 = v223 := e223
                have y243 : M152 598 96 = v227 := e228
                have y244 : M152 598 100 = v230 := e230
                obtain ⟨v245, e245⟩ : ∃ z, M 598 101 = z := ⟨_, rfl⟩
                have b245 : 0 ≤ v245 ∧ v245 ≤ 1 := by rw [← e245]; exact hI_M 598 101 (by decide)
                have e246 : M152 598 101 = v245 := ((wG152 101 (by decide) (by decide) (by decide) (by decide) (by decide) (by decide) (by decide) (by decide) (by decide) (by decide) (by decide) (by decide) (by decide)).trans e245)
                have y247 : M152 598 101 = v245 := e246
                have y248 : M152 598 107 = v232 := e233
                have y249 : M152 598 75 = v237 := e237
                have y250 : M152 598 80 = v221 := e221
                have y251 : M152 598 81 = v240 := e240
                have y252 : M152 598 89 = v223 := e223
                have y253 : M152 598 96 = v227 := e228
                have y254 : M152 598 100 = v230 := e230
                have y255 : M152 598 101 = v245 := e246
                have y256 : M152 598 107 = v232 := e233
                have y257 : M152 598 75 = v237 := e237
                have y258 : M152 598 80 = v221 := e221
                have y259 : M152 598 81 = v240 := e240
                have y260 : M152 598 89 = v223 := e223
                have y261 : M152 598 96 = v227 := e228
                have y262 : M152 598 100 = v230 := e230
                have y263 : M152 598 101 = v245 := e246
                have y264 : M152 598 107 = v232 := e233
                have y265 : M152 598 75 = v237 := e237
                have y266 : M152 598 80 = v221 := e221
                have y267 : M152 598 81 = v240 := e240
                have y268 : M152 598 89 = v223 := e223
                have y269 : M152 598 96 = v227 := e228
                have y270 : M152 598 100 = v230 := e230
                have y271 : M152 598 101 = v245 := e246
                have y272 : M152 598 107 = v232 := e233
                have y273 : M152 598 75 = v237 := e237
                have y274 : M152 598 80 = v221 := e221
                have y275 : M152 598 81 = v240 := e240
                have y276 : M152 598 89 = v223 := e223
                have y277 : M152 598 96 = v227 := e228
                have y278 : M152 598 100 = v230 := e230
                have y279 : M152 598 101 = v245 := e246
                have y280 : M152 598 107 = v232 := e233
                refine jr.pick [0, 1, 2] rfl rfl ?_
                exact ih (nM - 1) (by omega) M152 (k + 1) w hI_M152 hH_M152 hS_M152  (fun a i f598 f659 f660 f661 f662 f663 f664 f665 f666 f667 f668 f669 => ((wF152 a i f598 f659 f660 f664 f665 f666 f667).trans (hF_M a i f598 f659 f660 f661 f662 f663 f664 f665 f666 f667 f668 f669))) (fun i g73 g74 g75 g76 g77 g78 g79 g80 g81 g89 g90 g96 g100 g102 g107 => ((wG152 i g73 g74 g75 g76 g77 g78 g79 g80 g81 g89 g90 g100 g102).trans (hG_M i g73 g74 g75 g76 g77 g78 g79 g80 g81 g89 g90 g96 g100 g102 g107))) (by omega) (by omega) (Or.inr ⟨⟨by omega, hX, by omega, by omega, by omega, by omega⟩, hA, by omega⟩) (by rw [e215, e213] <;> omega) (by omega) (by omega) (by rw [e233] <;> omega) (by rw [e236] <;> omega) (by omega) (by rw [e233] <;> omega) hTx152 (fun q => by exfalso; omega) (fun _ => (AKr.fr (hy10 (by omega)) (fun i => wF152 661 i (by decide) (by decide) (by decide) (by decide) (by decide) (by decide) (by decide)) (fun i => wF152 662 i (by decide) (by decide) (by decide) (by decide) (by decide) (by decide) (by decide)) (wG152 96 (by decide) (by decide) (by decide) (by decide) (by decide) (by decide) (by decide) (by decide) (by decide) (by decide) (by decide) (by decide) (by decide)))) (fun _ => ⟨tx, hKx, Or.inr ⟨by omega, cx, zr.eqx hzx rfl rfl rfl rfl (by omega) (by rw [blx.trans rfl]; try rw [show k + 1 = 1 by omega]), hrx⟩⟩) (fun q => by omega) (by omega)
            · exfalso
              omega
          · refine jr.aload_n rfl rfl ?_
            refine jr.bipush rfl (by decide) ?_
            obtain ⟨v281, e281⟩ : ∃ z, M 598 73 = z := ⟨_, rfl⟩
            have b281 : 0 ≤ v281 ∧ v281 ≤ 1600 := by rw [← e281]; exact hI_M 598 73 (by decide)
            obtain ⟨v282, e282⟩ : ∃ z, M 598 72 = z := ⟨_, rfl⟩
            have b282 : 0 ≤ v282 ∧ v282 ≤ 1600 := by rw [← e282]; exact hI_M 598 72 (by decide)
            obtain ⟨v283, e283⟩ : ∃ z, M 598 74 = z := ⟨_, rfl⟩
            have b283 : 0 ≤ v283 ∧ v283 ≤ 4 := by rw [← e283]; exact hI_M 598 74 (by decide)
            obtain ⟨v284, e284⟩ : ∃ z, M 598 79 = z := ⟨_, rfl⟩
            have b284 : 0 ≤ v284 ∧ v284 ≤ 255 := by rw [← e284]; exact hI_M 598 79 (by decide)
            obtain ⟨v285, e285⟩ : ∃ z, M 598 89 = z := ⟨_, rfl⟩
            have b285 : 0 ≤ v285 ∧ v285 ≤ 301 := by rw [← e285]; exact hI_M 598 89 (by decide)
            obtain ⟨v286, e286⟩ : ∃ z, M 598 100 = z := ⟨_, rfl⟩
            have b286 : 0 ≤ v286 ∧ v286 ≤ 13 := by rw [← e286]; exact hI_M 598 100 (by decide)
            obtain ⟨v287, e287⟩ : ∃ z, M 598 81 = z := ⟨_, rfl⟩
            have b287 : (-1) ≤ v287 ∧ v287 ≤ 1600 := by rw [← e287]; exact hI_M 598 81 (by decide)
            refine jr_v rfl rfl (Or.inl rfl) rfl rfl (by decide) rfl ⟨rfl, Nat.le_of_ble_eq_true rfl, Nat.le_of_ble_eq_true rfl⟩ rfl (jc.deep (c_want_z (f := f) (N := N) hI_M hH_M hS_M (by omega) (by rw [e281, e282]; omega) hKl (by rw [e151]; omega) (by rw [e283, e284]; intro q; omega) (fun M288 hI_M288 hH_M288 hS_M288 qa288 qb288 qt288 sn288 q0288 q1288 qs288 hK288 w288_50 w288_51 => ?_) (fun M288 hI_M288 hH_M288 hS_M288 qa288 qb288 qt288 qn288 q0288 q1288 qs288 hT288 w288_50 w288_51 => ?_)) (by decide))
            · have x288_72 := w288_51 72 (by decide) (by decide) (by decide) (by decide) (by decide) (by decide) (by decide) (by decide) (by decide)
              have x288_89 := w288_51 89 (by decide) (by decide) (by decide) (by decide) (by decide) (by decide) (by decide) (by decide) (by decide)
              have x288_100 := w288_51 100 (by decide) (by decide) (by decide) (by decide) (by decide) (by decide) (by decide) (by decide) (by decide)
              have hT288 := hK288.1
              have kk288 := hK288.kz
              have y289 : M 598 73 = v281 := e281
              have y290 : M 598 74 = v283 := e283
              have y291 : M 598 89 = v285 := e285
              have y292 : M 598 100 = v286 := e286
              have x288_89 := w288_51 89 (by decide) (by decide) (by decide) (by decide) (by decide) (by decide) (by decide) (by decide) (by decide)
              have x288_100 := w288_51 100 (by decide) (by decide) (by decide) (by decide) (by decide) (by decide) (by decide) (by decide) (by decide)
              have hX := XS.fr2 hX w288_50 (w288_51 88 (by decide) (by decide) (by decide) (by decide) (by decide) (by decide) (by decide) (by decide) (by decide)) (w288_51 90 (by decide) (by decide) (by decide) (by decide) (by decide) (by decide) (by decide) (by decide) (by decide)) (w288_51 101 (by decide) (by decide) (by decide) (by decide) (by decide) (by decide) (by decide) (by decide) (by decide)) (w288_51 107 (by decide) (by decide) (by decide) (by decide) (by decide) (by decide) (by decide) (by decide) (by decide)) (k' := 0 + 2 + 2) (d' := 0) (z' := 0) (by omega) (by omega) (by omega) (by omega)
              have hA := AK.cp hA (CP.f (CP.rfl _) (fun i => w288_50 659 i (by decide)) (w288_51 90 (by decide) (by decide) (by decide) (by decide) (by decide) (by decide) (by decide) (by decide) (by decide))) (fun i => w288_50 663 i (by decide)) (w288_51 96 (by decide) (by decide) (by decide) (by decide) (by decide) (by decide) (by decide) (by decide) (by decide))
              have x288_101 := w288_51 101 (by decide) (by decide) (by decide) (by decide) (by decide) (by decide) (by decide) (by decide) (by decide)
              have x288_107 := w288_51 107 (by decide) (by decide) (by decide) (by decide) (by decide) (by decide) (by decide) (by decide) (by decide)
              have x288_88 := w288_51 88 (by decide) (by decide) (by decide) (by decide) (by decide) (by decide) (by decide) (by decide) (by decide)
              have x288_96 := w288_51 96 (by decide) (by decide) (by decide) (by decide) (by decide) (by decide) (by decide) (by decide) (by decide)
              obtain ⟨cb, hzb, hrb⟩ := hzl.z1 (by omega)
              refine jr.aload_n rfl rfl ?_
              obtain ⟨v293, e293⟩ : ∃ z, M288 598 80 = z := ⟨_, rfl⟩
              have b293 : 0 ≤ v293 ∧ v293 ≤ 7 := by rw [← e293]; exact hI_M288 598 80 (by decide)
              refine jr_v rfl rfl (Or.inl rfl) rfl rfl (by decide) rfl ⟨rfl, Nat.le_of_ble_eq_true rfl, Nat.le_of_ble_eq_true rfl⟩ rfl (jc.deep (c_good hI_M288  (fun t214_0 => ?_) (fun f214_0 => ?_)) (by decide))
              · refine jr.if_eq rfl rfl (by omega) (fun h => absurd h (by decide)) (fun _ => ?_)
                refine jr.aload_n rfl rfl ?_
                refine jr_v rfl rfl (Or.inl rfl) rfl rfl (by decide) rfl ⟨rfl, Nat.le_of_ble_eq_true rfl, Nat.le_of_ble_eq_true rfl⟩ rfl (jc.deep (c_exp_z hI_M288 hH_M288 hS_M288 ⟨by omega, hX, by omega, by omega, by omega, by omega⟩ (by omega) hK288 (zr.eqx (zr.exa hzb hrb (by omega) qs288) rfl rfl (by omega) (by omega) rfl rfl) ⟨10, _, _, _, _, rfl, by decide⟩ (fun M294 hI_M294 hH_M294 hS_M294 bs294 wt294 wl294 wc294 wn294 hTx294 zfz wF294 wG294 => ?_) (fun M294 hI_M294 hH_M294 hS_M294 ss294 wt294 wc294 wn294 hTx294 u81294 zo294 wF294 wG294 => ?_)) (by decide))
                · obtain ⟨ba294, bb294⟩ := bs294
                  have x294_72 := wG294 72 (by decide) (by decide) (by decide) (by decide) (by decide) (by decide) (by decide) (by decide) (by decide) (by decide) (by decide) (by decide) (by decide)
                  have x294_101 := wG294 101 (by decide) (by decide) (by decide) (by decide) (by decide) (by decide) (by decide) (by decide) (by decide) (by decide) (by decide) (by decide) (by decide)
                  have x294_107 := wG294 107 (by decide) (by decide) (by decide) (by decide) (by decide) (by decide) (by decide) (by decide) (by decide) (by decide) (by decide) (by decide) (by decide)
                  have x294_96 := wG294 96 (by decide) (by decide) (by decide) (by decide) (by decide) (by decide) (by decide) (by decide) (by decide) (by decide) (by decide) (by decide) (by decide)
                  have x294_88 := wG294 88 (by decide) (by decide) (by decide) (by decide) (by decide) (by decide) (by decide) (by decide) (by decide) (by decide) (by decide) (by decide) (by decide)
                  refine jr.iinc rfl rfl (by decide) rfl ?_
                  refine jr.goto rfl rfl ?_
                  obtain ⟨v295, e295⟩ : ∃ z, M294 598 80 = z := ⟨_, rfl⟩
                  have b295 : 0 ≤ v295 ∧ v295 ≤ 7 := by rw [← e295]; exact hI_M294 598 80 (by decide)
                  have y296 : M294 598 80 = v295 := e295
                  obtain ⟨v297, e297⟩ : ∃ z, M294 598 90 = z := ⟨_, rfl⟩
                  have b297 : 0 ≤ v297 ∧ v297 ≤ 2200 := by rw [← e297]; exact hI_M294 598 90 (by decide)
                  have y298 : M294 598 90 = v297 := e297
                  obtain ⟨v299, e299⟩ : ∃ z, M294 598 73 = z := ⟨_, rfl⟩
                  have b299 : 0 ≤ v299 ∧ v299 ≤ 1600 := by rw [← e299]; exact hI_M294 598 73 (by decide)
                  have e300 : M288 598 72 = v282 := ((w288_51 72 (by decide) (by decide) (by decide) (by decide) (by decide) (by decide) (by decide) (by decide) (by decide)).trans e282)
                  have e301 : M294 598 72 = v282 := ((wG294 72 (by decide) (by decide) (by decide) (by decide) (by decide) (by decide) (by decide) (by decide) (by decide) (by decide) (by decide) (by decide) (by decide)).trans e300)
                  obtain ⟨v302, e302⟩ : ∃ z, M 598 107 = z := ⟨_, rfl⟩
                  have b302 : 0 ≤ v302 ∧ v302 ≤ 16 := by rw [← e302]; exact hI_M 598 107 (by decide)
                  have e303 : M288 598 107 = v302 := ((w288_51 107 (by decide) (by decide) (by decide) (by decide) (by decide) (by decide) (by decide) (by decide) (by decide)).trans e302)
                  have e304 : M294 598 107 = v302 := ((wG294 107 (by decide) (by decide) (by decide) (by decide) (by decide) (by decide) (by decide) (by decide) (by decide) (by decide) (by decide) (by decide) (by decide)).trans e303)
                  obtain ⟨v305, e305⟩ : ∃ z, M 598 88 = z := ⟨_, rfl⟩
                  have b305 : 0 ≤ v305 ∧ v305 ≤ 16 := by rw [← e305]; exact hI_M 598 88 (by decide)
                  have e306 : M288 598 88 = v305 := ((w288_51 88 (by decide) (by decide) (by decide) (by decide) (by decide) (by decide) (by decide) (by decide) (by decide)).trans e305)
                  have e307 : M294 598 88 = v305 := ((wG294 88 (by decide) (by decide) (by decide) (by decide) (by decide) (by decide) (by decide) (by decide) (by decide) (by decide) (by decide) (by decide) (by decide)).trans e306)
                  obtain ⟨v308, e308⟩ : ∃ z, M294 598 75 = z := ⟨_, rfl⟩
                  have b308 : 0 ≤ v308 ∧ v308 ≤ 1600 := by rw [← e308]; exact hI_M294 598 75 (by decide)
                  have y309 : M294 598 75 = v308 := e308
                  have y310 : M294 598 80 = v295 := e295
                  obtain ⟨v311, e311⟩ : ∃ z, M294 598 81 = z := ⟨_, rfl⟩
                  have b311 : (-1) ≤ v311 ∧ v311 ≤ 1600 := by rw [← e311]; exact hI_M294 598 81 (by decide)
                  have y312 : M294 598 81 = v311 := e311
                  obtain ⟨v313, e313⟩ : ∃ z, M294 598 89 = z := ⟨_, rfl⟩
                  have b313 : 0 ≤ v313 ∧ v313 ≤ 301 := by rw [← e313]; exact hI_M294 598 89 (by decide)
                  have y314 : M294 598 89 = v313 := e313
                  obtain ⟨v315, e315⟩ : ∃ z, M 598 96 = z := ⟨_, rfl⟩
                  have b315 : 0 ≤ v315 ∧ v315 ≤ 300 := by rw [← e315]; exact hI_M 598 96 (by decide)
                  have e316 : M288 598 96 = v315 := ((w288_51 96 (by decide) (by decide) (by decide) (by decide) (by decide) (by decide) (by decide) (by decide) (by decide)).trans e315)
                  have e317 : M294 598 96 = v315 := ((wG294 96 (by decide) (by decide) (by decide) (by decide) (by decide) (by decide) (by decide) (by decide) (by decide) (by decide) (by decide) (by decide) (by decide)).trans e316)
                  have y318 : M294 598 96 = v315 := e317
                  obtain ⟨v319, e319⟩ : ∃ z, M294 598 100 = z := ⟨_, rfl⟩
                  have b319 : 0 ≤ v319 ∧ v319 ≤ 13 := by rw [← e319]; exact hI_M294 598 100 (by decide)
                  have y320 : M294 598 100 = v319 := e319
                  obtain ⟨v321, e321⟩ : ∃ z, M 598 101 = z := ⟨_, rfl⟩
                  have b321 : 0 ≤ v321 ∧ v321 ≤ 1 := by rw [← e321]; exact hI_M 598 101 (by decide)
                  have e322 : M288 598 101 = v321 := ((w288_51 101 (by decide) (by decide) (by decide) (by decide) (by decide) (by decide) (by decide) (by decide) (by decide)).trans e321)
                  have e323 : M294 598 101 = v321 := ((wG294 101 (by decide) (by decide) (by decide) (by decide) (by decide) (by decide) (by decide) (by decide) (by decide) (by decide) (by decide) (by decide) (by decide)).trans e322)
                  have y324 : M294 598 101 = v321 := e323
                  have y325 : M294 598 107 = v302 := e304
                  have y326 : M294 598 75 = v308 := e308
                  have y327 : M294 598 80 = v295 := e295
                  have y328 : M294 598 81 = v311 := e311
                  have y329 : M294 598 89 = v313 := e313
                  have y330 : M294 598 96 = v315 := e317
                  have y331 : M294 598 100 = v319 := e319
                  have y332 : M294 598 101 = v321 := e323
                  have y333 : M294 598 107 = v302 := e304
                  have y334 : M294 598 75 = v308 := e308
                  have y335 : M294 598 80 = v295 := e295
                  have y336 : M294 598 81 = v311 := e311
                  have y337 : M294 598 89 = v313 := e313
                  have y338 : M294 598 96 = v315 := e317
                  have y339 : M294 598 100 = v319 := e319
                  have y340 : M294 598 101 = v321 := e323
                  have y341 : M294 598 107 = v302 := e304
                  have y342 : M294 598 75 = v308 := e308
                  have y343 : M294 598 80 = v295 := e295
                  have y344 : M294 598 81 = v311 := e311
                  have y345 : M294 598 89 = v313 := e313
                  have y346 : M294 598 96 = v315 := e317
                  have y347 : M294 598 100 = v319 := e319
                  have y348 : M294 598 101 = v321 := e323
                  have y349 : M294 598 107 = v302 := e304
                  have y350 : M294 598 75 = v308 := e308
                  have y351 : M294 598 80 = v295 := e295
                  have y352 : M294 598 81 = v311 := e311
                  have y353 : M294 598 89 = v313 := e313
                  have y354 : M294 598 96 = v315 := e317
                  have y355 : M294 598 100 = v319 := e319
                  have y356 : M294 598 101 = v321 := e323
                  have y357 : M294 598 107 = v302 := e304
                  refine jr.pick [0, 1, 2] rfl rfl ?_
                  exact ih (nM - 1) (by omega) M294 (k + 1) w hI_M294 hH_M294 hS_M294  (fun a i f598 f659 f660 f661 f662 f663 f664 f665 f666 f667 f668 f669 => ((wF294 a i f598 f659 f660 f664 f665 f666 f667).trans ((w288_50 a i f598).trans (hF_M a i f598 f659 f660 f661 f662 f663 f664 f665 f666 f667 f668 f669)))) (fun i g73 g74 g75 g76 g77 g78 g79 g80 g81 g89 g90 g96 g100 g102 g107 => ((wG294 i g73 g74 g75 g76 g77 g78 g79 g80 g81 g89 g90 g100 g102).trans ((w288_51 i g73 g74 g75 g76 g77 g78 g79 g80 g81).trans (hG_M i g73 g74 g75 g76 g77 g78 g79 g80 g81 g89 g90 g96 g100 g102 g107)))) (by omega) (by omega) (Or.inl ⟨by omega, by omega⟩) (by rw [e299, e301] <;> omega) (by omega) (by omega) (by rw [e304] <;> omega) (by rw [e307] <;> omega) (by omega) (by rw [e304] <;> omega) hTx294 (fun _ => zr.fe zfz (by omega) (by omega)) (fun q => by exfalso; omega) (fun q => by exfalso; omega) (fun q => by omega) (by omega)
                · obtain ⟨sa294, hX, sc294, sd294, se294, sf294⟩ := ss294
                  have hA := AK.cp hA wc294 (fun i => wF294 663 i (by decide) (by decide) (by decide) (by decide) (by decide) (by decide) (by decide)) (wG294 96 (by decide) (by decide) (by decide) (by decide) (by decide) (by decide) (by decide) (by decide) (by decide) (by decide) (by decide) (by decide) (by decide))
                  have dpx294 := XS.dep hX
                  have sl294 := XS.sgle hX
                  have bM294_107 : (0 : Int) ≤ M294 598 107 ∧ M294 598 107 ≤ 16 := hI_M294 598 107 (by decide)
                  have bM294_73 : (0 : Int) ≤ M294 598 73 ∧ M294 598 73 ≤ 1600 := hI_M294 598 73 (by decide)
                  have bM294_88 : (0 : Int) ≤ M294 598 88 ∧ M294 598 88 ≤ 16 := hI_M294 598 88 (by decide)
                  have bM294_100 : (0 : Int) ≤ M294 598 100 ∧ M294 598 100 ≤ 13 := hI_M294 598 100 (by decide)
                  have x294_72 := wG294 72 (by decide) (by decide) (by decide) (by decide) (by decide) (by decide) (by decide) (by decide) (by decide) (by decide) (by decide) (by decide) (by decide)
                  have x294_101 := wG294 101 (by decide) (by decide) (by decide) (by decide) (by decide) (by decide) (by decide) (by decide) (by decide) (by decide) (by decide) (by decide) (by decide)
                  have x294_107 := wG294 107 (by decide) (by decide) (by decide) (by decide) (by decide) (by decide) (by decide) (by decide) (by decide) (by decide) (by decide) (by decide) (by decide)
                  have x294_96 := wG294 96 (by decide) (by decide) (by decide) (by decide) (by decide) (by decide) (by decide) (by decide) (by decide) (by decide) (by decide) (by decide) (by decide)
                  have x294_88 := wG294 88 (by decide) (by decide) (by decide) (by decide) (by decide) (by decide) (by decide) (by decide) (by decide) (by decide) (by decide) (by decide) (by decide)
                  obtain ⟨tx, cx, hKx, hzx, hrx⟩ := zo294
                  have kkx := hKx.kz
                  have blx : blr M294 = blr M288 := blr_fr (fun i => wF294 668 i (by decide) (by decide) (by decide) (by decide) (by decide) (by decide) (by decide)) (wG294 107 (by decide) (by decide) (by decide) (by decide) (by decide) (by decide) (by decide) (by decide) (by decide) (by decide) (by decide) (by decide) (by decide))
                  refine jr.iinc rfl rfl (by decide) rfl ?_
                  refine jr.goto rfl rfl ?_
                  have e358 : M288 598 72 = v282 := ((w288_51 72 (by decide) (by decide) (by decide) (by decide) (by decide) (by decide) (by decide) (by decide) (by decide)).trans e282)
                  have e359 : M294 598 72 = v282 := ((wG294 72 (by decide) (by decide) (by decide) (by decide) (by decide) (by decide) (by decide) (by decide) (by decide) (by decide) (by decide) (by decide) (by decide)).trans e358)
                  have y360 : M294 598 72 = v282 := e359
                  obtain ⟨v361, e361⟩ : ∃ z, M294 598 73 = z := ⟨_, rfl⟩
                  have b361 : 0 ≤ v361 ∧ v361 ≤ 1600 := by rw [← e361]; exact hI_M294 598 73 (by decide)
                  have y362 : M294 598 73 = v361 := e361
                  obtain ⟨v363, e363⟩ : ∃ z, M294 598 74 = z := ⟨_, rfl⟩
                  have b363 : 0 ≤ v363 ∧ v363 ≤ 4 := by rw [← e363]; exact hI_M294 598 74 (by decide)
                  have y364 : M294 598 74 = v363 := e363
                  obtain ⟨v365, e365⟩ : ∃ z, M294 598 79 = z := ⟨_, rfl⟩
                  have b365 : 0 ≤ v365 ∧ v365 ≤ 255 := by rw [← e365]; exact hI_M294 598 79 (by decide)
                  have y366 : M294 598 79 = v365 := e365
                  obtain ⟨v367, e367⟩ : ∃ z, M294 598 80 = z := ⟨_, rfl⟩
                  have b367 : 0 ≤ v367 ∧ v367 ≤ 7 := by rw [← e367]; exact hI_M294 598 80 (by decide)
                  have y368 : M294 598 80 = v367 := e367
                  obtain ⟨v369, e369⟩ : ∃ z, M294 598 89 = z := ⟨_, rfl⟩
                  have b369 : 0 ≤ v369 ∧ v369 ≤ 301 := by rw [← e369]; exact hI_M294 598 89 (by decide)
                  have y370 : M294 598 89 = v369 := e369
                  obtain ⟨v371, e371⟩ : ∃ z, M294 598 90 = z := ⟨_, rfl⟩
                  have b371 : 0 ≤ v371 ∧ v371 ≤ 2200 := by rw [← e371]; exact hI_M294 598 90 (by decide)
                  have y372 : M294 598 90 = v371 := e371
                  obtain ⟨v373, e373⟩ : ∃ z, M 598 96 = z := ⟨_, rfl⟩
                  have b373 : 0 ≤ v373 ∧ v373 ≤ 300 := by rw [← e373]; exact hI_M 598 96 (by decide)
                  have e374 : M288 598 96 = v373 := ((w288_51 96 (by decide) (by decide) (by decide) (by decide) (by decide) (by decide) (by decide) (by decide) (by decide)).trans e373)
                  have e375 : M294 598 96 = v373 := ((wG294 96 (by decide) (by decide) (by decide) (by decide) (by decide) (by decide) (by decide) (by decide) (by decide) (by decide) (by decide) (by decide) (by decide)).trans e374)
                  have y376 : M294 598 96 = v373 := e375
                  obtain ⟨v377, e377⟩ : ∃ z, M294 598 100 = z := ⟨_, rfl⟩
                  have b377 : 0 ≤ v377 ∧ v377 ≤ 13 := by rw [← e377]; exact hI_M294 598 100 (by decide)
                  have y378 : M294 598 100 = v377 := e377
                  obtain ⟨v379, e379⟩ : ∃ z, M 598 107 = z := ⟨_, rfl⟩
                  have b379 : 0 ≤ v379 ∧ v379 ≤ 16 := by rw [← e379]; exact hI_M 598 107 (by decide)
                  have e380 : M288 598 107 = v379 := ((w288_51 107 (by decide) (by decide) (by decide) (by decide) (by decide) (by decide) (by decide) (by decide) (by decide)).trans e379)
                  have e381 : M294 598 107 = v379 := ((wG294 107 (by decide) (by decide) (by decide) (by decide) (by decide) (by decide) (by decide) (by decide) (by decide) (by decide) (by decide) (by decide) (by decide)).trans e380)
                  have y382 : M294 598 107 = v379 := e381
                  obtain ⟨v383, e383⟩ : ∃ z, M 598 88 = z := ⟨_, rfl⟩
                  have b383 : 0 ≤ v383 ∧ v383 ≤ 16 := by rw [← e383]; exact hI_M 598 88 (by decide)
                  have e384 : M288 598 88 = v383 := ((w288_51 88 (by decide) (by decide) (by decide) (by decide) (by decide) (by decide) (by decide) (by decide) (by decide)).trans e383)
                  have e385 : M294 598 88 = v383 := ((wG294 88 (by decide) (by decide) (by decide) (by decide) (by decide) (by decide) (by decide) (by decide) (by decide) (by decide) (by decide) (by decide) (by decide)).trans e384)
                  obtain ⟨v386, e386⟩ : ∃ z, M294 598 75 = z := ⟨_, rfl⟩
                  have b386 : 0 ≤ v386 ∧ v386 ≤ 1600 := by rw [← e386]; exact hI_M294 598 75 (by decide)
                  have y387 : M294 598 75 = v386 := e386
                  have y388 : M294 598 80 = v367 := e367
                  obtain ⟨v389, e389⟩ : ∃ z, M294 598 81 = z := ⟨_, rfl⟩
                  have b389 : (-1) ≤ v389 ∧ v389 ≤ 1600 := by rw [← e389]; exact hI_M294 598 81 (by decide)
                  have y390 : M294 598 81 = v389 := e389
                  have y391 : M294 598 89 = v369 := e369
                  have y392 : M294 598 96 = v373 := e375
                  have y393 : M294 598 100 = v377 := e377
                  obtain ⟨v394, e394⟩ : ∃ z, M 598 101 = z := ⟨_, rfl⟩
                  have b394 : 0 ≤ v394 ∧ v394 ≤ 1 := by rw [← e394]; exact hI_M 598 101 (by decide)
                  have e395 : M288 598 101 = v394 := ((w288_51 101 (by decide) (by decide) (by decide) (by decide) (by decide) (by decide) (by decide) (by decide) (by decide)).trans e394)
                  have e396 : M294 598 101 = v394 := ((wG294 101 (by decide) (by decide) (by decide) (by decide) (by decide) (by decide) (by decide) (by decide) (by decide) (by decide) (by decide) (by decide) (by decide)).trans e395)
                  have y397 : M294 598 101 = v394 := e396
                  have y398 : M294 598 107 = v379 := e381
                  have y399 : M294 598 75 = v386 := e386
                  have y400 : M294 598 80 = v367 := e367
                  have y401 : M294 598 81 = v389 := e389
                  have y402 : M294 598 89 = v369 := e369
                  have y403 : M294 598 96 = v373 := e375
                  have y404 : M294 598 100 = v377 := e377
                  have y405 : M294 598 101 = v394 := e396
                  have y406 : M294 598 107 = v379 := e381
                  have y407 : M294 598 75 = v386 := e386
                  have y408 : M294 598 80 = v367 := e367
                  have y409 : M294 598 81 = v389 := e389
                  have y410 : M294 598 89 = v369 := e369
                  have y411 : M294 598 96 = v373 := e375
                  have y412 : M294 598 100 = v377 := e377
                  have y413 : M294 598 101 = v394 := e396
                  have y414 : M294 598 107 = v379 := e381
                  have y415 : M294 598 75 = v386 := e386
                  have y416 : M294 598 80 = v367 := e367
                  have y417 : M294 598 81 = v389 := e389
                  have y418 : M294 598 89 = v369 := e369
                  have y419 : M294 598 96 = v373 := e375
                  have y420 : M294 598 100 = v377 := e377
                  have y421 : M294 598 101 = v394 := e396
                  have y422 : M294 598 107 = v379 := e381
                  have y423 : M294 598 75 = v386 := e386
                  have y424 : M294 598 80 = v367 := e367
                  have y425 : M294 598 81 = v389 := e389
                  have y426 : M294 598 89 = v369 := e369
                  have y427 : M294 598 96 = v373 := e375
                  have y428 : M294 598 100 = v377 := e377
                  have y429 : M294 598 101 = v394 := e396
                  have y430 : M294 598 107 = v379 := e381
                  refine jr.pick [0, 1, 2] rfl rfl ?_
                  exact ih (nM - 1) (by omega) M294 (k + 1) w hI_M294 hH_M294 hS_M294  (fun a i f598 f659 f660 f661 f662 f663 f664 f665 f666 f667 f668 f669 => ((wF294 a i f598 f659 f660 f664 f665 f666 f667).trans ((w288_50 a i f598).trans (hF_M a i f598 f659 f660 f661 f662 f663 f664 f665 f666 f667 f668 f669)))) (fun i g73 g74 g75 g76 g77 g78 g79 g80 g81 g89 g90 g96 g100 g102 g107 => ((wG294 i g73 g74 g75 g76 g77 g78 g79 g80 g81 g89 g90 g100 g102).trans ((w288_51 i g73 g74 g75 g76 g77 g78 g79 g80 g81).trans (hG_M i g73 g74 g75 g76 g77 g78 g79 g80 g81 g89 g90 g96 g100 g102 g107)))) (by omega) (by omega) (Or.inr ⟨⟨by omega, hX, by omega, by omega, by omega, by omega⟩, hA, by omega⟩) (by rw [e361, e359] <;> omega) (by omega) (by omega) (by rw [e381] <;> omega) (by rw [e385] <;> omega) (by omega) (by rw [e381] <;> omega) hTx294 (fun q => by exfalso; omega) (fun _ => (AKr.fr (AKr.fr (hy10 (by omega)) (fun i => w288_50 661 i (by decide)) (fun i => w288_50 662 i (by decide)) (w288_51 96 (by decide) (by decide) (by decide) (by decide) (by decide) (by decide) (by decide) (by decide) (by decide))) (fun i => wF294 661 i (by decide) (by decide) (by decide) (by decide) (by decide) (by decide) (by decide)) (fun i => wF294 662 i (by decide) (by decide) (by decide) (by decide) (by decide) (by decide) (by decide)) (wG294 96 (by decide) (by decide) (by decide) (by decide) (by decide) (by decide) (by decide) (by decide) (by decide) (by decide) (by decide) (by decide) (by decide)))) (fun _ => ⟨tx, hKx, Or.inr ⟨by omega, cx, zr.eqx hzx rfl rfl rfl rfl (by omega) (by rw [blx.trans ((blr_fr (fun i => w288_50 668 i (by decide)) (w288_51 107 (by decide) (by decide) (by decide) (by decide) (by decide) (by decide) (by decide) (by decide) (by decide))).trans rfl)]; try rw [show k + 1 = 1 by omega]), hrx⟩⟩) (fun q => by omega) (by omega)
              · exfalso
                omega
            · have x288_72 := w288_51 72 (by decide) (by decide) (by decide) (by decide) (by decide) (by decide) (by decide) (by decide) (by decide)
              have x288_89 := w288_51 89 (by decide) (by decide) (by decide) (by decide) (by decide) (by decide) (by decide) (by decide) (by decide)
              have x288_100 := w288_51 100 (by decide) (by decide) (by decide) (by decide) (by decide) (by decide) (by decide) (by decide) (by decide)
              obtain ⟨cb, hzb, hrb⟩ := hzl.z1 (by omega)
              have zfz := zr.rfz (zr.exaf hzb hrb (by omega) qs288) q0288 q1288
              refine jr.aload_n rfl rfl ?_
              obtain ⟨v431, e431⟩ : ∃ z, M288 598 80 = z := ⟨_, rfl⟩
              have b431 : 0 ≤ v431 ∧ v431 ≤ 7 := by rw [← e431]; exact hI_M288 598 80 (by decide)
              refine jr_v rfl rfl (Or.inl rfl) rfl rfl (by decide) rfl ⟨rfl, Nat.le_of_ble_eq_true rfl, Nat.le_of_ble_eq_true rfl⟩ rfl (jc.deep (c_good hI_M288  (fun t214_0 => ?_) (fun f214_0 => ?_)) (by decide))
              · exfalso
                omega
              · refine jr.if_eq rfl rfl (by omega) (fun _ => ?_) (fun h => absurd (by decide) h)
                refine jr.iinc rfl rfl (by decide) rfl ?_
                refine jr.goto rfl rfl ?_
                have y432 : M288 598 80 = v431 := e431
                obtain ⟨v433, e433⟩ : ∃ z, M 598 90 = z := ⟨_, rfl⟩
                have b433 : 0 ≤ v433 ∧ v433 ≤ 2200 := by rw [← e433]; exact hI_M 598 90 (by decide)
                have e434 : M288 598 90 = v433 := ((w288_51 90 (by decide) (by decide) (by decide) (by decide) (by decide) (by decide) (by decide) (by decide) (by decide)).trans e433)
                have y435 : M288 598 90 = v433 := e434
                obtain ⟨v436, e436⟩ : ∃ z, M288 598 73 = z := ⟨_, rfl⟩
                have b436 : 0 ≤ v436 ∧ v436 ≤ 1600 := by rw [← e436]; exact hI_M288 598 73 (by decide)
                have e437 : M288 598 72 = v282 := ((w288_51 72 (by decide) (by decide) (by decide) (by decide) (by decide) (by decide) (by decide) (by decide) (by decide)).trans e282)
                obtain ⟨v438, e438⟩ : ∃ z, M 598 107 = z := ⟨_, rfl⟩
                have b438 : 0 ≤ v438 ∧ v438 ≤ 16 := by rw [← e438]; exact hI_M 598 107 (by decide)
                have e439 : M288 598 107 = v438 := ((w288_51 107 (by decide) (by decide) (by decide) (by decide) (by decide) (by decide) (by decide) (by decide) (by decide)).trans e438)
                obtain ⟨v440, e440⟩ : ∃ z, M 598 88 = z := ⟨_, rfl⟩
                have b440 : 0 ≤ v440 ∧ v440 ≤ 16 := by rw [← e440]; exact hI_M 598 88 (by decide)
                have e441 : M288 598 88 = v440 := ((w288_51 88 (by decide) (by decide) (by decide) (by decide) (by decide) (by decide) (by decide) (by decide) (by decide)).trans e440)
                obtain ⟨v442, e442⟩ : ∃ z, M288 598 75 = z := ⟨_, rfl⟩
                have b442 : 0 ≤ v442 ∧ v442 ≤ 1600 := by rw [← e442]; exact hI_M288 598 75 (by decide)
                have y443 : M288 598 75 = v442 := e442
                have y444 : M288 598 80 = v431 := e431
                obtain ⟨v445, e445⟩ : ∃ z, M288 598 81 = z := ⟨_, rfl⟩
                have b445 : (-1) ≤ v445 ∧ v445 ≤ 1600 := by rw [← e445]; exact hI_M288 598 81 (by decide)
                have y446 : M288 598 81 = v445 := e445
                have e447 : M288 598 89 = v285 := ((w288_51 89 (by decide) (by decide) (by decide) (by decide) (by decide) (by decide) (by decide) (by decide) (by decide)).trans e285)
                have y448 : M288 598 89 = v285 := e447
                obtain ⟨v449, e449⟩ : ∃ z, M 598 96 = z := ⟨_, rfl⟩
                have b449 : 0 ≤ v449 ∧ v449 ≤ 300 := by rw [← e449]; exact hI_M 598 96 (by decide)
                have e450 : M288 598 96 = v449 := ((w288_51 96 (by decide) (by decide) (by decide) (by decide) (by decide) (by decide) (by decide) (by decide) (by decide)).trans e449)
                have y451 : M288 598 96 = v449 := e450
                have e452 : M288 598 100 = v286 := ((w288_51 100 (by decide) (by decide) (by decide) (by decide) (by decide) (by decide) (by decide) (by decide) (by decide)).trans e286)
                have y453 : M288 598 100 = v286 := e452
                obtain ⟨v454, e454⟩ : ∃ z, M 598 101 = z := ⟨_, rfl⟩
                have b454 : 0 ≤ v454 ∧ v454 ≤ 1 := by rw [← e454]; exact hI_M 598 101 (by decide)
                have e455 : M288 598 101 = v454 := ((w288_51 101 (by decide) (by decide) (by decide) (by decide) (by decide) (by decide) (by decide) (by decide) (by decide)).trans e454)
                have y456 : M288 598 101 = v454 := e455
                have y457 : M288 598 107 = v438 := e439
                have y458 : M288 598 75 = v442 := e442
                have y459 : M288 598 80 = v431 := e431
                have y460 : M288 598 81 = v445 := e445
                have y461 : M288 598 89 = v285 := e447
                have y462 : M288 598 96 = v449 := e450
                have y463 : M288 598 100 = v286 := e452
                have y464 : M288 598 101 = v454 := e455
                have y465 : M288 598 107 = v438 := e439
                have y466 : M288 598 75 = v442 := e442
                have y467 : M288 598 80 = v431 := e431
                have y468 : M288 598 81 = v445 := e445
                have y469 : M288 598 89 = v285 := e447
                have y470 : M288 598 96 = v449 := e450
                have y471 : M288 598 100 = v286 := e452
                have y472 : M288 598 101 = v454 := e455
                have y473 : M288 598 107 = v438 := e439
                have y474 : M288 598 75 = v442 := e442
                have y475 : M288 598 80 = v431 := e431
                have y476 : M288 598 81 = v445 := e445
                have y477 : M288 598 89 = v285 := e447
                have y478 : M288 598 96 = v449 := e450
                have y479 : M288 598 100 = v286 := e452
                have y480 : M288 598 101 = v454 := e455
                have y481 : M288 598 107 = v438 := e439
                have y482 : M288 598 75 = v442 := e442
                have y483 : M288 598 80 = v431 := e431
                have y484 : M288 598 81 = v445 := e445
                have y485 : M288 598 89 = v285 := e447
                have y486 : M288 598 96 = v449 := e450
                have y487 : M288 598 100 = v286 := e452
                have y488 : M288 598 101 = v454 := e455
                have y489 : M288 598 107 = v438 := e439
                refine jr.pick [0, 1, 2] rfl rfl ?_
                exact ih (nM - 1) (by omega) M288 (k + 1) w hI_M288 hH_M288 hS_M288  (fun a i f598 f659 f660 f661 f662 f663 f664 f665 f666 f667 f668 f669 => ((w288_50 a i f598).trans (hF_M a i f598 f659 f660 f661 f662 f663 f664 f665 f666 f667 f668 f669))) (fun i g73 g74 g75 g76 g77 g78 g79 g80 g81 g89 g90 g96 g100 g102 g107 => ((w288_51 i g73 g74 g75 g76 g77 g78 g79 g80 g81).trans (hG_M i g73 g74 g75 g76 g77 g78 g79 g80 g81 g89 g90 g96 g100 g102 g107))) (by omega) (by omega) (Or.inl ⟨by omega, by omega⟩) (by rw [e436, e437] <;> omega) (by omega) (by omega) (by rw [e439] <;> omega) (by rw [e441] <;> omega) (by omega) (by rw [e439] <;> omega) hT288 (fun _ => zr.fe zfz (by omega) (by omega)) (fun q => by exfalso; omega) (fun q => by exfalso; omega) (fun q => by omega) (by omega)
        · exfalso
          omega
set_option maxHeartbeats 8000000 in
theorem r_deed_L112_z {A : Nat → Option (Nat × (Nat → Int32))} {Q : Option Value → jm → Prop} {f : Int → Int} {N : Int} {xs : ZS} {t : Int} {nm ak : List Int} {M0 : jm} (q : ∀ (M' : jm), RI M' → RH M' → RF M' → (BT M' ∨ (DS M' 0 ∧ TK M' < TK M0)) → TK M' ≤ TK M0 → M' 598 73 ≤ M' 598 72 → (M' 598 80 ≠ 0 ∨ TK M' < TK M0) → M0 598 107 ≤ M' 598 107 → TXr f N M' → ZFQ f N xs M' → ZDPQ f N xs M' nm → K8Q M0 M' → (∀ (a : Nat) (i : Int), a ≠ 598 → a ≠ 659 → a ≠ 660 → a ≠ 661 → a ≠ 662 → a ≠ 663 → a ≠ 664 → a ≠ 665 → a ≠ 666 → a ≠ 667 → a ≠ 668 → a ≠ 669 → M' a i = M0 a i) → (∀ (i : Int), i ≠ 73 → i ≠ 74 → i ≠ 75 → i ≠ 76 → i ≠ 77 → i ≠ 78 → i ≠ 79 → i ≠ 80 → i ≠ 81 → i ≠ 89 → i ≠ 90 → i ≠ 96 → i ≠ 100 → i ≠ 102 → i ≠ 107 → M' 598 i = M0 598 i) → Q none M') : ∀ (M : jm) (w : Int), RI M → RH M → RF M → (∀ (a : Nat) (i : Int), a ≠ 598 → a ≠ 659 → a ≠ 660 → a ≠ 661 → a ≠ 662 → a ≠ 663 → a ≠ 664 → a ≠ 665 → a ≠ 666 → a ≠ 667 → a ≠ 668 → a ≠ 669 → M a i = M0 a i) → (∀ (i : Int), i ≠ 73 → i ≠ 74 → i ≠ 75 → i ≠ 76 → i ≠ 77 → i ≠ 78 → i ≠ 79 → i ≠ 80 → i ≠ 81 → i ≠ 89 → i ≠ 90 → i ≠ 96 → i ≠ 100 → i ≠ 102 → i ≠ 107 → M 598 i = M0 598 i) → 8 ≤ w ∧ w ≤ 9 → XS M 0 (0 + 2 + 2) 0 0 (-1) → AK M → M 598 80 = 0 → M 598 96 < M 598 89 ∧ M 598 89 ≤ 300 → M 598 100 ≤ 12 → M 598 73 ≤ M 598 72 → 1 ≤ M 598 107 ∧ M 598 107 = M0 598 107 → 1 ≤ M 598 88 → (M 598 74 = 3 → M 598 79 ≠ 10 ∧ M 598 79 ≠ 11) → TK M < TK M0 → 0 ≤ M 598 96 → 1 ≤ M 598 90 ∧ M 659 (M 598 90 - 1) = 0 → TKr f N (znx f N t) M → zr f N xs (1, t, M 598 89 - 1, M 598 100, 0, M 598 101, blr M, nm, ak) → AKr f N M ak → w = zwd f N t → zso f N t = 1 → ¬ (M 598 101 = 1 ∧ w ≤ 9) → M 598 81 = M0 598 81 → jr A 7 xm_367 112 [(1, .int (Int32.ofInt (w))), (0, .ref (598))] [] M Q := by
    intro M w hI_M hH_M hS_M hF_M hG_M h_w hy0 hy1 hy2 hy3 hy4 hy5 hy6 hy7 hy8 hy9 hy10 hy11 hy12 hy13 hy14 hy15 hy16 hy17 hy18
    have hX := hy0
    have hA := hy1
    have dpx := XS.dep hy0
    have sl := XS.sgle hy0
    have bM_107 : (0 : Int) ≤ M 598 107 ∧ M 598 107 ≤ 16 := hI_M 598 107 (by decide)
    have bM_73 : (0 : Int) ≤ M 598 73 ∧ M 598 73 ≤ 1600 := hI_M 598 73 (by decide)
    have bM_88 : (0 : Int) ≤ M 598 88 ∧ M 598 88 ≤ 16 := hI_M 598 88 (by decide)
    have bM_100 : (0 : Int) ≤ M 598 100 ∧ M 598 100 ≤ 13 := hI_M 598 100 (by decide)
    obtain ⟨hs1, hs2⟩ := hy11
    obtain ⟨c0, hc0⟩ : ∃ z, M 598 90 = z := ⟨_, rfl⟩
    rw [hc0] at hs1 hs2
    have bc0 : (0 : Int) ≤ c0 ∧ c0 ≤ 2200 := by rw [← hc0]; exact hI_M 598 90 (by decide)
    have hK := hy12
    have kk0 := hK.kz
    have hT := hK.1
    have hz := hy13
    have hAK := hy14
    have hne := blr_ne (M := M) (by omega)
    refine jr.aload_n rfl rfl ?_
    refine jr_v rfl rfl (Or.inl rfl) rfl rfl (by decide) rfl ⟨rfl, Nat.le_of_ble_eq_true rfl, Nat.le_of_ble_eq_true rfl⟩ rfl (jc.deep (c_isName_z hI_M  (fun t113_0 t113_1 => ?_) (fun f113_0 => ?_)) (by decide))
    · refine jr.if_ne rfl rfl (by omega) (fun _ => ?_) (fun h => absurd (by decide) h)
      refine jr.aload_n rfl rfl ?_
      refine jr.getf (i := 97) (v := .ref 661) rfl rfl (by decide) rfl (by decide) rfl rfl rfl rfl ?_
      refine jr.aload_n rfl rfl ?_
      obtain ⟨v1, e1⟩ : ∃ z, M 598 96 = z := ⟨_, rfl⟩
      have b1 : 0 ≤ v1 ∧ v1 ≤ 300 := by rw [← e1]; exact hI_M 598 96 (by decide)
      refine jr.getf (i := 96) (x := v1) (v := .int (Int32.ofInt (v1))) rfl rfl (by decide) rfl (by decide) rfl rfl e1 rfl ?_
      refine jr.aload_n rfl rfl ?_
      obtain ⟨v2, e2⟩ : ∃ z, M 598 77 = z := ⟨_, rfl⟩
      have b2 : (-9223372036854775808) ≤ v2 ∧ v2 ≤ 9223372036854775807 := by rw [← e2]; exact hI_M 598 77 (by decide)
      refine jr.getf (i := 77) (x := v2) (v := .long (Int64.ofInt (v2))) rfl rfl (by decide) rfl (by decide) rfl rfl e2 rfl ?_
      refine jr.last (i := v1) (x := v2) rfl (by decide) rfl (by decide) (by omega) (by omega) ?_
      refine jr.aload_n rfl rfl ?_
      refine jr.getf (i := 98) (v := .ref 662) rfl rfl (by decide) rfl (by decide) rfl rfl rfl rfl ?_
      refine jr.aload_n rfl rfl ?_
      refine jr.getf (i := 96) (x := v1) (v := .int (Int32.ofInt (v1))) rfl rfl (by decide) rfl (by decide) rfl rfl ((ju_c _ _ (by decide)).trans e1) rfl ?_
      refine jr.aload_n rfl rfl ?_
      obtain ⟨v3, e3⟩ : ∃ z, M 598 75 = z := ⟨_, rfl⟩
      have b3 : 0 ≤ v3 ∧ v3 ≤ 1600 := by rw [← e3]; exact hI_M 598 75 (by decide)
      refine jr.getf (i := 75) (x := v3) (v := .int (Int32.ofInt (v3))) rfl rfl (by decide) rfl (by decide) rfl rfl ((ju_c _ _ (by decide)).trans e3) rfl ?_
      refine jr.iast (i := v1) (x := v3) rfl (by decide) rfl (by decide) (by omega) (by omega) ?_
      refine jr.aload_n rfl rfl ?_
      refine jr.getf (i := 99) (v := .ref 663) rfl rfl (by decide) rfl (by decide) rfl rfl rfl rfl ?_
      refine jr.aload_n rfl rfl ?_
      refine jr.getf (i := 96) (x := v1) (v := .int (Int32.ofInt (v1))) rfl rfl (by decide) rfl (by decide) rfl rfl ((ju_c _ _ (by decide)).trans ((ju_c _ _ (by decide)).trans e1)) rfl ?_
      refine jr.aload_n rfl rfl ?_
      refine jr.getf (i := 90) (x := c0) (v := .int (Int32.ofInt (c0))) rfl rfl (by decide) rfl (by decide) rfl rfl ((ju_c _ _ (by decide)).trans ((ju_c _ _ (by decide)).trans hc0)) rfl ?_
      refine jr.iast (i := v1) (x := c0) rfl (by decide) rfl (by decide) (by omega) (by omega) ?_
      refine jr.aload_n rfl rfl ?_
      refine jr.dup rfl rfl ?_
      refine jr.getf (i := 96) (x := v1) (v := .int (Int32.ofInt (v1))) rfl rfl (by decide) rfl (by decide) rfl rfl ((ju_c _ _ (by decide)).trans ((ju_c _ _ (by decide)).trans ((ju_c _ _ (by decide)).trans e1))) rfl ?_
      refine jr.iconst rfl ?_
      refine jr.iadd rfl ?_
      refine jr.putf (i := 96) (x := (v1 + 1)) rfl rfl (by decide) rfl (by decide) rfl rfl rfl rfl rfl ?_
      refine jr.aload_n rfl rfl ?_
      obtain ⟨v4, e4⟩ : ∃ z, M 598 73 = z := ⟨_, rfl⟩
      have b4 : 0 ≤ v4 ∧ v4 ≤ 1600 := by rw [← e4]; exact hI_M 598 73 (by decide)
      obtain ⟨v5, e5⟩ : ∃ z, M 598 72 = z := ⟨_, rfl⟩
      have b5 : 0 ≤ v5 ∧ v5 ≤ 1600 := by rw [← e5]; exact hI_M 598 72 (by decide)
      obtain ⟨v6, e6⟩ : ∃ z, M 598 80 = z := ⟨_, rfl⟩
      have b6 : 0 ≤ v6 ∧ v6 ≤ 7 := by rw [← e6]; exact hI_M 598 80 (by decide)
      obtain ⟨v7, e7⟩ : ∃ z, M 598 74 = z := ⟨_, rfl⟩
      have b7 : 0 ≤ v7 ∧ v7 ≤ 4 := by rw [← e7]; exact hI_M 598 74 (by decide)
      obtain ⟨v11, e11⟩ : ∃ z, M 598 79 = z := ⟨_, rfl⟩
      have b11 : 0 ≤ v11 ∧ v11 ≤ 255 := by rw [← e11]; exact hI_M 598 79 (by decide)
      obtain ⟨v14, e14⟩ : ∃ z, M 598 81 = z := ⟨_, rfl⟩
      have b14 : (-1) ≤ v14 ∧ v14 ≤ 1600 := by rw [← e14]; exact hI_M 598 81 (by decide)
      obtain ⟨v16, e16⟩ : ∃ z, M 598 89 = z := ⟨_, rfl⟩
      have b16 : 0 ≤ v16 ∧ v16 ≤ 301 := by rw [← e16]; exact hI_M 598 89 (by decide)
      obtain ⟨v18, e18⟩ : ∃ z, M 598 100 = z := ⟨_, rfl⟩
      have b18 : 0 ≤ v18 ∧ v18 ≤ 13 := by rw [← e18]; exact hI_M 598 100 (by decide)
      refine jr_v rfl rfl (Or.inl rfl) rfl rfl (by decide) rfl ⟨rfl, Nat.le_of_ble_eq_true rfl, Nat.le_of_ble_eq_true rfl⟩ rfl (jc.deep (c_next_z (f := f) (N := N) (RI.u (RI.u (RI.u (RI.u hI_M (a := 661) (i := v1) (by rw [xri_row rfl rfl]; show (-9223372036854775808 : Int) ≤ _ ∧ _ ≤ (9223372036854775807 : Int); omega)) (a := 662) (i := v1) (by rw [xri_row rfl rfl]; show (0 : Int) ≤ _ ∧ _ ≤ (1600 : Int); omega)) (a := 663) (i := v1) (by rw [xri_row rfl rfl]; show (0 : Int) ≤ _ ∧ _ ≤ (2200 : Int); omega)) (a := 598) (i := 96) (show (0 : Int) ≤ _ ∧ _ ≤ (300 : Int) from by omega)) (RH.o (RH.o (RH.o (RH.o hH_M (by decide) (by decide) (by decide)) (by decide) (by decide) (by decide)) (by decide) (by decide) (by decide)) (by decide) (by decide) (by decide)) (RF.o (RF.o (RF.o (RF.o hS_M (by decide) (by decide)) (by decide) (by decide)) (by decide) (by decide)) (by decide) (by decide)) (by rw [((ju_i _ _ (by decide)).trans ((ju_c _ _ (by decide)).trans ((ju_c _ _ (by decide)).trans ((ju_c _ _ (by decide)).trans e4)))), ((ju_i _ _ (by decide)).trans ((ju_c _ _ (by decide)).trans ((ju_c _ _ (by decide)).trans ((ju_c _ _ (by decide)).trans e5))))]; omega) (TKr.oo (TKr.cc (TKr.cc (TKr.cc hK (by decide) (by decide) (by decide) (by decide)) (by decide) (by decide) (by decide) (by decide)) (by decide) (by decide) (by decide) (by decide)) (by decide)) (by rw [((ju_i _ _ (by decide)).trans ((ju_c _ _ (by decide)).trans ((ju_c _ _ (by decide)).trans ((ju_c _ _ (by decide)).trans e6))))]; omega) (by rw [((ju_i _ _ (by decide)).trans ((ju_c _ _ (by decide)).trans ((ju_c _ _ (by decide)).trans ((ju_c _ _ (by decide)).trans e7))))]; omega) (fun M20 hI_M20 hH_M20 hS_M20 qa20 qb20 qt20 sn20 hK20 w20_50 w20_51 => ?_)) (by decide))
      have y8 : (ju (ju (ju (ju M 661 v1 v2) 662 v1 v3) 663 v1 c0) 598 96 (v1 + 1)) 598 73 = v4 := ((ju_i _ _ (by decide)).trans ((ju_c _ _ (by decide)).trans ((ju_c _ _ (by decide)).trans ((ju_c _ _ (by decide)).trans e4))))
      have y9 : (ju (ju (ju (ju M 661 v1 v2) 662 v1 v3) 663 v1 c0) 598 96 (v1 + 1)) 598 74 = v7 := ((ju_i _ _ (by decide)).trans ((ju_c _ _ (by decide)).trans ((ju_c _ _ (by decide)).trans ((ju_c _ _ (by decide)).trans e7))))
      have y10 : (ju (ju (ju (ju M 661 v1 v2) 662 v1 v3) 663 v1 c0) 598 96 (v1 + 1)) 598 75 = v3 := ((ju_i _ _ (by decide)).trans ((ju_c _ _ (by decide)).trans ((ju_c _ _ (by decide)).trans ((ju_c _ _ (by decide)).trans e3))))
      have y12 : (ju (ju (ju (ju M 661 v1 v2) 662 v1 v3) 663 v1 c0) 598 96 (v1 + 1)) 598 79 = v11 := ((ju_i _ _ (by decide)).trans ((ju_c _ _ (by decide)).trans ((ju_c _ _ (by decide)).trans ((ju_c _ _ (by decide)).trans e11))))
      have y13 : (ju (ju (ju (ju M 661 v1 v2) 662 v1 v3) 663 v1 c0) 598 96 (v1 + 1)) 598 80 = v6 := ((ju_i _ _ (by decide)).trans ((ju_c _ _ (by decide)).trans ((ju_c _ _ (by decide)).trans ((ju_c _ _ (by decide)).trans e6))))
      have y15 : (ju (ju (ju (ju M 661 v1 v2) 662 v1 v3) 663 v1 c0) 598 96 (v1 + 1)) 598 81 = v14 := ((ju_i _ _ (by decide)).trans ((ju_c _ _ (by decide)).trans ((ju_c _ _ (by decide)).trans ((ju_c _ _ (by decide)).trans e14))))
      have y17 : (ju (ju (ju (ju M 661 v1 v2) 662 v1 v3) 663 v1 c0) 598 96 (v1 + 1)) 598 89 = v16 := ((ju_i _ _ (by decide)).trans ((ju_c _ _ (by decide)).trans ((ju_c _ _ (by decide)).trans ((ju_c _ _ (by decide)).trans e16))))
      have y19 : (ju (ju (ju (ju M 661 v1 v2) 662 v1 v3) 663 v1 c0) 598 96 (v1 + 1)) 598 100 = v18 := ((ju_i _ _ (by decide)).trans ((ju_c _ _ (by decide)).trans ((ju_c _ _ (by decide)).trans ((ju_c _ _ (by decide)).trans e18))))
      have tb20 : TK (ju (ju (ju (ju M 661 v1 v2) 662 v1 v3) 663 v1 c0) 598 96 (v1 + 1)) = TK M := ((TK.o (Or.inr ⟨by decide, by decide⟩)).trans ((TK.o (Or.inl (by decide))).trans ((TK.o (Or.inl (by decide))).trans ((TK.o (Or.inl (by decide))).trans rfl))))
      have x20_72 := w20_51 72 (by decide) (by decide) (by decide) (by decide) (by decide) (by decide) (by decide)
      have x20_80 := w20_51 80 (by decide) (by decide) (by decide) (by decide) (by decide) (by decide) (by decide)
      have x20_81 := w20_51 81 (by decide) (by decide) (by decide) (by decide) (by decide) (by decide) (by decide)
      have x20_89 := w20_51 89 (by decide) (by decide) (by decide) (by decide) (by decide) (by decide) (by decide)
      have x20_100 := w20_51 100 (by decide) (by decide) (by decide) (by decide) (by decide) (by decide) (by decide)
      have hT20 := hK20.1
      have kk20 := hK20.kz
      have hA2 := AK.ask (p := v2) (q := v3) hA e1 hc0
      have hX := XS.f96 (v := (v1 + 1)) (XS.irr (a := 663) (i := v1) (v := c0) (XS.irr (a := 662) (i := v1) (v := v3) (XS.irr (a := 661) (i := v1) (v := v2) hX (by decide)) (by decide)) (by decide))
      have y25 : (ju (ju (ju (ju M 661 v1 v2) 662 v1 v3) 663 v1 c0) 598 96 (v1 + 1)) 598 73 = v4 := ((ju_i _ _ (by decide)).trans ((ju_c _ _ (by decide)).trans ((ju_c _ _ (by decide)).trans ((ju_c _ _ (by decide)).trans e4))))
      have y26 : (ju (ju (ju (ju M 661 v1 v2) 662 v1 v3) 663 v1 c0) 598 96 (v1 + 1)) 598 74 = v7 := ((ju_i _ _ (by decide)).trans ((ju_c _ _ (by decide)).trans ((ju_c _ _ (by decide)).trans ((ju_c _ _ (by decide)).trans e7))))
      have y27 : (ju (ju (ju (ju M 661 v1 v2) 662 v1 v3) 663 v1 c0) 598 96 (v1 + 1)) 598 89 = v16 := ((ju_i _ _ (by decide)).trans ((ju_c _ _ (by decide)).trans ((ju_c _ _ (by decide)).trans ((ju_c _ _ (by decide)).trans e16))))
      have y28 : (ju (ju (ju (ju M 661 v1 v2) 662 v1 v3) 663 v1 c0) 598 96 (v1 + 1)) 598 100 = v18 := ((ju_i _ _ (by decide)).trans ((ju_c _ _ (by decide)).trans ((ju_c _ _ (by decide)).trans ((ju_c _ _ (by decide)).trans e18))))
      have x20_89 := w20_51 89 (by decide) (by decide) (by decide) (by decide) (by decide) (by decide) (by decide)
      have x20_100 := w20_51 100 (by decide) (by decide) (by decide) (by decide) (by decide) (by decide) (by decide)
      have hX := XS.fr2 hX w20_50 (w20_51 88 (by decide) (by decide) (by decide) (by decide) (by decide) (by decide) (by decide)) (w20_51 90 (by decide) (by decide) (by decide) (by decide) (by decide) (by decide) (by decide)) (w20_51 101 (by decide) (by decide) (by decide) (by decide) (by decide) (by decide) (by decide)) (w20_51 107 (by decide) (by decide) (by decide) (by decide) (by decide) (by decide) (by decide)) (k' := 0 + 2 + 2) (d' := 0) (z' := 0) (by omega) (by omega) (by omega) (by omega)
      have hA2 := AK2.fr hA2 w20_50 (w20_51 96 (by decide) (by decide) (by decide) (by decide) (by decide) (by decide) (by decide)) (w20_51 90 (by decide) (by decide) (by decide) (by decide) (by decide) (by decide) (by decide))
      have x20_101 := w20_51 101 (by decide) (by decide) (by decide) (by decide) (by decide) (by decide) (by decide)
      have x20_107 := w20_51 107 (by decide) (by decide) (by decide) (by decide) (by decide) (by decide) (by decide)
      have x20_88 := w20_51 88 (by decide) (by decide) (by decide) (by decide) (by decide) (by decide) (by decide)
      have x20_96 := w20_51 96 (by decide) (by decide) (by decide) (by decide) (by decide) (by decide) (by decide)
      have hgn := hK.wz (by omega)
      have hNz := hgn.2.2
      have hNm : v2 = M 598 77 := (e2).symm
      have hgn : zso f N (znx f N t) = 1 ∧ (zwd f N (znx f N t) = -1 ∨ 45 ≤ zwd f N (znx f N t)) := by omega
      refine jr.goto rfl rfl ?_
      have e29 : M20 598 72 = v5 := ((w20_51 72 (by decide) (by decide) (by decide) (by decide) (by decide) (by decide) (by decide)).trans ((ju_i _ _ (by decide)).trans ((ju_c _ _ (by decide)).trans ((ju_c _ _ (by decide)).trans ((ju_c _ _ (by decide)).trans e5)))))
      have y30 : M20 598 72 = v5 := e29
      obtain ⟨v31, e31⟩ : ∃ z, M20 598 73 = z := ⟨_, rfl⟩
      have b31 : 0 ≤ v31 ∧ v31 ≤ 1600 := by rw [← e31]; exact hI_M20 598 73 (by decide)
      have y32 : M20 598 73 = v31 := e31
      obtain ⟨v33, e33⟩ : ∃ z, M20 598 74 = z := ⟨_, rfl⟩
      have b33 : 0 ≤ v33 ∧ v33 ≤ 4 := by rw [← e33]; exact hI_M20 598 74 (by decide)
      have y34 : M20 598 74 = v33 := e33
      obtain ⟨v35, e35⟩ : ∃ z, M20 598 79 = z := ⟨_, rfl⟩
      have b35 : 0 ≤ v35 ∧ v35 ≤ 255 := by rw [← e35]; exact hI_M20 598 79 (by decide)
      have y36 : M20 598 79 = v35 := e35
      have e37 : M20 598 80 = v6 := ((w20_51 80 (by decide) (by decide) (by decide) (by decide) (by decide) (by decide) (by decide)).trans ((ju_i _ _ (by decide)).trans ((ju_c _ _ (by decide)).trans ((ju_c _ _ (by decide)).trans ((ju_c _ _ (by decide)).trans e6)))))
      have y38 : M20 598 80 = v6 := e37
      have e39 : M20 598 89 = v16 := ((w20_51 89 (by decide) (by decide) (by decide) (by decide) (by decide) (by decide) (by decide)).trans ((ju_i _ _ (by decide)).trans ((ju_c _ _ (by decide)).trans ((ju_c _ _ (by decide)).trans ((ju_c _ _ (by decide)).trans e16)))))
      have y40 : M20 598 89 = v16 := e39
      have e41 : M20 598 90 = c0 := ((w20_51 90 (by decide) (by decide) (by decide) (by decide) (by decide) (by decide) (by decide)).trans ((ju_i _ _ (by decide)).trans ((ju_c _ _ (by decide)).trans ((ju_c _ _ (by decide)).trans ((ju_c _ _ (by decide)).trans hc0)))))
      have y42 : M20 598 90 = c0 := e41
      have e43 : M20 598 96 = v1 + 1 := ((w20_51 96 (by decide) (by decide) (by decide) (by decide) (by decide) (by decide) (by decide)).trans (ju_same _ _ _ _))
      have y44 : M20 598 96 = v1 + 1 := e43
      have e45 : M20 598 100 = v18 := ((w20_51 100 (by decide) (by decide) (by decide) (by decide) (by decide) (by decide) (by decide)).trans ((ju_i _ _ (by decide)).trans ((ju_c _ _ (by decide)).trans ((ju_c _ _ (by decide)).trans ((ju_c _ _ (by decide)).trans e18)))))
      have y46 : M20 598 100 = v18 := e45
      obtain ⟨v47, e47⟩ : ∃ z, M 598 107 = z := ⟨_, rfl⟩
      have b47 : 0 ≤ v47 ∧ v47 ≤ 16 := by rw [← e47]; exact hI_M 598 107 (by decide)
      have e48 : M20 598 107 = v47 := ((w20_51 107 (by decide) (by decide) (by decide) (by decide) (by decide) (by decide) (by decide)).trans ((ju_i _ _ (by decide)).trans ((ju_c _ _ (by decide)).trans ((ju_c _ _ (by decide)).trans ((ju_c _ _ (by decide)).trans e47)))))
      have y49 : M20 598 107 = v47 := e48
      have e50 : M20 659 (c0 - 1) = 0 := ((w20_50 659 (c0 - 1) (by decide)).trans ((ju_c _ _ (by decide)).trans ((ju_c _ _ (by decide)).trans ((ju_c _ _ (by decide)).trans ((ju_c _ _ (by decide)).trans hs2)))))
      obtain ⟨v51, e51⟩ : ∃ z, M 598 88 = z := ⟨_, rfl⟩
      have b51 : 0 ≤ v51 ∧ v51 ≤ 16 := by rw [← e51]; exact hI_M 598 88 (by decide)
      have e52 : M20 598 88 = v51 := ((w20_51 88 (by decide) (by decide) (by decide) (by decide) (by decide) (by decide) (by decide)).trans ((ju_i _ _ (by decide)).trans ((ju_c _ _ (by decide)).trans ((ju_c _ _ (by decide)).trans ((ju_c _ _ (by decide)).trans e51)))))
      obtain ⟨v53, e53⟩ : ∃ z, M20 598 75 = z := ⟨_, rfl⟩
      have b53 : 0 ≤ v53 ∧ v53 ≤ 1600 := by rw [← e53]; exact hI_M20 598 75 (by decide)
      have y54 : M20 598 75 = v53 := e53
      have y55 : M20 598 80 = v6 := e37
      have e56 : M20 598 81 = v14 := ((w20_51 81 (by decide) (by decide) (by decide) (by decide) (by decide) (by decide) (by decide)).trans ((ju_i _ _ (by decide)).trans ((ju_c _ _ (by decide)).trans ((ju_c _ _ (by decide)).trans ((ju_c _ _ (by decide)).trans e14)))))
      have y57 : M20 598 81 = v14 := e56
      have y58 : M20 598 89 = v16 := e39
      have y59 : M20 598 96 = v1 + 1 := e43
      have y60 : M20 598 100 = v18 := e45
      obtain ⟨v61, e61⟩ : ∃ z, M 598 101 = z := ⟨_, rfl⟩
      have b61 : 0 ≤ v61 ∧ v61 ≤ 1 := by rw [← e61]; exact hI_M 598 101 (by decide)
      have e62 : M20 598 101 = v61 := ((w20_51 101 (by decide) (by decide) (by decide) (by decide) (by decide) (by decide) (by decide)).trans ((ju_i _ _ (by decide)).trans ((ju_c _ _ (by decide)).trans ((ju_c _ _ (by decide)).trans ((ju_c _ _ (by decide)).trans e61)))))
      have y63 : M20 598 101 = v61 := e62
      have y64 : M20 598 107 = v47 := e48
      have y65 : M20 598 75 = v53 := e53
      have y66 : M20 598 80 = v6 := e37
      have y67 : M20 598 81 = v14 := e56
      have y68 : M20 598 89 = v16 := e39
      have y69 : M20 598 96 = v1 + 1 := e43
      have y70 : M20 598 100 = v18 := e45
      have y71 : M20 598 101 = v61 := e62
      have y72 : M20 598 107 = v47 := e48
      have y73 : M20 598 75 = v53 := e53
      have y74 : M20 598 80 = v6 := e37
      have y75 : M20 598 81 = v14 := e56
      have y76 : M20 598 89 = v16 := e39
      have y77 : M20 598 96 = v1 + 1 := e43
      have y78 : M20 598 100 = v18 := e45
      have y79 : M20 598 101 = v61 := e62
      have y80 : M20 598 107 = v47 := e48
      have y81 : M20 598 75 = v53 := e53
      have y82 : M20 598 80 = v6 := e37
      have y83 : M20 598 81 = v14 := e56
      have y84 : M20 598 89 = v16 := e39
      have y85 : M20 598 96 = v1 + 1 := e43
      have y86 : M20 598 100 = v18 := e45
      have y87 : M20 598 101 = v61 := e62
      have y88 : M20 598 107 = v47 := e48
      refine jr.pick [0, 1] rfl rfl ?_
      exact r_deed_L230_z (t := 0) (ak := []) q M20 w hI_M20 hH_M20 hS_M20  (fun a i f598 f659 f660 f661 f662 f663 f664 f665 f666 f667 f668 f669 => ((w20_50 a i f598).trans ((ju_c _ _ f598).trans ((ju_c _ _ f663).trans ((ju_c _ _ f662).trans ((ju_c _ _ f661).trans (hF_M a i f598 f659 f660 f661 f662 f663 f664 f665 f666 f667 f668 f669))))))) (fun i g73 g74 g75 g76 g77 g78 g79 g80 g81 g89 g90 g96 g100 g102 g107 => ((w20_51 i g73 g74 g75 g76 g77 g78 g79).trans ((ju_i _ _ g96).trans ((ju_c _ _ (by decide)).trans ((ju_c _ _ (by decide)).trans ((ju_c _ _ (by decide)).trans (hG_M i g73 g74 g75 g76 g77 g78 g79 g80 g81 g89 g90 g96 g100 g102 g107))))))) (by omega) (Or.inr ⟨⟨by omega, by have dl := dl_deed (w := w) (by omega); rw [dl.2.2.2 (by omega)]; exact hX, by omega, by omega, by omega, by omega⟩, by omega, Or.inr ⟨by omega, hA2, by omega, by rw [e41]; exact e50⟩⟩) (by rw [e31, e29] <;> omega) (by omega) (by omega) (by rw [e48] <;> omega) (by rw [e52] <;> omega) (by rw [e48] <;> omega) hT20 (fun q => by exfalso; omega) (fun _ => ⟨_, _, hK20, (AKr.fr (AKr.ask (t := znx f N t) hAK e1 (hNm.trans hNz) (by omega)) (fun i => w20_50 661 i (by decide)) (fun i => w20_50 662 i (by decide)) (w20_51 96 (by decide) (by decide) (by decide) (by decide) (by decide) (by decide) (by decide))), fun q => (zr.eqx (zr.djpL hne hz (by omega) (by omega) (by omega) (by omega) hgn q) rfl rfl (by omega) (by omega) (by omega) (by rw [((blr_fr (fun i => w20_50 668 i (by decide)) (w20_51 107 (by decide) (by decide) (by decide) (by decide) (by decide) (by decide) (by decide))).trans ((blr_fr (fun i => ju_c _ _ (by decide)) (ju_i _ _ (by decide))).trans ((blr_fr (fun i => ju_c _ _ (by decide)) (ju_c _ _ (by decide))).trans ((blr_fr (fun i => ju_c _ _ (by decide)) (ju_c _ _ (by decide))).trans ((blr_fr (fun i => ju_c _ _ (by decide)) (ju_c _ _ (by decide))).trans rfl)))))])), fun q => zr.djpfL hne hz (by omega) (by omega) (by omega) (by omega) hgn q⟩) (fun q => by omega)
    · refine jr.if_ne rfl rfl (by omega) (fun h => absurd h (by decide)) (fun _ => ?_)
      refine jr.aload_n rfl rfl ?_
      obtain ⟨v89, e89⟩ : ∃ z, M 598 80 = z := ⟨_, rfl⟩
      have b89 : 0 ≤ v89 ∧ v89 ≤ 7 := by rw [← e89]; exact hI_M 598 80 (by decide)
      obtain ⟨v90, e90⟩ : ∃ z, M 598 89 = z := ⟨_, rfl⟩
      have b90 : 0 ≤ v90 ∧ v90 ≤ 301 := by rw [← e90]; exact hI_M 598 89 (by decide)
      obtain ⟨v91, e91⟩ : ∃ z, M 598 100 = z := ⟨_, rfl⟩
      have b91 : 0 ≤ v91 ∧ v91 ≤ 13 := by rw [← e91]; exact hI_M 598 100 (by decide)
      obtain ⟨v92, e92⟩ : ∃ z, M 598 81 = z := ⟨_, rfl⟩
      have b92 : (-1) ≤ v92 ∧ v92 ≤ 1600 := by rw [← e92]; exact hI_M 598 81 (by decide)
      refine jr_v rfl rfl (Or.inl rfl) rfl rfl (by decide) rfl ⟨rfl, Nat.le_of_ble_eq_true rfl, Nat.le_of_ble_eq_true rfl⟩ rfl (jc.deep (c_wrongToken_z (f := f) (N := N) hI_M hH_M hS_M hK (by rw [e89]; omega) (fun M93 hI_M93 hH_M93 hS_M93 qn93 q093 q193 w93_50 w93_51 => ?_)) (by decide))
      have tk93 : TK M93 = TK M := TK.fr (w93_51 73 (by decide) (by decide)) (w93_51 74 (by decide) (by decide))
      have x93_72 := w93_51 72 (by decide) (by decide)
      have x93_73 := w93_51 73 (by decide) (by decide)
      have x93_74 := w93_51 74 (by decide) (by decide)
      have x93_75 := w93_51 75 (by decide) (by decide)
      have x93_76 := w93_51 76 (by decide) (by decide)
      have x93_78 := w93_51 78 (by decide) (by decide)
      have x93_79 := w93_51 79 (by decide) (by decide)
      have x93_89 := w93_51 89 (by decide) (by decide)
      have x93_100 := w93_51 100 (by decide) (by decide)
      have zfz : zr f N xs (zft (M93 598 80) (M93 598 81)) := zr.rfz (zr.djpnL hne hz (by omega) (by omega) (by omega) (by omega) (fun z => by have q := hK.wz (by omega); omega)) q093 q193
      obtain ⟨v94, e94⟩ : ∃ z, M 598 72 = z := ⟨_, rfl⟩
      have b94 : 0 ≤ v94 ∧ v94 ≤ 1600 := by rw [← e94]; exact hI_M 598 72 (by decide)
      have e95 : M93 598 72 = v94 := ((w93_51 72 (by decide) (by decide)).trans e94)
      have y96 : M93 598 72 = v94 := e95
      obtain ⟨v97, e97⟩ : ∃ z, M 598 73 = z := ⟨_, rfl⟩
      have b97 : 0 ≤ v97 ∧ v97 ≤ 1600 := by rw [← e97]; exact hI_M 598 73 (by decide)
      have e98 : M93 598 73 = v97 := ((w93_51 73 (by decide) (by decide)).trans e97)
      have y99 : M93 598 73 = v97 := e98
      obtain ⟨v100, e100⟩ : ∃ z, M 598 74 = z := ⟨_, rfl⟩
      have b100 : 0 ≤ v100 ∧ v100 ≤ 4 := by rw [← e100]; exact hI_M 598 74 (by decide)
      have e101 : M93 598 74 = v100 := ((w93_51 74 (by decide) (by decide)).trans e100)
      have y102 : M93 598 74 = v100 := e101
      obtain ⟨v103, e103⟩ : ∃ z, M 598 79 = z := ⟨_, rfl⟩
      have b103 : 0 ≤ v103 ∧ v103 ≤ 255 := by rw [← e103]; exact hI_M 598 79 (by decide)
      have e104 : M93 598 79 = v103 := ((w93_51 79 (by decide) (by decide)).trans e103)
      have y105 : M93 598 79 = v103 := e104
      obtain ⟨v106, e106⟩ : ∃ z, M93 598 80 = z := ⟨_, rfl⟩
      have b106 : 0 ≤ v106 ∧ v106 ≤ 7 := by rw [← e106]; exact hI_M93 598 80 (by decide)
      have y107 : M93 598 80 = v106 := e106
      have e108 : M93 598 89 = v90 := ((w93_51 89 (by decide) (by decide)).trans e90)
      have y109 : M93 598 89 = v90 := e108
      have e110 : M93 598 90 = c0 := ((w93_51 90 (by decide) (by decide)).trans hc0)
      have y111 : M93 598 90 = c0 := e110
      obtain ⟨v112, e112⟩ : ∃ z, M 598 96 = z := ⟨_, rfl⟩
      have b112 : 0 ≤ v112 ∧ v112 ≤ 300 := by rw [← e112]; exact hI_M 598 96 (by decide)
      have e113 : M93 598 96 = v112 := ((w93_51 96 (by decide) (by decide)).trans e112)
      have y114 : M93 598 96 = v112 := e113
      have e115 : M93 598 100 = v91 := ((w93_51 100 (by decide) (by decide)).trans e91)
      have y116 : M93 598 100 = v91 := e115
      obtain ⟨v117, e117⟩ : ∃ z, M 598 107 = z := ⟨_, rfl⟩
      have b117 : 0 ≤ v117 ∧ v117 ≤ 16 := by rw [← e117]; exact hI_M 598 107 (by decide)
      have e118 : M93 598 107 = v117 := ((w93_51 107 (by decide) (by decide)).trans e117)
      have y119 : M93 598 107 = v117 := e118
      obtain ⟨v120, e120⟩ : ∃ z, M 598 75 = z := ⟨_, rfl⟩
      have b120 : 0 ≤ v120 ∧ v120 ≤ 1600 := by rw [← e120]; exact hI_M 598 75 (by decide)
      have e121 : M93 598 75 = v120 := ((w93_51 75 (by decide) (by decide)).trans e120)
      have y122 : M93 598 75 = v120 := e121
      obtain ⟨v123, e123⟩ : ∃ z, M93 598 81 = z := ⟨_, rfl⟩
      have b123 : (-1) ≤ v123 ∧ v123 ≤ 1600 := by rw [← e123]; exact hI_M93 598 81 (by decide)
      have y124 : M93 598 81 = v123 := e123
      obtain ⟨v125, e125⟩ : ∃ z, M 598 101 = z := ⟨_, rfl⟩
      have b125 : 0 ≤ v125 ∧ v125 ≤ 1 := by rw [← e125]; exact hI_M 598 101 (by decide)
      have e126 : M93 598 101 = v125 := ((w93_51 101 (by decide) (by decide)).trans e125)
      have y127 : M93 598 101 = v125 := e126
      exact jr.vreturn rfl rfl (q _ hI_M93 hH_M93 hS_M93  (Or.inl ⟨by omega, by omega⟩) (by omega) (by omega) (by omega) (by omega) (TXr.fr hT (w93_51 72 (by decide) (by decide)) (fun i => w93_50 651 i (by decide)) (fun i => w93_50 649 i (by decide)) (fun i => w93_50 650 i (by decide))) (fun _ => zr.fe zfz (by omega) (by omega)) (fun q => by exfalso; omega) (fun q => by omega) (fun a i f598 f659 f660 f661 f662 f663 f664 f665 f666 f667 f668 f669 => ((w93_50 a i f598).trans (hF_M a i f598 f659 f660 f661 f662 f663 f664 f665 f666 f667 f668 f669))) (fun i g73 g74 g75 g76 g77 g78 g79 g80 g81 g89 g90 g96 g100 g102 g107 => ((w93_51 i g80 g81).trans (hG_M i g73 g74 g75 g76 g77 g78 g79 g80 g81 g89 g90 g96 g100 g102 g107))))
set_option maxHeartbeats 8000000 in
theorem r_deed_L78_z {A : Nat → Option (Nat × (Nat → Int32))} {Q : Option Value → jm → Prop} {f : Int → Int} {N : Int} {xs : ZS} {t : Int} {nm ak : List Int} {M0 : jm} (q : ∀ (M' : jm), RI M' → RH M' → RF M' → (BT M' ∨ (DS M' 0 ∧ TK M' < TK M0)) → TK M' ≤ TK M0 → M' 598 73 ≤ M' 598 72 → (M' 598 80 ≠ 0 ∨ TK M' < TK M0) → M0 598 107 ≤ M' 598 107 → TXr f N M' → ZFQ f N xs M' → ZDPQ f N xs M' nm → K8Q M0 M' → (∀ (a : Nat) (i : Int), a ≠ 598 → a ≠ 659 → a ≠ 660 → a ≠ 661 → a ≠ 662 → a ≠ 663 → a ≠ 664 → a ≠ 665 → a ≠ 666 → a ≠ 667 → a ≠ 668 → a ≠ 669 → M' a i = M0 a i) → (∀ (i : Int), i ≠ 73 → i ≠ 74 → i ≠ 75 → i ≠ 76 → i ≠ 77 → i ≠ 78 → i ≠ 79 → i ≠ 80 → i ≠ 81 → i ≠ 89 → i ≠ 90 → i ≠ 96 → i ≠ 100 → i ≠ 102 → i ≠ 107 → M' 598 i = M0 598 i) → Q none M') : ∀ (M : jm) , RI M → RH M → RF M → (∀ (a : Nat) (i : Int), a ≠ 598 → a ≠ 659 → a ≠ 660 → a ≠ 661 → a ≠ 662 → a ≠ 663 → a ≠ 664 → a ≠ 665 → a ≠ 666 → a ≠ 667 → a ≠ 668 → a ≠ 669 → M a i = M0 a i) → (∀ (i : Int), i ≠ 73 → i ≠ 74 → i ≠ 75 → i ≠ 76 → i ≠ 77 → i ≠ 78 → i ≠ 79 → i ≠ 80 → i ≠ 81 → i ≠ 89 → i ≠ 90 → i ≠ 96 → i ≠ 100 → i ≠ 102 → i ≠ 107 → M 598 i = M0 598 i) → XS M 0 (0 + 2 + 2) 0 0 (-1) → AK M → M 598 80 = 0 → M 598 96 < M 598 89 ∧ M 598 89 ≤ 300 → M 598 100 ≤ 12 → M 598 73 ≤ M 598 72 → 1 ≤ M 598 107 ∧ M 598 107 = M0 598 107 → 1 ≤ M 598 88 → (M 598 74 = 3 → M 598 79 ≠ 10 ∧ M 598 79 ≠ 11) → TK M < TK M0 → TKr f N (znx f N t) M → zr f N xs (2, znx f N t, M 598 89, M 598 100, 0, M 598 101, (11, 0, 0, 0) :: blr M, nm, ak) → AKr f N M ak → M 598 81 = M0 598 81 → jr A 7 xm_367 78 [(0, .ref (598))] [] M Q := by
    intro M  hI_M hH_M hS_M hF_M hG_M  hy0 hy1 hy2 hy3 hy4 hy5 hy6 hy7 hy8 hy9 hy10 hy11 hy12 hy13
    have hX := hy0
    have hA := hy1
    have dpx := XS.dep hy0
    have sl := XS.sgle hy0
    have bM_107 : (0 : Int) ≤ M 598 107 ∧ M 598 107 ≤ 16 := hI_M 598 107 (by decide)
    have bM_73 : (0 : Int) ≤ M 598 73 ∧ M 598 73 ≤ 1600 := hI_M 598 73 (by decide)
    have bM_88 : (0 : Int) ≤ M 598 88 ∧ M 598 88 ≤ 16 := hI_M 598 88 (by decide)
    have bM_100 : (0 : Int) ≤ M 598 100 ∧ M 598 100 ≤ 13 := hI_M 598 100 (by decide)
    have hK := hy10
    have kk0 := hK.kz
    have hT := hK.1
    have hz := hy11
    have hAK := hy12
    have hne := blr_ne (M := M) (by omega)
    refine jr.aload_n rfl rfl ?_
    refine jr_v rfl rfl (Or.inl rfl) rfl rfl (by decide) rfl ⟨rfl, Nat.le_of_ble_eq_true rfl, Nat.le_of_ble_eq_true rfl⟩ rfl (jc.deep (c_exp_z hI_M hH_M hS_M ⟨by omega, hX, by omega, by omega, by omega, by omega⟩ (by omega) hK hz ⟨11, 0, 0, 0, _, rfl, by decide⟩ (fun M1 hI_M1 hH_M1 hS_M1 bs1 wt1 wl1 wc1 wn1 hTx1 zfz wF1 wG1 => ?_) (fun M1 hI_M1 hH_M1 hS_M1 ss1 wt1 wc1 wn1 hTx1 u811 zo1 wF1 wG1 => ?_)) (by decide))
    · obtain ⟨ba1, bb1⟩ := bs1
      have x1_72 := wG1 72 (by decide) (by decide) (by decide) (by decide) (by decide) (by decide) (by decide) (by decide) (by decide) (by decide) (by decide) (by decide) (by decide)
      have x1_101 := wG1 101 (by decide) (by decide) (by decide) (by decide) (by decide) (by decide) (by decide) (by decide) (by decide) (by decide) (by decide) (by decide) (by decide)
      have x1_107 := wG1 107 (by decide) (by decide) (by decide) (by decide) (by decide) (by decide) (by decide) (by decide) (by decide) (by decide) (by decide) (by decide) (by decide)
      have x1_96 := wG1 96 (by decide) (by decide) (by decide) (by decide) (by decide) (by decide) (by decide) (by decide) (by decide) (by decide) (by decide) (by decide) (by decide)
      have x1_88 := wG1 88 (by decide) (by decide) (by decide) (by decide) (by decide) (by decide) (by decide) (by decide) (by decide) (by decide) (by decide) (by decide) (by decide)
      refine jr.aload_n rfl rfl ?_
      obtain ⟨v2, e2⟩ : ∃ z, M1 598 90 = z := ⟨_, rfl⟩
      have b2 : 0 ≤ v2 ∧ v2 ≤ 2200 := by rw [← e2]; exact hI_M1 598 90 (by decide)
      refine jr.getf (i := 90) (x := v2) (v := .int (Int32.ofInt (v2))) rfl rfl (by decide) rfl (by decide) rfl rfl e2 rfl ?_
      refine jr.istore_n rfl (by decide) rfl ?_
      refine jr.aload_n rfl rfl ?_
      refine jr.iconst rfl ?_
      refine jr.lconst (x := 0) rfl (by decide) ?_
      refine jr_v rfl rfl (Or.inl rfl) rfl rfl (by decide) rfl ⟨rfl, Nat.le_of_ble_eq_true rfl, Nat.le_of_ble_eq_true rfl⟩ rfl (jc.deep (r_emit e2 (by omega) (by omega) (by omega) ?_) (by decide))
      refine jr.aload_n rfl rfl ?_
      refine jr.iconst rfl ?_
      refine jr.iload_n rfl rfl ?_
      obtain ⟨v3, e3⟩ : ∃ z, M1 598 73 = z := ⟨_, rfl⟩
      have b3 : 0 ≤ v3 ∧ v3 ≤ 1600 := by rw [← e3]; exact hI_M1 598 73 (by decide)
      obtain ⟨v4, e4⟩ : ∃ z, M 598 72 = z := ⟨_, rfl⟩
      have b4 : 0 ≤ v4 ∧ v4 ≤ 1600 := by rw [← e4]; exact hI_M 598 72 (by decide)
      have e5 : M1 598 72 = v4 := ((wG1 72 (by decide) (by decide) (by decide) (by decide) (by decide) (by decide) (by decide) (by decide) (by decide) (by decide) (by decide) (by decide) (by decide)).trans e4)
      obtain ⟨v6, e6⟩ : ∃ z, M1 598 80 = z := ⟨_, rfl⟩
      have b6 : 0 ≤ v6 ∧ v6 ≤ 7 := by rw [← e6]; exact hI_M1 598 80 (by decide)
      obtain ⟨v7, e7⟩ : ∃ z, M 598 107 = z := ⟨_, rfl⟩
      have b7 : 0 ≤ v7 ∧ v7 ≤ 16 := by rw [← e7]; exact hI_M 598 107 (by decide)
      have e8 : M1 598 107 = v7 := ((wG1 107 (by decide) (by decide) (by decide) (by decide) (by decide) (by decide) (by decide) (by decide) (by decide) (by decide) (by decide) (by decide) (by decide)).trans e7)
      obtain ⟨v10, e10⟩ : ∃ z, M1 598 74 = z := ⟨_, rfl⟩
      have b10 : 0 ≤ v10 ∧ v10 ≤ 4 := by rw [← e10]; exact hI_M1 598 74 (by decide)
      obtain ⟨v12, e12⟩ : ∃ z, M1 598 75 = z := ⟨_, rfl⟩
      have b12 : 0 ≤ v12 ∧ v12 ≤ 1600 := by rw [← e12]; exact hI_M1 598 75 (by decide)
      obtain ⟨v14, e14⟩ : ∃ z, M1 598 79 = z := ⟨_, rfl⟩
      have b14 : 0 ≤ v14 ∧ v14 ≤ 255 := by rw [← e14]; exact hI_M1 598 79 (by decide)
      obtain ⟨v17, e17⟩ : ∃ z, M1 598 81 = z := ⟨_, rfl⟩
      have b17 : (-1) ≤ v17 ∧ v17 ≤ 1600 := by rw [← e17]; exact hI_M1 598 81 (by decide)
      obtain ⟨v19, e19⟩ : ∃ z, M1 598 89 = z := ⟨_, rfl⟩
      have b19 : 0 ≤ v19 ∧ v19 ≤ 301 := by rw [← e19]; exact hI_M1 598 89 (by decide)
      obtain ⟨v22, e22⟩ : ∃ z, M1 598 100 = z := ⟨_, rfl⟩
      have b22 : 0 ≤ v22 ∧ v22 ≤ 13 := by rw [← e22]; exact hI_M1 598 100 (by decide)
      obtain ⟨v24, e24⟩ : ∃ z, M 598 101 = z := ⟨_, rfl⟩
      have b24 : 0 ≤ v24 ∧ v24 ≤ 1 := by rw [← e24]; exact hI_M 598 101 (by decide)
      have e25 : M1 598 101 = v24 := ((wG1 101 (by decide) (by decide) (by decide) (by decide) (by decide) (by decide) (by decide) (by decide) (by decide) (by decide) (by decide) (by decide) (by decide)).trans e24)
      refine jr_v rfl rfl (Or.inl rfl) rfl rfl (by decide) rfl ⟨rfl, Nat.le_of_ble_eq_true rfl, Nat.le_of_ble_eq_true rfl⟩ rfl (jc.deep (d_beginBlock_z (f := f) (N := N) (RI.u (RI.u (RI.u hI_M1 (a := 659) (i := v2) (by rw [xri_row rfl rfl]; show (0 : Int) ≤ _ ∧ _ ≤ (1000 : Int); omega)) (a := 660) (i := v2) (by rw [xri_row rfl rfl]; show (-9223372036854775808 : Int) ≤ _ ∧ _ ≤ (9223372036854775807 : Int); omega)) (a := 598) (i := 90) (show (0 : Int) ≤ _ ∧ _ ≤ (2200 : Int) from by omega)) (RH.o (RH.o (RH.o hH_M1 (by decide) (by decide) (by decide)) (by decide) (by decide) (by decide)) (by decide) (by decide) (by decide)) (RF.o (RF.o (RF.o hS_M1 (by decide) (by decide)) (by decide) (by decide)) (by decide) (by decide)) (by omega) (by omega) (by rw [((ju_i _ _ (by decide)).trans ((ju_c _ _ (by decide)).trans ((ju_c _ _ (by decide)).trans e3))), ((ju_i _ _ (by decide)).trans ((ju_c _ _ (by decide)).trans ((ju_c _ _ (by decide)).trans e5)))]; omega) (TXr.o (TXr.k (TXr.k hTx1 (by decide) (by decide) (by decide) (by decide)) (by decide) (by decide) (by decide) (by decide)) (by decide)) (by rw [((ju_i _ _ (by decide)).trans ((ju_c _ _ (by decide)).trans ((ju_c _ _ (by decide)).trans e6)))]; omega) (by rw [((ju_i _ _ (by decide)).trans ((ju_c _ _ (by decide)).trans ((ju_c _ _ (by decide)).trans e8)))]; omega) (fun M28 hI_M28 hH_M28 hS_M28 qa28 qb28 qt28 q028 q128 hT28 q728 w28_50 w28_51 => ?_)) (by decide))
      have y9 : (ju (ju (ju M1 659 v2 1) 660 v2 0) 598 90 (v2 + 1)) 598 73 = v3 := ((ju_i _ _ (by decide)).trans ((ju_c _ _ (by decide)).trans ((ju_c _ _ (by decide)).trans e3)))
      have y11 : (ju (ju (ju M1 659 v2 1) 660 v2 0) 598 90 (v2 + 1)) 598 74 = v10 := ((ju_i _ _ (by decide)).trans ((ju_c _ _ (by decide)).trans ((ju_c _ _ (by decide)).trans e10)))
      have y13 : (ju (ju (ju M1 659 v2 1) 660 v2 0) 598 90 (v2 + 1)) 598 75 = v12 := ((ju_i _ _ (by decide)).trans ((ju_c _ _ (by decide)).trans ((ju_c _ _ (by decide)).trans e12)))
      have y15 : (ju (ju (ju M1 659 v2 1) 660 v2 0) 598 90 (v2 + 1)) 598 79 = v14 := ((ju_i _ _ (by decide)).trans ((ju_c _ _ (by decide)).trans ((ju_c _ _ (by decide)).trans e14)))
      have y16 : (ju (ju (ju M1 659 v2 1) 660 v2 0) 598 90 (v2 + 1)) 598 80 = v6 := ((ju_i _ _ (by decide)).trans ((ju_c _ _ (by decide)).trans ((ju_c _ _ (by decide)).trans e6)))
      have y18 : (ju (ju (ju M1 659 v2 1) 660 v2 0) 598 90 (v2 + 1)) 598 81 = v17 := ((ju_i _ _ (by decide)).trans ((ju_c _ _ (by decide)).trans ((ju_c _ _ (by decide)).trans e17)))
      have y20 : (ju (ju (ju M1 659 v2 1) 660 v2 0) 598 90 (v2 + 1)) 598 89 = v19 := ((ju_i _ _ (by decide)).trans ((ju_c _ _ (by decide)).trans ((ju_c _ _ (by decide)).trans e19)))
      have y21 : (ju (ju (ju M1 659 v2 1) 660 v2 0) 598 90 (v2 + 1)) 598 90 = v2 + 1 := (ju_same _ _ _ _)
      have y23 : (ju (ju (ju M1 659 v2 1) 660 v2 0) 598 90 (v2 + 1)) 598 100 = v22 := ((ju_i _ _ (by decide)).trans ((ju_c _ _ (by decide)).trans ((ju_c _ _ (by decide)).trans e22)))
      have y26 : (ju (ju (ju M1 659 v2 1) 660 v2 0) 598 90 (v2 + 1)) 598 101 = v24 := ((ju_i _ _ (by decide)).trans ((ju_c _ _ (by decide)).trans ((ju_c _ _ (by decide)).trans e25)))
      have y27 : (ju (ju (ju M1 659 v2 1) 660 v2 0) 598 90 (v2 + 1)) 598 107 = v7 := ((ju_i _ _ (by decide)).trans ((ju_c _ _ (by decide)).trans ((ju_c _ _ (by decide)).trans e8)))
      have tb28 : TK (ju (ju (ju M1 659 v2 1) 660 v2 0) 598 90 (v2 + 1)) = TK M1 := ((TK.o (Or.inr ⟨by decide, by decide⟩)).trans ((TK.o (Or.inl (by decide))).trans ((TK.o (Or.inl (by decide))).trans rfl)))
      have x28_72 := w28_51 72 (by decide) (by decide) (by decide) (by decide) (by decide) (by decide) (by decide) (by decide) (by decide) (by decide) (by decide)
      have x28_89 := w28_51 89 (by decide) (by decide) (by decide) (by decide) (by decide) (by decide) (by decide) (by decide) (by decide) (by decide) (by decide)
      have x28_101 := w28_51 101 (by decide) (by decide) (by decide) (by decide) (by decide) (by decide) (by decide) (by decide) (by decide) (by decide) (by decide)
      have x28_88 := w28_51 88 (by decide) (by decide) (by decide) (by decide) (by decide) (by decide) (by decide) (by decide) (by decide) (by decide) (by decide)
      have x28_96 := w28_51 96 (by decide) (by decide) (by decide) (by decide) (by decide) (by decide) (by decide) (by decide) (by decide) (by decide) (by decide)
      have x28_90 := w28_51 90 (by decide) (by decide) (by decide) (by decide) (by decide) (by decide) (by decide) (by decide) (by decide) (by decide) (by decide)
      have zfz : zr f N xs (zft (M28 598 80) (M28 598 81)) := zr.fe zfz (by omega) (by omega)
      have e29 : M28 598 72 = v4 := ((w28_51 72 (by decide) (by decide) (by decide) (by decide) (by decide) (by decide) (by decide) (by decide) (by decide) (by decide) (by decide)).trans ((ju_i _ _ (by decide)).trans ((ju_c _ _ (by decide)).trans ((ju_c _ _ (by decide)).trans e5))))
      have y30 : M28 598 72 = v4 := e29
      obtain ⟨v31, e31⟩ : ∃ z, M28 598 73 = z := ⟨_, rfl⟩
      have b31 : 0 ≤ v31 ∧ v31 ≤ 1600 := by rw [← e31]; exact hI_M28 598 73 (by decide)
      have y32 : M28 598 73 = v31 := e31
      obtain ⟨v33, e33⟩ : ∃ z, M28 598 74 = z := ⟨_, rfl⟩
      have b33 : 0 ≤ v33 ∧ v33 ≤ 4 := by rw [← e33]; exact hI_M28 598 74 (by decide)
      have y34 : M28 598 74 = v33 := e33
      obtain ⟨v35, e35⟩ : ∃ z, M28 598 79 = z := ⟨_, rfl⟩
      have b35 : 0 ≤ v35 ∧ v35 ≤ 255 := by rw [← e35]; exact hI_M28 598 79 (by decide)
      have y36 : M28 598 79 = v35 := e35
      obtain ⟨v37, e37⟩ : ∃ z, M28 598 80 = z := ⟨_, rfl⟩
      have b37 : 0 ≤ v37 ∧ v37 ≤ 7 := by rw [← e37]; exact hI_M28 598 80 (by decide)
      have y38 : M28 598 80 = v37 := e37
      have e39 : M28 598 89 = v19 := ((w28_51 89 (by decide) (by decide) (by decide) (by decide) (by decide) (by decide) (by decide) (by decide) (by decide) (by decide) (by decide)).trans ((ju_i _ _ (by decide)).trans ((ju_c _ _ (by decide)).trans ((ju_c _ _ (by decide)).trans e19))))
      have y40 : M28 598 89 = v19 := e39
      have e41 : M28 598 90 = v2 + 1 := ((w28_51 90 (by decide) (by decide) (by decide) (by decide) (by decide) (by decide) (by decide) (by decide) (by decide) (by decide) (by decide)).trans (ju_same _ _ _ _))
      have y42 : M28 598 90 = v2 + 1 := e41
      obtain ⟨v43, e43⟩ : ∃ z, M 598 96 = z := ⟨_, rfl⟩
      have b43 : 0 ≤ v43 ∧ v43 ≤ 300 := by rw [← e43]; exact hI_M 598 96 (by decide)
      have e44 : M1 598 96 = v43 := ((wG1 96 (by decide) (by decide) (by decide) (by decide) (by decide) (by decide) (by decide) (by decide) (by decide) (by decide) (by decide) (by decide) (by decide)).trans e43)
      have e45 : M28 598 96 = v43 := ((w28_51 96 (by decide) (by decide) (by decide) (by decide) (by decide) (by decide) (by decide) (by decide) (by decide) (by decide) (by decide)).trans ((ju_i _ _ (by decide)).trans ((ju_c _ _ (by decide)).trans ((ju_c _ _ (by decide)).trans e44))))
      have y46 : M28 598 96 = v43 := e45
      obtain ⟨v47, e47⟩ : ∃ z, M28 598 100 = z := ⟨_, rfl⟩
      have b47 : 0 ≤ v47 ∧ v47 ≤ 13 := by rw [← e47]; exact hI_M28 598 100 (by decide)
      have y48 : M28 598 100 = v47 := e47
      obtain ⟨v49, e49⟩ : ∃ z, M28 598 107 = z := ⟨_, rfl⟩
      have b49 : 0 ≤ v49 ∧ v49 ≤ 16 := by rw [← e49]; exact hI_M28 598 107 (by decide)
      have y50 : M28 598 107 = v49 := e49
      obtain ⟨v51, e51⟩ : ∃ z, M28 598 75 = z := ⟨_, rfl⟩
      have b51 : 0 ≤ v51 ∧ v51 ≤ 1600 := by rw [← e51]; exact hI_M28 598 75 (by decide)
      have y52 : M28 598 75 = v51 := e51
      obtain ⟨v53, e53⟩ : ∃ z, M28 598 81 = z := ⟨_, rfl⟩
      have b53 : (-1) ≤ v53 ∧ v53 ≤ 1600 := by rw [← e53]; exact hI_M28 598 81 (by decide)
      have y54 : M28 598 81 = v53 := e53
      have e55 : M28 598 101 = v24 := ((w28_51 101 (by decide) (by decide) (by decide) (by decide) (by decide) (by decide) (by decide) (by decide) (by decide) (by decide) (by decide)).trans ((ju_i _ _ (by decide)).trans ((ju_c _ _ (by decide)).trans ((ju_c _ _ (by decide)).trans e25))))
      have y56 : M28 598 101 = v24 := e55
      exact jr.vreturn rfl rfl (q _ hI_M28 hH_M28 hS_M28  (Or.inl ⟨by omega, by omega⟩) (by omega) (by omega) (by omega) (by omega) hT28 (fun _ => zr.fe zfz (by omega) (by omega)) (fun q => by exfalso; omega) (fun q => by omega) (fun a i f598 f659 f660 f661 f662 f663 f664 f665 f666 f667 f668 f669 => ((w28_50 a i f598 f668 f669).trans ((ju_c _ _ f598).trans ((ju_c _ _ f660).trans ((ju_c _ _ f659).trans ((wF1 a i f598 f659 f660 f664 f665 f666 f667).trans (hF_M a i f598 f659 f660 f661 f662 f663 f664 f665 f666 f667 f668 f669))))))) (fun i g73 g74 g75 g76 g77 g78 g79 g80 g81 g89 g90 g96 g100 g102 g107 => ((w28_51 i g73 g74 g75 g76 g77 g78 g79 g80 g81 g100 g107).trans ((ju_i _ _ g90).trans ((ju_c _ _ (by decide)).trans ((ju_c _ _ (by decide)).trans ((wG1 i g73 g74 g75 g76 g77 g78 g79 g80 g81 g89 g90 g100 g102).trans (hG_M i g73 g74 g75 g76 g77 g78 g79 g80 g81 g89 g90 g96 g100 g102 g107))))))))
    · obtain ⟨sa1, hX, sc1, sd1, se1, sf1⟩ := ss1
      have hA := AK.cp hA wc1 (fun i => wF1 663 i (by decide) (by decide) (by decide) (by decide) (by decide) (by decide) (by decide)) (wG1 96 (by decide) (by decide) (by decide) (by decide) (by decide) (by decide) (by decide) (by decide) (by decide) (by decide) (by decide) (by decide) (by decide))
      have dpx1 := XS.dep hX
      have sl1 := XS.sgle hX
      have bM1_107 : (0 : Int) ≤ M1 598 107 ∧ M1 598 107 ≤ 16 := hI_M1 598 107 (by decide)
      have bM1_73 : (0 : Int) ≤ M1 598 73 ∧ M1 598 73 ≤ 1600 := hI_M1 598 73 (by decide)
      have bM1_88 : (0 : Int) ≤ M1 598 88 ∧ M1 598 88 ≤ 16 := hI_M1 598 88 (by decide)
      have bM1_100 : (0 : Int) ≤ M1 598 100 ∧ M1 598 100 ≤ 13 := hI_M1 598 100 (by decide)
      have x1_72 := wG1 72 (by decide) (by decide) (by decide) (by decide) (by decide) (by decide) (by decide) (by decide) (by decide) (by decide) (by decide) (by decide) (by decide)
      have x1_101 := wG1 101 (by decide) (by decide) (by decide) (by decide) (by decide) (by decide) (by decide) (by decide) (by decide) (by decide) (by decide) (by decide) (by decide)
      have x1_107 := wG1 107 (by decide) (by decide) (by decide) (by decide) (by decide) (by decide) (by decide) (by decide) (by decide) (by decide) (by decide) (by decide) (by decide)
      have x1_96 := wG1 96 (by decide) (by decide) (by decide) (by decide) (by decide) (by decide) (by decide) (by decide) (by decide) (by decide) (by decide) (by decide) (by decide)
      have x1_88 := wG1 88 (by decide) (by decide) (by decide) (by decide) (by decide) (by decide) (by decide) (by decide) (by decide) (by decide) (by decide) (by decide) (by decide)
      obtain ⟨tx, cx, hKx, hzx, hrx⟩ := zo1
      have kkx := hKx.kz
      have blx : blr M1 = blr M := blr_fr (fun i => wF1 668 i (by decide) (by decide) (by decide) (by decide) (by decide) (by decide) (by decide)) (wG1 107 (by decide) (by decide) (by decide) (by decide) (by decide) (by decide) (by decide) (by decide) (by decide) (by decide) (by decide) (by decide) (by decide))
      refine jr.aload_n rfl rfl ?_
      obtain ⟨v57, e57⟩ : ∃ z, M1 598 90 = z := ⟨_, rfl⟩
      have b57 : 0 ≤ v57 ∧ v57 ≤ 2200 := by rw [← e57]; exact hI_M1 598 90 (by decide)
      refine jr.getf (i := 90) (x := v57) (v := .int (Int32.ofInt (v57))) rfl rfl (by decide) rfl (by decide) rfl rfl e57 rfl ?_
      refine jr.istore_n rfl (by decide) rfl ?_
      refine jr.aload_n rfl rfl ?_
      refine jr.iconst rfl ?_
      refine jr.lconst (x := 0) rfl (by decide) ?_
      obtain ⟨v58, e58⟩ : ∃ z, M1 598 100 = z := ⟨_, rfl⟩
      have b58 : 0 ≤ v58 ∧ v58 ≤ 13 := by rw [← e58]; exact hI_M1 598 100 (by decide)
      obtain ⟨v60, e60⟩ : ∃ z, M 598 107 = z := ⟨_, rfl⟩
      have b60 : 0 ≤ v60 ∧ v60 ≤ 16 := by rw [← e60]; exact hI_M 598 107 (by decide)
      have e61 : M1 598 107 = v60 := ((wG1 107 (by decide) (by decide) (by decide) (by decide) (by decide) (by decide) (by decide) (by decide) (by decide) (by decide) (by decide) (by decide) (by decide)).trans e60)
      refine jr_v rfl rfl (Or.inl rfl) rfl rfl (by decide) rfl ⟨rfl, Nat.le_of_ble_eq_true rfl, Nat.le_of_ble_eq_true rfl⟩ rfl (jc.deep (r_emit e57 (by omega) (by omega) (by omega) ?_) (by decide))
      have y59 : M1 598 100 = v58 := e58
      have y62 : M1 598 107 = v60 := e61
      have hX := XS.jin hX e57 (by omega) (by omega)
      have hA := AK.emit (op := 1) (a := 0) hA e57
      have hB : LB _ := LB.emit (M := M1) (c := v57) (op := 1) (a := 0) (by decide)
      refine jr.aload_n rfl rfl ?_
      refine jr.iconst rfl ?_
      refine jr.iload_n rfl rfl ?_
      obtain ⟨v63, e63⟩ : ∃ z, M1 598 73 = z := ⟨_, rfl⟩
      have b63 : 0 ≤ v63 ∧ v63 ≤ 1600 := by rw [← e63]; exact hI_M1 598 73 (by decide)
      obtain ⟨v64, e64⟩ : ∃ z, M 598 72 = z := ⟨_, rfl⟩
      have b64 : 0 ≤ v64 ∧ v64 ≤ 1600 := by rw [← e64]; exact hI_M 598 72 (by decide)
      have e65 : M1 598 72 = v64 := ((wG1 72 (by decide) (by decide) (by decide) (by decide) (by decide) (by decide) (by decide) (by decide) (by decide) (by decide) (by decide) (by decide) (by decide)).trans e64)
      obtain ⟨v66, e66⟩ : ∃ z, M1 598 80 = z := ⟨_, rfl⟩
      have b66 : 0 ≤ v66 ∧ v66 ≤ 7 := by rw [← e66]; exact hI_M1 598 80 (by decide)
      obtain ⟨v67, e67⟩ : ∃ z, M1 598 74 = z := ⟨_, rfl⟩
      have b67 : 0 ≤ v67 ∧ v67 ≤ 4 := by rw [← e67]; exact hI_M1 598 74 (by decide)
      obtain ⟨v68, e68⟩ : ∃ z, M1 598 79 = z := ⟨_, rfl⟩
      have b68 : 0 ≤ v68 ∧ v68 ≤ 255 := by rw [← e68]; exact hI_M1 598 79 (by decide)
      obtain ⟨v71, e71⟩ : ∃ z, M1 598 75 = z := ⟨_, rfl⟩
      have b71 : 0 ≤ v71 ∧ v71 ≤ 1600 := by rw [← e71]; exact hI_M1 598 75 (by decide)
      obtain ⟨v75, e75⟩ : ∃ z, M1 598 81 = z := ⟨_, rfl⟩
      have b75 : (-1) ≤ v75 ∧ v75 ≤ 1600 := by rw [← e75]; exact hI_M1 598 81 (by decide)
      obtain ⟨v77, e77⟩ : ∃ z, M1 598 89 = z := ⟨_, rfl⟩
      have b77 : 0 ≤ v77 ∧ v77 ≤ 301 := by rw [← e77]; exact hI_M1 598 89 (by decide)
      obtain ⟨v81, e81⟩ : ∃ z, M 598 101 = z := ⟨_, rfl⟩
      have b81 : 0 ≤ v81 ∧ v81 ≤ 1 := by rw [← e81]; exact hI_M 598 101 (by decide)
      have e82 : M1 598 101 = v81 := ((wG1 101 (by decide) (by decide) (by decide) (by decide) (by decide) (by decide) (by decide) (by decide) (by decide) (by decide) (by decide) (by decide) (by decide)).trans e81)
      refine jr_v rfl rfl (Or.inl rfl) rfl rfl (by decide) rfl ⟨rfl, Nat.le_of_ble_eq_true rfl, Nat.le_of_ble_eq_true rfl⟩ rfl (jc.deep (c_beginBlock_z (f := f) (N := N) (RI.u (RI.u (RI.u hI_M1 (a := 659) (i := v57) (by rw [xri_row rfl rfl]; show (0 : Int) ≤ _ ∧ _ ≤ (1000 : Int); omega)) (a := 660) (i := v57) (by rw [xri_row rfl rfl]; show (-9223372036854775808 : Int) ≤ _ ∧ _ ≤ (9223372036854775807 : Int); omega)) (a := 598) (i := 90) (show (0 : Int) ≤ _ ∧ _ ≤ (2200 : Int) from by omega)) (RH.o (RH.o (RH.o hH_M1 (by decide) (by decide) (by decide)) (by decide) (by decide) (by decide)) (by decide) (by decide) (by decide)) (RF.o (RF.o (RF.o hS_M1 (by decide) (by decide)) (by decide) (by decide)) (by decide) (by decide)) (by omega) (by omega) (by rw [((ju_i _ _ (by decide)).trans ((ju_c _ _ (by decide)).trans ((ju_c _ _ (by decide)).trans e63))), ((ju_i _ _ (by decide)).trans ((ju_c _ _ (by decide)).trans ((ju_c _ _ (by decide)).trans e65)))]; omega) (TKr.oo (TKr.cc (TKr.cc hKx (by decide) (by decide) (by decide) (by decide)) (by decide) (by decide) (by decide) (by decide)) (by decide)) (by rw [((ju_i _ _ (by decide)).trans ((ju_c _ _ (by decide)).trans ((ju_c _ _ (by decide)).trans e66)))]; omega) (by rw [((ju_i _ _ (by decide)).trans ((ju_c _ _ (by decide)).trans ((ju_c _ _ (by decide)).trans e58)))]; omega) (by rw [((ju_i _ _ (by decide)).trans ((ju_c _ _ (by decide)).trans ((ju_c _ _ (by decide)).trans e61)))]; omega) (by rw [((ju_i _ _ (by decide)).trans ((ju_c _ _ (by decide)).trans ((ju_c _ _ (by decide)).trans e67))), ((ju_i _ _ (by decide)).trans ((ju_c _ _ (by decide)).trans ((ju_c _ _ (by decide)).trans e68)))]; intro q; omega) (fun M85 hI_M85 hH_M85 hS_M85 qa85 qb85 qt85 qd85 ql85 sn85 q085 q185 qs85 hK85 q785 bx85 bl85 w85_50 w85_51 => ?_) (fun M85 hI_M85 hH_M85 hS_M85 qa85 qb85 qt85 ql85 q085 q185 qs85 hT85 q785 w85_50 w85_51 => ?_) (fun M85 hI_M85 hH_M85 hS_M85 qa85 qb85 qt85 qn85 q085 q185 qs85 hT85 q785 w85_50 w85_51 => ?_)) (by decide))
      · have y69 : (ju (ju (ju M1 659 v57 1) 660 v57 0) 598 90 (v57 + 1)) 598 73 = v63 := ((ju_i _ _ (by decide)).trans ((ju_c _ _ (by decide)).trans ((ju_c _ _ (by decide)).trans e63)))
        have y70 : (ju (ju (ju M1 659 v57 1) 660 v57 0) 598 90 (v57 + 1)) 598 74 = v67 := ((ju_i _ _ (by decide)).trans ((ju_c _ _ (by decide)).trans ((ju_c _ _ (by decide)).trans e67)))
        have y72 : (ju (ju (ju M1 659 v57 1) 660 v57 0) 598 90 (v57 + 1)) 598 75 = v71 := ((ju_i _ _ (by decide)).trans ((ju_c _ _ (by decide)).trans ((ju_c _ _ (by decide)).trans e71)))
        have y73 : (ju (ju (ju M1 659 v57 1) 660 v57 0) 598 90 (v57 + 1)) 598 79 = v68 := ((ju_i _ _ (by decide)).trans ((ju_c _ _ (by decide)).trans ((ju_c _ _ (by decide)).trans e68)))
        have y74 : (ju (ju (ju M1 659 v57 1) 660 v57 0) 598 90 (v57 + 1)) 598 80 = v66 := ((ju_i _ _ (by decide)).trans ((ju_c _ _ (by decide)).trans ((ju_c _ _ (by decide)).trans e66)))
        have y76 : (ju (ju (ju M1 659 v57 1) 660 v57 0) 598 90 (v57 + 1)) 598 81 = v75 := ((ju_i _ _ (by decide)).trans ((ju_c _ _ (by decide)).trans ((ju_c _ _ (by decide)).trans e75)))
        have y78 : (ju (ju (ju M1 659 v57 1) 660 v57 0) 598 90 (v57 + 1)) 598 89 = v77 := ((ju_i _ _ (by decide)).trans ((ju_c _ _ (by decide)).trans ((ju_c _ _ (by decide)).trans e77)))
        have y79 : (ju (ju (ju M1 659 v57 1) 660 v57 0) 598 90 (v57 + 1)) 598 90 = v57 + 1 := (ju_same _ _ _ _)
        have y80 : (ju (ju (ju M1 659 v57 1) 660 v57 0) 598 90 (v57 + 1)) 598 100 = v58 := ((ju_i _ _ (by decide)).trans ((ju_c _ _ (by decide)).trans ((ju_c _ _ (by decide)).trans e58)))
        have y83 : (ju (ju (ju M1 659 v57 1) 660 v57 0) 598 90 (v57 + 1)) 598 101 = v81 := ((ju_i _ _ (by decide)).trans ((ju_c _ _ (by decide)).trans ((ju_c _ _ (by decide)).trans e82)))
        have y84 : (ju (ju (ju M1 659 v57 1) 660 v57 0) 598 90 (v57 + 1)) 598 107 = v60 := ((ju_i _ _ (by decide)).trans ((ju_c _ _ (by decide)).trans ((ju_c _ _ (by decide)).trans e61)))
        have tb85 : TK (ju (ju (ju M1 659 v57 1) 660 v57 0) 598 90 (v57 + 1)) = TK M1 := ((TK.o (Or.inr ⟨by decide, by decide⟩)).trans ((TK.o (Or.inl (by decide))).trans ((TK.o (Or.inl (by decide))).trans rfl)))
        have x85_72 := w85_51 72 (by decide) (by decide) (by decide) (by decide) (by decide) (by decide) (by decide) (by decide) (by decide) (by decide) (by decide)
        have x85_89 := w85_51 89 (by decide) (by decide) (by decide) (by decide) (by decide) (by decide) (by decide) (by decide) (by decide) (by decide) (by decide)
        have x85_101 := w85_51 101 (by decide) (by decide) (by decide) (by decide) (by decide) (by decide) (by decide) (by decide) (by decide) (by decide) (by decide)
        have x85_88 := w85_51 88 (by decide) (by decide) (by decide) (by decide) (by decide) (by decide) (by decide) (by decide) (by decide) (by decide) (by decide)
        have x85_96 := w85_51 96 (by decide) (by decide) (by decide) (by decide) (by decide) (by decide) (by decide) (by decide) (by decide) (by decide) (by decide)
        have x85_90 := w85_51 90 (by decide) (by decide) (by decide) (by decide) (by decide) (by decide) (by decide) (by decide) (by decide) (by decide) (by decide)
        have hT85 := hK85.1
        have kk85 := hK85.kz
        have hX := bx85 0 (0 + 2) 0 1 _ hX (by omega) (by omega) (fun _ => ⟨by omega, by omega, by omega, by omega, by rw [ju_c _ _ (by decide), ju_c _ _ (by decide), ju_same]; rfl, rfl⟩) (by rw [RVq_s (by omega)]; omega) (by omega)
        have hB := LB.fr hB (fun i => w85_50 659 i (by decide) (by decide) (by decide)) (w85_51 90 (by decide) (by decide) (by decide) (by decide) (by decide) (by decide) (by decide) (by decide) (by decide) (by decide) (by decide))
        have hA := AK.cp hA (CP.f (CP.rfl _) (fun i => w85_50 659 i (by decide) (by decide) (by decide)) (w85_51 90 (by decide) (by decide) (by decide) (by decide) (by decide) (by decide) (by decide) (by decide) (by decide) (by decide) (by decide))) (fun i => w85_50 663 i (by decide) (by decide) (by decide)) (w85_51 96 (by decide) (by decide) (by decide) (by decide) (by decide) (by decide) (by decide) (by decide) (by decide) (by decide) (by decide))
        have e86 : M85 598 72 = v64 := ((w85_51 72 (by decide) (by decide) (by decide) (by decide) (by decide) (by decide) (by decide) (by decide) (by decide) (by decide) (by decide)).trans ((ju_i _ _ (by decide)).trans ((ju_c _ _ (by decide)).trans ((ju_c _ _ (by decide)).trans e65))))
        have y87 : M85 598 72 = v64 := e86
        obtain ⟨v88, e88⟩ : ∃ z, M85 598 73 = z := ⟨_, rfl⟩
        have b88 : 0 ≤ v88 ∧ v88 ≤ 1600 := by rw [← e88]; exact hI_M85 598 73 (by decide)
        have y89 : M85 598 73 = v88 := e88
        obtain ⟨v90, e90⟩ : ∃ z, M85 598 74 = z := ⟨_, rfl⟩
        have b90 : 0 ≤ v90 ∧ v90 ≤ 4 := by rw [← e90]; exact hI_M85 598 74 (by decide)
        have y91 : M85 598 74 = v90 := e90
        obtain ⟨v92, e92⟩ : ∃ z, M85 598 79 = z := ⟨_, rfl⟩
        have b92 : 0 ≤ v92 ∧ v92 ≤ 255 := by rw [← e92]; exact hI_M85 598 79 (by decide)
        have y93 : M85 598 79 = v92 := e92
        obtain ⟨v94, e94⟩ : ∃ z, M85 598 80 = z := ⟨_, rfl⟩
        have b94 : 0 ≤ v94 ∧ v94 ≤ 7 := by rw [← e94]; exact hI_M85 598 80 (by decide)
        have y95 : M85 598 80 = v94 := e94
        have e96 : M85 598 89 = v77 := ((w85_51 89 (by decide) (by decide) (by decide) (by decide) (by decide) (by decide) (by decide) (by decide) (by decide) (by decide) (by decide)).trans ((ju_i _ _ (by decide)).trans ((ju_c _ _ (by decide)).trans ((ju_c _ _ (by decide)).trans e77))))
        have y97 : M85 598 89 = v77 := e96
        have e98 : M85 598 90 = v57 + 1 := ((w85_51 90 (by decide) (by decide) (by decide) (by decide) (by decide) (by decide) (by decide) (by decide) (by decide) (by decide) (by decide)).trans (ju_same _ _ _ _))
        have y99 : M85 598 90 = v57 + 1 := e98
        obtain ⟨v100, e100⟩ : ∃ z, M 598 96 = z := ⟨_, rfl⟩
        have b100 : 0 ≤ v100 ∧ v100 ≤ 300 := by rw [← e100]; exact hI_M 598 96 (by decide)
        have e101 : M1 598 96 = v100 := ((wG1 96 (by decide) (by decide) (by decide) (by decide) (by decide) (by decide) (by decide) (by decide) (by decide) (by decide) (by decide) (by decide) (by decide)).trans e100)
        have e102 : M85 598 96 = v100 := ((w85_51 96 (by decide) (by decide) (by decide) (by decide) (by decide) (by decide) (by decide) (by decide) (by decide) (by decide) (by decide)).trans ((ju_i _ _ (by decide)).trans ((ju_c _ _ (by decide)).trans ((ju_c _ _ (by decide)).trans e101))))
        have y103 : M85 598 96 = v100 := e102
        obtain ⟨v104, e104⟩ : ∃ z, M85 598 100 = z := ⟨_, rfl⟩
        have b104 : 0 ≤ v104 ∧ v104 ≤ 13 := by rw [← e104]; exact hI_M85 598 100 (by decide)
        have y105 : M85 598 100 = v104 := e104
        obtain ⟨v106, e106⟩ : ∃ z, M85 598 107 = z := ⟨_, rfl⟩
        have b106 : 0 ≤ v106 ∧ v106 ≤ 16 := by rw [← e106]; exact hI_M85 598 107 (by decide)
        have y107 : M85 598 107 = v106 := e106
        obtain ⟨v108, e108⟩ : ∃ z, M85 598 75 = z := ⟨_, rfl⟩
        have b108 : 0 ≤ v108 ∧ v108 ≤ 1600 := by rw [← e108]; exact hI_M85 598 75 (by decide)
        have y109 : M85 598 75 = v108 := e108
        obtain ⟨v110, e110⟩ : ∃ z, M85 598 81 = z := ⟨_, rfl⟩
        have b110 : (-1) ≤ v110 ∧ v110 ≤ 1600 := by rw [← e110]; exact hI_M85 598 81 (by decide)
        have y111 : M85 598 81 = v110 := e110
        have e112 : M85 598 101 = v81 := ((w85_51 101 (by decide) (by decide) (by decide) (by decide) (by decide) (by decide) (by decide) (by decide) (by decide) (by decide) (by decide)).trans ((ju_i _ _ (by decide)).trans ((ju_c _ _ (by decide)).trans ((ju_c _ _ (by decide)).trans e82))))
        have y113 : M85 598 101 = v81 := e112
        exact jr.vreturn rfl rfl (q _ hI_M85 hH_M85 hS_M85  (by exact Or.inr ⟨⟨by omega, XS.adj hX (k' := 0) (z' := 0) (by omega) (by omega) (by omega), by omega, by omega, by omega, by omega, hB, hA, by omega⟩, by omega⟩) (by omega) (by omega) (by omega) (by omega) hT85 (fun q => by exfalso; omega) (fun _ => ⟨_, ak, hK85, (AKr.fr (AKr.fr (AKr.fr (AKr.fr (AKr.fr hAK (fun i => wF1 661 i (by decide) (by decide) (by decide) (by decide) (by decide) (by decide) (by decide)) (fun i => wF1 662 i (by decide) (by decide) (by decide) (by decide) (by decide) (by decide) (by decide)) (wG1 96 (by decide) (by decide) (by decide) (by decide) (by decide) (by decide) (by decide) (by decide) (by decide) (by decide) (by decide) (by decide) (by decide))) (fun i => ju_c _ _ (by decide)) (fun i => ju_c _ _ (by decide)) (ju_c _ _ (by decide))) (fun i => ju_c _ _ (by decide)) (fun i => ju_c _ _ (by decide)) (ju_c _ _ (by decide))) (fun i => ju_c _ _ (by decide)) (fun i => ju_c _ _ (by decide)) (ju_i _ _ (by decide))) (fun i => w85_50 661 i (by decide) (by decide) (by decide)) (fun i => w85_50 662 i (by decide) (by decide) (by decide)) (w85_51 96 (by decide) (by decide) (by decide) (by decide) (by decide) (by decide) (by decide) (by decide) (by decide) (by decide) (by decide))), (zr.eqx (zr.ifb hzx hrx qs85 (by omega)) rfl rfl (by omega) (by omega) (by omega) (by rw [(bl85.trans (by rw [(((blr_fr (fun i => ju_c _ _ (by decide)) (ju_i _ _ (by decide))).trans ((blr_fr (fun i => ju_c _ _ (by decide)) (ju_c _ _ (by decide))).trans ((blr_fr (fun i => ju_c _ _ (by decide)) (ju_c _ _ (by decide))).trans rfl)))).trans (blx.trans rfl)]))]))⟩) (fun q => by omega) (fun a i f598 f659 f660 f661 f662 f663 f664 f665 f666 f667 f668 f669 => ((w85_50 a i f598 f668 f669).trans ((ju_c _ _ f598).trans ((ju_c _ _ f660).trans ((ju_c _ _ f659).trans ((wF1 a i f598 f659 f660 f664 f665 f666 f667).trans (hF_M a i f598 f659 f660 f661 f662 f663 f664 f665 f666 f667 f668 f669))))))) (fun i g73 g74 g75 g76 g77 g78 g79 g80 g81 g89 g90 g96 g100 g102 g107 => ((w85_51 i g73 g74 g75 g76 g77 g78 g79 g80 g81 g100 g107).trans ((ju_i _ _ g90).trans ((ju_c _ _ (by decide)).trans ((ju_c _ _ (by decide)).trans ((wG1 i g73 g74 g75 g76 g77 g78 g79 g80 g81 g89 g90 g100 g102).trans (hG_M i g73 g74 g75 g76 g77 g78 g79 g80 g81 g89 g90 g96 g100 g102 g107))))))))
      · have y69 : (ju (ju (ju M1 659 v57 1) 660 v57 0) 598 90 (v57 + 1)) 598 73 = v63 := ((ju_i _ _ (by decide)).trans ((ju_c _ _ (by decide)).trans ((ju_c _ _ (by decide)).trans e63)))
        have y70 : (ju (ju (ju M1 659 v57 1) 660 v57 0) 598 90 (v57 + 1)) 598 74 = v67 := ((ju_i _ _ (by decide)).trans ((ju_c _ _ (by decide)).trans ((ju_c _ _ (by decide)).trans e67)))
        have y72 : (ju (ju (ju M1 659 v57 1) 660 v57 0) 598 90 (v57 + 1)) 598 75 = v71 := ((ju_i _ _ (by decide)).trans ((ju_c _ _ (by decide)).trans ((ju_c _ _ (by decide)).trans e71)))
        have y73 : (ju (ju (ju M1 659 v57 1) 660 v57 0) 598 90 (v57 + 1)) 598 79 = v68 := ((ju_i _ _ (by decide)).trans ((ju_c _ _ (by decide)).trans ((ju_c _ _ (by decide)).trans e68)))
        have y74 : (ju (ju (ju M1 659 v57 1) 660 v57 0) 598 90 (v57 + 1)) 598 80 = v66 := ((ju_i _ _ (by decide)).trans ((ju_c _ _ (by decide)).trans ((ju_c _ _ (by decide)).trans e66)))
        have y76 : (ju (ju (ju M1 659 v57 1) 660 v57 0) 598 90 (v57 + 1)) 598 81 = v75 := ((ju_i _ _ (by decide)).trans ((ju_c _ _ (by decide)).trans ((ju_c _ _ (by decide)).trans e75)))
        have y78 : (ju (ju (ju M1 659 v57 1) 660 v57 0) 598 90 (v57 + 1)) 598 89 = v77 := ((ju_i _ _ (by decide)).trans ((ju_c _ _ (by decide)).trans ((ju_c _ _ (by decide)).trans e77)))
        have y79 : (ju (ju (ju M1 659 v57 1) 660 v57 0) 598 90 (v57 + 1)) 598 90 = v57 + 1 := (ju_same _ _ _ _)
        have y80 : (ju (ju (ju M1 659 v57 1) 660 v57 0) 598 90 (v57 + 1)) 598 100 = v58 := ((ju_i _ _ (by decide)).trans ((ju_c _ _ (by decide)).trans ((ju_c _ _ (by decide)).trans e58)))
        have y83 : (ju (ju (ju M1 659 v57 1) 660 v57 0) 598 90 (v57 + 1)) 598 101 = v81 := ((ju_i _ _ (by decide)).trans ((ju_c _ _ (by decide)).trans ((ju_c _ _ (by decide)).trans e82)))
        have y84 : (ju (ju (ju M1 659 v57 1) 660 v57 0) 598 90 (v57 + 1)) 598 107 = v60 := ((ju_i _ _ (by decide)).trans ((ju_c _ _ (by decide)).trans ((ju_c _ _ (by decide)).trans e61)))
        have tb85 : TK (ju (ju (ju M1 659 v57 1) 660 v57 0) 598 90 (v57 + 1)) = TK M1 := ((TK.o (Or.inr ⟨by decide, by decide⟩)).trans ((TK.o (Or.inl (by decide))).trans ((TK.o (Or.inl (by decide))).trans rfl)))
        have x85_72 := w85_51 72 (by decide) (by decide) (by decide) (by decide) (by decide) (by decide) (by decide) (by decide) (by decide) (by decide) (by decide)
        have x85_89 := w85_51 89 (by decide) (by decide) (by decide) (by decide) (by decide) (by decide) (by decide) (by decide) (by decide) (by decide) (by decide)
        have x85_101 := w85_51 101 (by decide) (by decide) (by decide) (by decide) (by decide) (by decide) (by decide) (by decide) (by decide) (by decide) (by decide)
        have x85_88 := w85_51 88 (by decide) (by decide) (by decide) (by decide) (by decide) (by decide) (by decide) (by decide) (by decide) (by decide) (by decide)
        have x85_96 := w85_51 96 (by decide) (by decide) (by decide) (by decide) (by decide) (by decide) (by decide) (by decide) (by decide) (by decide) (by decide)
        have x85_90 := w85_51 90 (by decide) (by decide) (by decide) (by decide) (by decide) (by decide) (by decide) (by decide) (by decide) (by decide) (by decide)
        have zfz : zr f N xs (zft (M85 598 80) (M85 598 81)) := zr.fe (zr.ifd hzx hrx qs85 (by omega)) (by omega) (by omega)
        have e114 : M85 598 72 = v64 := ((w85_51 72 (by decide) (by decide) (by decide) (by decide) (by decide) (by decide) (by decide) (by decide) (by decide) (by decide) (by decide)).trans ((ju_i _ _ (by decide)).trans ((ju_c _ _ (by decide)).trans ((ju_c _ _ (by decide)).trans e65))))
        have y115 : M85 598 72 = v64 := e114
        obtain ⟨v116, e116⟩ : ∃ z, M85 598 73 = z := ⟨_, rfl⟩
        have b116 : 0 ≤ v116 ∧ v116 ≤ 1600 := by rw [← e116]; exact hI_M85 598 73 (by decide)
        have y117 : M85 598 73 = v116 := e116
        obtain ⟨v118, e118⟩ : ∃ z, M85 598 74 = z := ⟨_, rfl⟩
        have b118 : 0 ≤ v118 ∧ v118 ≤ 4 := by rw [← e118]; exact hI_M85 598 74 (by decide)
        have y119 : M85 598 74 = v118 := e118
        obtain ⟨v120, e120⟩ : ∃ z, M85 598 79 = z := ⟨_, rfl⟩
        have b120 : 0 ≤ v120 ∧ v120 ≤ 255 := by rw [← e120]; exact hI_M85 598 79 (by decide)
        have y121 : M85 598 79 = v120 := e120
        obtain ⟨v122, e122⟩ : ∃ z, M85 598 80 = z := ⟨_, rfl⟩
        have b122 : 0 ≤ v122 ∧ v122 ≤ 7 := by rw [← e122]; exact hI_M85 598 80 (by decide)
        have y123 : M85 598 80 = v122 := e122
        have e124 : M85 598 89 = v77 := ((w85_51 89 (by decide) (by decide) (by decide) (by decide) (by decide) (by decide) (by decide) (by decide) (by decide) (by decide) (by decide)).trans ((ju_i _ _ (by decide)).trans ((ju_c _ _ (by decide)).trans ((ju_c _ _ (by decide)).trans e77))))
        have y125 : M85 598 89 = v77 := e124
        have e126 : M85 598 90 = v57 + 1 := ((w85_51 90 (by decide) (by decide) (by decide) (by decide) (by decide) (by decide) (by decide) (by decide) (by decide) (by decide) (by decide)).trans (ju_same _ _ _ _))
        have y127 : M85 598 90 = v57 + 1 := e126
        obtain ⟨v128, e128⟩ : ∃ z, M 598 96 = z := ⟨_, rfl⟩
        have b128 : 0 ≤ v128 ∧ v128 ≤ 300 := by rw [← e128]; exact hI_M 598 96 (by decide)
        have e129 : M1 598 96 = v128 := ((wG1 96 (by decide) (by decide) (by decide) (by decide) (by decide) (by decide) (by decide) (by decide) (by decide) (by decide) (by decide) (by decide) (by decide)).trans e128)
        have e130 : M85 598 96 = v128 := ((w85_51 96 (by decide) (by decide) (by decide) (by decide) (by decide) (by decide) (by decide) (by decide) (by decide) (by decide) (by decide)).trans ((ju_i _ _ (by decide)).trans ((ju_c _ _ (by decide)).trans ((ju_c _ _ (by decide)).trans e129))))
        have y131 : M85 598 96 = v128 := e130
        obtain ⟨v132, e132⟩ : ∃ z, M85 598 100 = z := ⟨_, rfl⟩
        have b132 : 0 ≤ v132 ∧ v132 ≤ 13 := by rw [← e132]; exact hI_M85 598 100 (by decide)
        have y133 : M85 598 100 = v132 := e132
        obtain ⟨v134, e134⟩ : ∃ z, M85 598 107 = z := ⟨_, rfl⟩
        have b134 : 0 ≤ v134 ∧ v134 ≤ 16 := by rw [← e134]; exact hI_M85 598 107 (by decide)
        have y135 : M85 598 107 = v134 := e134
        obtain ⟨v136, e136⟩ : ∃ z, M85 598 75 = z := ⟨_, rfl⟩
        have b136 : 0 ≤ v136 ∧ v136 ≤ 1600 := by rw [← e136]; exact hI_M85 598 75 (by decide)
        have y137 : M85 598 75 = v136 := e136
        obtain ⟨v138, e138⟩ : ∃ z, M85 598 81 = z := ⟨_, rfl⟩
        have b138 : (-1) ≤ v138 ∧ v138 ≤ 1600 := by rw [← e138]; exact hI_M85 598 81 (by decide)
        have y139 : M85 598 81 = v138 := e138
        have e140 : M85 598 101 = v81 := ((w85_51 101 (by decide) (by decide) (by decide) (by decide) (by decide) (by decide) (by decide) (by decide) (by decide) (by decide) (by decide)).trans ((ju_i _ _ (by decide)).trans ((ju_c _ _ (by decide)).trans ((ju_c _ _ (by decide)).trans e82))))
        have y141 : M85 598 101 = v81 := e140
        exact jr.vreturn rfl rfl (q _ hI_M85 hH_M85 hS_M85  (Or.inl ⟨by omega, by omega⟩) (by omega) (by omega) (by omega) (by omega) hT85 (fun _ => zr.fe zfz (by omega) (by omega)) (fun q => by exfalso; omega) (fun q => by omega) (fun a i f598 f659 f660 f661 f662 f663 f664 f665 f666 f667 f668 f669 => ((w85_50 a i f598 f668 f669).trans ((ju_c _ _ f598).trans ((ju_c _ _ f660).trans ((ju_c _ _ f659).trans ((wF1 a i f598 f659 f660 f664 f665 f666 f667).trans (hF_M a i f598 f659 f660 f661 f662 f663 f664 f665 f666 f667 f668 f669))))))) (fun i g73 g74 g75 g76 g77 g78 g79 g80 g81 g89 g90 g96 g100 g102 g107 => ((w85_51 i g73 g74 g75 g76 g77 g78 g79 g80 g81 g100 g107).trans ((ju_i _ _ g90).trans ((ju_c _ _ (by decide)).trans ((ju_c _ _ (by decide)).trans ((wG1 i g73 g74 g75 g76 g77 g78 g79 g80 g81 g89 g90 g100 g102).trans (hG_M i g73 g74 g75 g76 g77 g78 g79 g80 g81 g89 g90 g96 g100 g102 g107))))))))
      · have y69 : (ju (ju (ju M1 659 v57 1) 660 v57 0) 598 90 (v57 + 1)) 598 73 = v63 := ((ju_i _ _ (by decide)).trans ((ju_c _ _ (by decide)).trans ((ju_c _ _ (by decide)).trans e63)))
        have y70 : (ju (ju (ju M1 659 v57 1) 660 v57 0) 598 90 (v57 + 1)) 598 74 = v67 := ((ju_i _ _ (by decide)).trans ((ju_c _ _ (by decide)).trans ((ju_c _ _ (by decide)).trans e67)))
        have y72 : (ju (ju (ju M1 659 v57 1) 660 v57 0) 598 90 (v57 + 1)) 598 75 = v71 := ((ju_i _ _ (by decide)).trans ((ju_c _ _ (by decide)).trans ((ju_c _ _ (by decide)).trans e71)))
        have y73 : (ju (ju (ju M1 659 v57 1) 660 v57 0) 598 90 (v57 + 1)) 598 79 = v68 := ((ju_i _ _ (by decide)).trans ((ju_c _ _ (by decide)).trans ((ju_c _ _ (by decide)).trans e68)))
        have y74 : (ju (ju (ju M1 659 v57 1) 660 v57 0) 598 90 (v57 + 1)) 598 80 = v66 := ((ju_i _ _ (by decide)).trans ((ju_c _ _ (by decide)).trans ((ju_c _ _ (by decide)).trans e66)))
        have y76 : (ju (ju (ju M1 659 v57 1) 660 v57 0) 598 90 (v57 + 1)) 598 81 = v75 := ((ju_i _ _ (by decide)).trans ((ju_c _ _ (by decide)).trans ((ju_c _ _ (by decide)).trans e75)))
        have y78 : (ju (ju (ju M1 659 v57 1) 660 v57 0) 598 90 (v57 + 1)) 598 89 = v77 := ((ju_i _ _ (by decide)).trans ((ju_c _ _ (by decide)).trans ((ju_c _ _ (by decide)).trans e77)))
        have y79 : (ju (ju (ju M1 659 v57 1) 660 v57 0) 598 90 (v57 + 1)) 598 90 = v57 + 1 := (ju_same _ _ _ _)
        have y80 : (ju (ju (ju M1 659 v57 1) 660 v57 0) 598 90 (v57 + 1)) 598 100 = v58 := ((ju_i _ _ (by decide)).trans ((ju_c _ _ (by decide)).trans ((ju_c _ _ (by decide)).trans e58)))
        have y83 : (ju (ju (ju M1 659 v57 1) 660 v57 0) 598 90 (v57 + 1)) 598 101 = v81 := ((ju_i _ _ (by decide)).trans ((ju_c _ _ (by decide)).trans ((ju_c _ _ (by decide)).trans e82)))
        have y84 : (ju (ju (ju M1 659 v57 1) 660 v57 0) 598 90 (v57 + 1)) 598 107 = v60 := ((ju_i _ _ (by decide)).trans ((ju_c _ _ (by decide)).trans ((ju_c _ _ (by decide)).trans e61)))
        have tb85 : TK (ju (ju (ju M1 659 v57 1) 660 v57 0) 598 90 (v57 + 1)) = TK M1 := ((TK.o (Or.inr ⟨by decide, by decide⟩)).trans ((TK.o (Or.inl (by decide))).trans ((TK.o (Or.inl (by decide))).trans rfl)))
        have x85_72 := w85_51 72 (by decide) (by decide) (by decide) (by decide) (by decide) (by decide) (by decide) (by decide) (by decide) (by decide) (by decide)
        have x85_89 := w85_51 89 (by decide) (by decide) (by decide) (by decide) (by decide) (by decide) (by decide) (by decide) (by decide) (by decide) (by decide)
        have x85_101 := w85_51 101 (by decide) (by decide) (by decide) (by decide) (by decide) (by decide) (by decide) (by decide) (by decide) (by decide) (by decide)
        have x85_88 := w85_51 88 (by decide) (by decide) (by decide) (by decide) (by decide) (by decide) (by decide) (by decide) (by decide) (by decide) (by decide)
        have x85_96 := w85_51 96 (by decide) (by decide) (by decide) (by decide) (by decide) (by decide) (by decide) (by decide) (by decide) (by decide) (by decide)
        have x85_90 := w85_51 90 (by decide) (by decide) (by decide) (by decide) (by decide) (by decide) (by decide) (by decide) (by decide) (by decide) (by decide)
        have zfz : zr f N xs (zft (M85 598 80) (M85 598 81)) := zr.rfz (zr.iffa hzx hrx qs85) q085 q185
        have e142 : M85 598 72 = v64 := ((w85_51 72 (by decide) (by decide) (by decide) (by decide) (by decide) (by decide) (by decide) (by decide) (by decide) (by decide) (by decide)).trans ((ju_i _ _ (by decide)).trans ((ju_c _ _ (by decide)).trans ((ju_c _ _ (by decide)).trans e65))))
        have y143 : M85 598 72 = v64 := e142
        obtain ⟨v144, e144⟩ : ∃ z, M85 598 73 = z := ⟨_, rfl⟩
        have b144 : 0 ≤ v144 ∧ v144 ≤ 1600 := by rw [← e144]; exact hI_M85 598 73 (by decide)
        have y145 : M85 598 73 = v144 := e144
        obtain ⟨v146, e146⟩ : ∃ z, M85 598 74 = z := ⟨_, rfl⟩
        have b146 : 0 ≤ v146 ∧ v146 ≤ 4 := by rw [← e146]; exact hI_M85 598 74 (by decide)
        have y147 : M85 598 74 = v146 := e146
        obtain ⟨v148, e148⟩ : ∃ z, M85 598 79 = z := ⟨_, rfl⟩
        have b148 : 0 ≤ v148 ∧ v148 ≤ 255 := by rw [← e148]; exact hI_M85 598 79 (by decide)
        have y149 : M85 598 79 = v148 := e148
        obtain ⟨v150, e150⟩ : ∃ z, M85 598 80 = z := ⟨_, rfl⟩
        have b150 : 0 ≤ v150 ∧ v150 ≤ 7 := by rw [← e150]; exact hI_M85 598 80 (by decide)
        have y151 : M85 598 80 = v150 := e150
        have e152 : M85 598 89 = v77 := ((w85_51 89 (by decide) (by decide) (by decide) (by decide) (by decide) (by decide) (by decide) (by decide) (by decide) (by decide) (by decide)).trans ((ju_i _ _ (by decide)).trans ((ju_c _ _ (by decide)).trans ((ju_c _ _ (by decide)).trans e77))))
        have y153 : M85 598 89 = v77 := e152
        have e154 : M85 598 90 = v57 + 1 := ((w85_51 90 (by decide) (by decide) (by decide) (by decide) (by decide) (by decide) (by decide) (by decide) (by decide) (by decide) (by decide)).trans (ju_same _ _ _ _))
        have y155 : M85 598 90 = v57 + 1 := e154
        obtain ⟨v156, e156⟩ : ∃ z, M 598 96 = z := ⟨_, rfl⟩
        have b156 : 0 ≤ v156 ∧ v156 ≤ 300 := by rw [← e156]; exact hI_M 598 96 (by decide)
        have e157 : M1 598 96 = v156 := ((wG1 96 (by decide) (by decide) (by decide) (by decide) (by decide) (by decide) (by decide) (by decide) (by decide) (by decide) (by decide) (by decide) (by decide)).trans e156)
        have e158 : M85 598 96 = v156 := ((w85_51 96 (by decide) (by decide) (by decide) (by decide) (by decide) (by decide) (by decide) (by decide) (by decide) (by decide) (by decide)).trans ((ju_i _ _ (by decide)).trans ((ju_c _ _ (by decide)).trans ((ju_c _ _ (by decide)).trans e157))))
        have y159 : M85 598 96 = v156 := e158
        obtain ⟨v160, e160⟩ : ∃ z, M85 598 100 = z := ⟨_, rfl⟩
        have b160 : 0 ≤ v160 ∧ v160 ≤ 13 := by rw [← e160]; exact hI_M85 598 100 (by decide)
        have y161 : M85 598 100 = v160 := e160
        obtain ⟨v162, e162⟩ : ∃ z, M85 598 107 = z := ⟨_, rfl⟩
        have b162 : 0 ≤ v162 ∧ v162 ≤ 16 := by rw [← e162]; exact hI_M85 598 107 (by decide)
        have y163 : M85 598 107 = v162 := e162
        obtain ⟨v164, e164⟩ : ∃ z, M85 598 75 = z := ⟨_, rfl⟩
        have b164 : 0 ≤ v164 ∧ v164 ≤ 1600 := by rw [← e164]; exact hI_M85 598 75 (by decide)
        have y165 : M85 598 75 = v164 := e164
        obtain ⟨v166, e166⟩ : ∃ z, M85 598 81 = z := ⟨_, rfl⟩
        have b166 : (-1) ≤ v166 ∧ v166 ≤ 1600 := by rw [← e166]; exact hI_M85 598 81 (by decide)
        have y167 : M85 598 81 = v166 := e166
        have e168 : M85 598 101 = v81 := ((w85_51 101 (by decide) (by decide) (by decide) (by decide) (by decide) (by decide) (by decide) (by decide) (by decide) (by decide) (by decide)).trans ((ju_i _ _ (by decide)).trans ((ju_c _ _ (by decide)).trans ((ju_c _ _ (by decide)).trans e82))))
        have y169 : M85 598 101 = v81 := e168
        exact jr.vreturn rfl rfl (q _ hI_M85 hH_M85 hS_M85  (Or.inl ⟨by omega, by omega⟩) (by omega) (by omega) (by omega) (by omega) hT85 (fun _ => zr.fe zfz (by omega) (by omega)) (fun q => by exfalso; omega) (fun q => by omega) (fun a i f598 f659 f660 f661 f662 f663 f664 f665 f666 f667 f668 f669 => ((w85_50 a i f598 f668 f669).trans ((ju_c _ _ f598).trans ((ju_c _ _ f660).trans ((ju_c _ _ f659).trans ((wF1 a i f598 f659 f660 f664 f665 f666 f667).trans (hF_M a i f598 f659 f660 f661 f662 f663 f664 f665 f666 f667 f668 f669))))))) (fun i g73 g74 g75 g76 g77 g78 g79 g80 g81 g89 g90 g96 g100 g102 g107 => ((w85_51 i g73 g74 g75 g76 g77 g78 g79 g80 g81 g100 g107).trans ((ju_i _ _ g90).trans ((ju_c _ _ (by decide)).trans ((ju_c _ _ (by decide)).trans ((wG1 i g73 g74 g75 g76 g77 g78 g79 g80 g81 g89 g90 g100 g102).trans (hG_M i g73 g74 g75 g76 g77 g78 g79 g80 g81 g89 g90 g96 g100 g102 g107))))))))
set_option maxHeartbeats 8000000 in
theorem r_deed_L63_z {A : Nat → Option (Nat × (Nat → Int32))} {Q : Option Value → jm → Prop} {f : Int → Int} {N : Int} {xs : ZS} {t : Int} {nm ak : List Int} {M0 : jm} (q : ∀ (M' : jm), RI M' → RH M' → RF M' → (BT M' ∨ (DS M' 0 ∧ TK M' < TK M0)) → TK M' ≤ TK M0 → M' 598 73 ≤ M' 598 72 → (M' 598 80 ≠ 0 ∨ TK M' < TK M0) → M0 598 107 ≤ M' 598 107 → TXr f N M' → ZFQ f N xs M' → ZDPQ f N xs M' nm → K8Q M0 M' → (∀ (a : Nat) (i : Int), a ≠ 598 → a ≠ 659 → a ≠ 660 → a ≠ 661 → a ≠ 662 → a ≠ 663 → a ≠ 664 → a ≠ 665 → a ≠ 666 → a ≠ 667 → a ≠ 668 → a ≠ 669 → M' a i = M0 a i) → (∀ (i : Int), i ≠ 73 → i ≠ 74 → i ≠ 75 → i ≠ 76 → i ≠ 77 → i ≠ 78 → i ≠ 79 → i ≠ 80 → i ≠ 81 → i ≠ 89 → i ≠ 90 → i ≠ 96 → i ≠ 100 → i ≠ 102 → i ≠ 107 → M' 598 i = M0 598 i) → Q none M') : ∀ (M : jm) (w : Int), RI M → RH M → RF M → (∀ (a : Nat) (i : Int), a ≠ 598 → a ≠ 659 → a ≠ 660 → a ≠ 661 → a ≠ 662 → a ≠ 663 → a ≠ 664 → a ≠ 665 → a ≠ 666 → a ≠ 667 → a ≠ 668 → a ≠ 669 → M a i = M0 a i) → (∀ (i : Int), i ≠ 73 → i ≠ 74 → i ≠ 75 → i ≠ 76 → i ≠ 77 → i ≠ 78 → i ≠ 79 → i ≠ 80 → i ≠ 81 → i ≠ 89 → i ≠ 90 → i ≠ 96 → i ≠ 100 → i ≠ 102 → i ≠ 107 → M 598 i = M0 598 i) → 2 ≤ w ∧ w ≤ 18 → XS M 0 (2 + 2 + 2) 0 0 (-1) → AK M → M 598 80 = 0 → M 598 96 < M 598 89 ∧ M 598 89 ≤ 300 → M 598 100 ≤ 12 → M 598 73 ≤ M 598 72 → 1 ≤ M 598 107 ∧ M 598 107 = M0 598 107 → 1 ≤ M 598 88 → (M 598 74 = 3 → M 598 79 ≠ 10 ∧ M 598 79 ≠ 11) → TK M = TK M0 → M 598 74 = 1 → (w = 2 ∨ 4 ≤ w) → TKr f N t M → zr f N xs (1, t, M 598 89 - 1, M 598 100, 0, M 598 101, blr M, nm, ak) → AKr f N M ak → w = zwd f N t → zso f N t = 1 → (w = 2 ∨ (4 ≤ w ∧ w ≤ 18 ∧ ¬ (M 598 101 = 1 ∧ w ≤ 9))) → M 598 81 = M0 598 81 → jr A 7 xm_367 63 [(1, .int (Int32.ofInt (w))), (0, .ref (598))] [] M Q := by
    intro M w hI_M hH_M hS_M hF_M hG_M h_w hy0 hy1 hy2 hy3 hy4 hy5 hy6 hy7 hy8 hy9 hy10 hy11 hy12 hy13 hy14 hy15 hy16 hy17 hy18
    have hX := hy0
    have hA := hy1
    have dpx := XS.dep hy0
    have sl := XS.sgle hy0
    have bM_107 : (0 : Int) ≤ M 598 107 ∧ M 598 107 ≤ 16 := hI_M 598 107 (by decide)
    have bM_73 : (0 : Int) ≤ M 598 73 ∧ M 598 73 ≤ 1600 := hI_M 598 73 (by decide)
    have bM_88 : (0 : Int) ≤ M 598 88 ∧ M 598 88 ≤ 16 := hI_M 598 88 (by decide)
    have bM_100 : (0 : Int) ≤ M 598 100 ∧ M 598 100 ≤ 13 := hI_M 598 100 (by decide)
    have nn0 := (ndo_le (20 + w)).1
    have hK := hy12
    have kk0 := hK.kz
    have hT := hK.1
    have hz := hy13
    have hAK := hy14
    have hne := blr_ne (M := M) (by omega)
    refine jr.aload_n rfl rfl ?_
    refine jr.iconst rfl ?_
    refine jr.lconst (x := 0) rfl (by decide) ?_
    obtain ⟨v1, e1⟩ : ∃ z, M 598 90 = z := ⟨_, rfl⟩
    have b1 : 0 ≤ v1 ∧ v1 ≤ 2200 := by rw [← e1]; exact hI_M 598 90 (by decide)
    obtain ⟨v2, e2⟩ : ∃ z, M 598 100 = z := ⟨_, rfl⟩
    have b2 : 0 ≤ v2 ∧ v2 ≤ 13 := by rw [← e2]; exact hI_M 598 100 (by decide)
    obtain ⟨v4, e4⟩ : ∃ z, M 598 107 = z := ⟨_, rfl⟩
    have b4 : 0 ≤ v4 ∧ v4 ≤ 16 := by rw [← e4]; exact hI_M 598 107 (by decide)
    refine jr_v rfl rfl (Or.inl rfl) rfl rfl (by decide) rfl ⟨rfl, Nat.le_of_ble_eq_true rfl, Nat.le_of_ble_eq_true rfl⟩ rfl (jc.deep (r_emit e1 (by omega) (by omega) (by omega) ?_) (by decide))
    have y3 : M 598 100 = v2 := e2
    have y5 : M 598 107 = v4 := e4
    have hX := XS.step hX e1 (by omega) (by omega)
    have hA := AK.emit (op := 0) (a := 0) hA e1
    refine jr.aload_n rfl rfl ?_
    obtain ⟨v6, e6⟩ : ∃ z, M 598 73 = z := ⟨_, rfl⟩
    have b6 : 0 ≤ v6 ∧ v6 ≤ 1600 := by rw [← e6]; exact hI_M 598 73 (by decide)
    obtain ⟨v7, e7⟩ : ∃ z, M 598 72 = z := ⟨_, rfl⟩
    have b7 : 0 ≤ v7 ∧ v7 ≤ 1600 := by rw [← e7]; exact hI_M 598 72 (by decide)
    obtain ⟨v8, e8⟩ : ∃ z, M 598 80 = z := ⟨_, rfl⟩
    have b8 : 0 ≤ v8 ∧ v8 ≤ 7 := by rw [← e8]; exact hI_M 598 80 (by decide)
    obtain ⟨v9, e9⟩ : ∃ z, M 598 74 = z := ⟨_, rfl⟩
    have b9 : 0 ≤ v9 ∧ v9 ≤ 4 := by rw [← e9]; exact hI_M 598 74 (by decide)
    obtain ⟨v12, e12⟩ : ∃ z, M 598 75 = z := ⟨_, rfl⟩
    have b12 : 0 ≤ v12 ∧ v12 ≤ 1600 := by rw [← e12]; exact hI_M 598 75 (by decide)
    obtain ⟨v14, e14⟩ : ∃ z, M 598 79 = z := ⟨_, rfl⟩
    have b14 : 0 ≤ v14 ∧ v14 ≤ 255 := by rw [← e14]; exact hI_M 598 79 (by decide)
    obtain ⟨v17, e17⟩ : ∃ z, M 598 81 = z := ⟨_, rfl⟩
    have b17 : (-1) ≤ v17 ∧ v17 ≤ 1600 := by rw [← e17]; exact hI_M 598 81 (by decide)
    obtain ⟨v19, e19⟩ : ∃ z, M 598 89 = z := ⟨_, rfl⟩
    have b19 : 0 ≤ v19 ∧ v19 ≤ 301 := by rw [← e19]; exact hI_M 598 89 (by decide)
    refine jr_v rfl rfl (Or.inl rfl) rfl rfl (by decide) rfl ⟨rfl, Nat.le_of_ble_eq_true rfl, Nat.le_of_ble_eq_true rfl⟩ rfl (jc.deep (c_next_z (f := f) (N := N) (RI.u (RI.u (RI.u hI_M (a := 659) (i := v1) (by rw [xri_row rfl rfl]; show (0 : Int) ≤ _ ∧ _ ≤ (1000 : Int); omega)) (a := 660) (i := v1) (by rw [xri_row rfl rfl]; show (-9223372036854775808 : Int) ≤ _ ∧ _ ≤ (9223372036854775807 : Int); omega)) (a := 598) (i := 90) (show (0 : Int) ≤ _ ∧ _ ≤ (2200 : Int) from by omega)) (RH.o (RH.o (RH.o hH_M (by decide) (by decide) (by decide)) (by decide) (by decide) (by decide)) (by decide) (by decide) (by decide)) (RF.o (RF.o (RF.o hS_M (by decide) (by decide)) (by decide) (by decide)) (by decide) (by decide)) (by rw [((ju_i _ _ (by decide)).trans ((ju_c _ _ (by decide)).trans ((ju_c _ _ (by decide)).trans e6))), ((ju_i _ _ (by decide)).trans ((ju_c _ _ (by decide)).trans ((ju_c _ _ (by decide)).trans e7)))]; omega) (TKr.oo (TKr.cc (TKr.cc hK (by decide) (by decide) (by decide) (by decide)) (by decide) (by decide) (by decide) (by decide)) (by decide)) (by rw [((ju_i _ _ (by decide)).trans ((ju_c _ _ (by decide)).trans ((ju_c _ _ (by decide)).trans e8)))]; omega) (by rw [((ju_i _ _ (by decide)).trans ((ju_c _ _ (by decide)).trans ((ju_c _ _ (by decide)).trans e9)))]; omega) (fun M22 hI_M22 hH_M22 hS_M22 qa22 qb22 qt22 sn22 hK22 w22_50 w22_51 => ?_)) (by decide))
    have y10 : (ju (ju (ju M 659 v1 0) 660 v1 0) 598 90 (v1 + 1)) 598 73 = v6 := ((ju_i _ _ (by decide)).trans ((ju_c _ _ (by decide)).trans ((ju_c _ _ (by decide)).trans e6)))
    have y11 : (ju (ju (ju M 659 v1 0) 660 v1 0) 598 90 (v1 + 1)) 598 74 = v9 := ((ju_i _ _ (by decide)).trans ((ju_c _ _ (by decide)).trans ((ju_c _ _ (by decide)).trans e9)))
    have y13 : (ju (ju (ju M 659 v1 0) 660 v1 0) 598 90 (v1 + 1)) 598 75 = v12 := ((ju_i _ _ (by decide)).trans ((ju_c _ _ (by decide)).trans ((ju_c _ _ (by decide)).trans e12)))
    have y15 : (ju (ju (ju M 659 v1 0) 660 v1 0) 598 90 (v1 + 1)) 598 79 = v14 := ((ju_i _ _ (by decide)).trans ((ju_c _ _ (by decide)).trans ((ju_c _ _ (by decide)).trans e14)))
    have y16 : (ju (ju (ju M 659 v1 0) 660 v1 0) 598 90 (v1 + 1)) 598 80 = v8 := ((ju_i _ _ (by decide)).trans ((ju_c _ _ (by decide)).trans ((ju_c _ _ (by decide)).trans e8)))
    have y18 : (ju (ju (ju M 659 v1 0) 660 v1 0) 598 90 (v1 + 1)) 598 81 = v17 := ((ju_i _ _ (by decide)).trans ((ju_c _ _ (by decide)).trans ((ju_c _ _ (by decide)).trans e17)))
    have y20 : (ju (ju (ju M 659 v1 0) 660 v1 0) 598 90 (v1 + 1)) 598 89 = v19 := ((ju_i _ _ (by decide)).trans ((ju_c _ _ (by decide)).trans ((ju_c _ _ (by decide)).trans e19)))
    have y21 : (ju (ju (ju M 659 v1 0) 660 v1 0) 598 90 (v1 + 1)) 598 100 = v2 := ((ju_i _ _ (by decide)).trans ((ju_c _ _ (by decide)).trans ((ju_c _ _ (by decide)).trans e2)))
    have tb22 : TK (ju (ju (ju M 659 v1 0) 660 v1 0) 598 90 (v1 + 1)) = TK M := ((TK.o (Or.inr ⟨by decide, by decide⟩)).trans ((TK.o (Or.inl (by decide))).trans ((TK.o (Or.inl (by decide))).trans rfl)))
    have x22_72 := w22_51 72 (by decide) (by decide) (by decide) (by decide) (by decide) (by decide) (by decide)
    have x22_80 := w22_51 80 (by decide) (by decide) (by decide) (by decide) (by decide) (by decide) (by decide)
    have x22_81 := w22_51 81 (by decide) (by decide) (by decide) (by decide) (by decide) (by decide) (by decide)
    have x22_89 := w22_51 89 (by decide) (by decide) (by decide) (by decide) (by decide) (by decide) (by decide)
    have x22_100 := w22_51 100 (by decide) (by decide) (by decide) (by decide) (by decide) (by decide) (by decide)
    have hT22 := hK22.1
    have kk22 := hK22.kz
    have y23 : (ju (ju (ju M 659 v1 0) 660 v1 0) 598 90 (v1 + 1)) 598 73 = v6 := ((ju_i _ _ (by decide)).trans ((ju_c _ _ (by decide)).trans ((ju_c _ _ (by decide)).trans e6)))
    have y24 : (ju (ju (ju M 659 v1 0) 660 v1 0) 598 90 (v1 + 1)) 598 74 = v9 := ((ju_i _ _ (by decide)).trans ((ju_c _ _ (by decide)).trans ((ju_c _ _ (by decide)).trans e9)))
    have y25 : (ju (ju (ju M 659 v1 0) 660 v1 0) 598 90 (v1 + 1)) 598 89 = v19 := ((ju_i _ _ (by decide)).trans ((ju_c _ _ (by decide)).trans ((ju_c _ _ (by decide)).trans e19)))
    have y26 : (ju (ju (ju M 659 v1 0) 660 v1 0) 598 90 (v1 + 1)) 598 100 = v2 := ((ju_i _ _ (by decide)).trans ((ju_c _ _ (by decide)).trans ((ju_c _ _ (by decide)).trans e2)))
    have x22_89 := w22_51 89 (by decide) (by decide) (by decide) (by decide) (by decide) (by decide) (by decide)
    have x22_100 := w22_51 100 (by decide) (by decide) (by decide) (by decide) (by decide) (by decide) (by decide)
    have hX := XS.fr2 hX w22_50 (w22_51 88 (by decide) (by decide) (by decide) (by decide) (by decide) (by decide) (by decide)) (w22_51 90 (by decide) (by decide) (by decide) (by decide) (by decide) (by decide) (by decide)) (w22_51 101 (by decide) (by decide) (by decide) (by decide) (by decide) (by decide) (by decide)) (w22_51 107 (by decide) (by decide) (by decide) (by decide) (by decide) (by decide) (by decide)) (k' := 0 + 2 + 2) (d' := 0) (z' := 0) (by omega) (by omega) (by omega) (by omega)
    have hA := AK.cp hA (CP.f (CP.rfl _) (fun i => w22_50 659 i (by decide)) (w22_51 90 (by decide) (by decide) (by decide) (by decide) (by decide) (by decide) (by decide))) (fun i => w22_50 663 i (by decide)) (w22_51 96 (by decide) (by decide) (by decide) (by decide) (by decide) (by decide) (by decide))
    have x22_101 := w22_51 101 (by decide) (by decide) (by decide) (by decide) (by decide) (by decide) (by decide)
    have x22_107 := w22_51 107 (by decide) (by decide) (by decide) (by decide) (by decide) (by decide) (by decide)
    have x22_88 := w22_51 88 (by decide) (by decide) (by decide) (by decide) (by decide) (by decide) (by decide)
    have x22_96 := w22_51 96 (by decide) (by decide) (by decide) (by decide) (by decide) (by decide) (by decide)
    refine jr.iload_n rfl rfl ?_
    refine jr.iconst rfl ?_
    refine jr.icmp_ne rfl rfl (by omega) (by omega) (fun h75 => ?_) (fun h75 => ?_)
    · refine jr.iload_n rfl rfl ?_
      refine jr.bipush rfl (by decide) ?_
      refine jr.icmp_eq rfl rfl (by omega) (by omega) (fun h103 => ?_) (fun h103 => ?_)
      · have e27 : M22 598 80 = v8 := ((w22_51 80 (by decide) (by decide) (by decide) (by decide) (by decide) (by decide) (by decide)).trans ((ju_i _ _ (by decide)).trans ((ju_c _ _ (by decide)).trans ((ju_c _ _ (by decide)).trans e8))))
        obtain ⟨v28, e28⟩ : ∃ z, M 598 96 = z := ⟨_, rfl⟩
        have b28 : 0 ≤ v28 ∧ v28 ≤ 300 := by rw [← e28]; exact hI_M 598 96 (by decide)
        have e29 : M22 598 96 = v28 := ((w22_51 96 (by decide) (by decide) (by decide) (by decide) (by decide) (by decide) (by decide)).trans ((ju_i _ _ (by decide)).trans ((ju_c _ _ (by decide)).trans ((ju_c _ _ (by decide)).trans e28))))
        have e30 : M22 598 89 = v19 := ((w22_51 89 (by decide) (by decide) (by decide) (by decide) (by decide) (by decide) (by decide)).trans ((ju_i _ _ (by decide)).trans ((ju_c _ _ (by decide)).trans ((ju_c _ _ (by decide)).trans e19))))
        have e31 : M22 598 100 = v2 := ((w22_51 100 (by decide) (by decide) (by decide) (by decide) (by decide) (by decide) (by decide)).trans ((ju_i _ _ (by decide)).trans ((ju_c _ _ (by decide)).trans ((ju_c _ _ (by decide)).trans e2))))
        obtain ⟨v32, e32⟩ : ∃ z, M22 598 73 = z := ⟨_, rfl⟩
        have b32 : 0 ≤ v32 ∧ v32 ≤ 1600 := by rw [← e32]; exact hI_M22 598 73 (by decide)
        have e33 : M22 598 72 = v7 := ((w22_51 72 (by decide) (by decide) (by decide) (by decide) (by decide) (by decide) (by decide)).trans ((ju_i _ _ (by decide)).trans ((ju_c _ _ (by decide)).trans ((ju_c _ _ (by decide)).trans e7))))
        have e34 : M22 598 107 = v4 := ((w22_51 107 (by decide) (by decide) (by decide) (by decide) (by decide) (by decide) (by decide)).trans ((ju_i _ _ (by decide)).trans ((ju_c _ _ (by decide)).trans ((ju_c _ _ (by decide)).trans e4))))
        obtain ⟨v35, e35⟩ : ∃ z, M 598 88 = z := ⟨_, rfl⟩
        have b35 : 0 ≤ v35 ∧ v35 ≤ 16 := by rw [← e35]; exact hI_M 598 88 (by decide)
        have e36 : M22 598 88 = v35 := ((w22_51 88 (by decide) (by decide) (by decide) (by decide) (by decide) (by decide) (by decide)).trans ((ju_i _ _ (by decide)).trans ((ju_c _ _ (by decide)).trans ((ju_c _ _ (by decide)).trans e35))))
        obtain ⟨v37, e37⟩ : ∃ z, M22 598 74 = z := ⟨_, rfl⟩
        have b37 : 0 ≤ v37 ∧ v37 ≤ 4 := by rw [← e37]; exact hI_M22 598 74 (by decide)
        obtain ⟨v38, e38⟩ : ∃ z, M22 598 79 = z := ⟨_, rfl⟩
        have b38 : 0 ≤ v38 ∧ v38 ≤ 255 := by rw [← e38]; exact hI_M22 598 79 (by decide)
        have e39 : M22 598 90 = v1 + 1 := ((w22_51 90 (by decide) (by decide) (by decide) (by decide) (by decide) (by decide) (by decide)).trans (ju_same _ _ _ _))
        have e40 : M22 659 v1 = 0 := ((w22_50 659 v1 (by decide)).trans ((ju_c _ _ (by decide)).trans ((ju_c _ _ (by decide)).trans (ju_same _ _ _ _))))
        obtain ⟨v41, e41⟩ : ∃ z, M22 598 75 = z := ⟨_, rfl⟩
        have b41 : 0 ≤ v41 ∧ v41 ≤ 1600 := by rw [← e41]; exact hI_M22 598 75 (by decide)
        have y42 : M22 598 75 = v41 := e41
        have y43 : M22 598 80 = v8 := e27
        have e44 : M22 598 81 = v17 := ((w22_51 81 (by decide) (by decide) (by decide) (by decide) (by decide) (by decide) (by decide)).trans ((ju_i _ _ (by decide)).trans ((ju_c _ _ (by decide)).trans ((ju_c _ _ (by decide)).trans e17))))
        have y45 : M22 598 81 = v17 := e44
        have y46 : M22 598 89 = v19 := e30
        have y47 : M22 598 96 = v28 := e29
        have y48 : M22 598 100 = v2 := e31
        obtain ⟨v49, e49⟩ : ∃ z, M 598 101 = z := ⟨_, rfl⟩
        have b49 : 0 ≤ v49 ∧ v49 ≤ 1 := by rw [← e49]; exact hI_M 598 101 (by decide)
        have e50 : M22 598 101 = v49 := ((w22_51 101 (by decide) (by decide) (by decide) (by decide) (by decide) (by decide) (by decide)).trans ((ju_i _ _ (by decide)).trans ((ju_c _ _ (by decide)).trans ((ju_c _ _ (by decide)).trans e49))))
        have y51 : M22 598 101 = v49 := e50
        have y52 : M22 598 107 = v4 := e34
        refine jr.pick [0, 1] rfl rfl ?_
        exact r_deed_L112_z q M22 w hI_M22 hH_M22 hS_M22  (fun a i f598 f659 f660 f661 f662 f663 f664 f665 f666 f667 f668 f669 => ((w22_50 a i f598).trans ((ju_c _ _ f598).trans ((ju_c _ _ f660).trans ((ju_c _ _ f659).trans (hF_M a i f598 f659 f660 f661 f662 f663 f664 f665 f666 f667 f668 f669)))))) (fun i g73 g74 g75 g76 g77 g78 g79 g80 g81 g89 g90 g96 g100 g102 g107 => ((w22_51 i g73 g74 g75 g76 g77 g78 g79).trans ((ju_i _ _ g90).trans ((ju_c _ _ (by decide)).trans ((ju_c _ _ (by decide)).trans (hG_M i g73 g74 g75 g76 g77 g78 g79 g80 g81 g89 g90 g96 g100 g102 g107)))))) (by omega) hX hA (by rw [e27] <;> omega) (by rw [e29, e30] <;> omega) (by rw [e31] <;> omega) (by rw [e32, e33] <;> omega) (by rw [e34] <;> omega) (by rw [e36] <;> omega) (by rw [e37, e38] <;> omega) (by omega) (by rw [e29] <;> omega) (by rw [e39]; exact ⟨by omega, by rw [show v1 + 1 - 1 = v1 by omega]; exact e40⟩) hK22 (zr.eqx (hz) rfl rfl (by omega) (by omega) (by omega) (by rw [((blr_fr (fun i => w22_50 668 i (by decide)) (w22_51 107 (by decide) (by decide) (by decide) (by decide) (by decide) (by decide) (by decide))).trans ((blr_fr (fun i => ju_c _ _ (by decide)) (ju_i _ _ (by decide))).trans ((blr_fr (fun i => ju_c _ _ (by decide)) (ju_c _ _ (by decide))).trans ((blr_fr (fun i => ju_c _ _ (by decide)) (ju_c _ _ (by decide))).trans rfl))))])) (AKr.fr (AKr.fr (AKr.fr (AKr.fr hAK (fun i => ju_c _ _ (by decide)) (fun i => ju_c _ _ (by decide)) (ju_c _ _ (by decide))) (fun i => ju_c _ _ (by decide)) (fun i => ju_c _ _ (by decide)) (ju_c _ _ (by decide))) (fun i => ju_c _ _ (by decide)) (fun i => ju_c _ _ (by decide)) (ju_i _ _ (by decide))) (fun i => w22_50 661 i (by decide)) (fun i => w22_50 662 i (by decide)) (w22_51 96 (by decide) (by decide) (by decide) (by decide) (by decide) (by decide) (by decide))) (by omega) (by omega) (by omega) (by rw [e44] <;> omega)
      · refine jr.iload_n rfl rfl ?_
        refine jr.bipush rfl (by decide) ?_
        refine jr.icmp_ne rfl rfl (by omega) (by omega) (fun h109 => ?_) (fun h109 => ?_)
        · refine jr.iload_n rfl rfl ?_
          refine jr.bipush rfl (by decide) ?_
          refine jr.icmp_le rfl rfl (by omega) (by omega) (fun h183 => ?_) (fun h183 => ?_)
          · have e53 : M22 598 72 = v7 := ((w22_51 72 (by decide) (by decide) (by decide) (by decide) (by decide) (by decide) (by decide)).trans ((ju_i _ _ (by decide)).trans ((ju_c _ _ (by decide)).trans ((ju_c _ _ (by decide)).trans e7))))
            have y54 : M22 598 72 = v7 := e53
            obtain ⟨v55, e55⟩ : ∃ z, M22 598 73 = z := ⟨_, rfl⟩
            have b55 : 0 ≤ v55 ∧ v55 ≤ 1600 := by rw [← e55]; exact hI_M22 598 73 (by decide)
            have y56 : M22 598 73 = v55 := e55
            obtain ⟨v57, e57⟩ : ∃ z, M22 598 74 = z := ⟨_, rfl⟩
            have b57 : 0 ≤ v57 ∧ v57 ≤ 4 := by rw [← e57]; exact hI_M22 598 74 (by decide)
            have y58 : M22 598 74 = v57 := e57
            obtain ⟨v59, e59⟩ : ∃ z, M22 598 79 = z := ⟨_, rfl⟩
            have b59 : 0 ≤ v59 ∧ v59 ≤ 255 := by rw [← e59]; exact hI_M22 598 79 (by decide)
            have y60 : M22 598 79 = v59 := e59
            have e61 : M22 598 80 = v8 := ((w22_51 80 (by decide) (by decide) (by decide) (by decide) (by decide) (by decide) (by decide)).trans ((ju_i _ _ (by decide)).trans ((ju_c _ _ (by decide)).trans ((ju_c _ _ (by decide)).trans e8))))
            have y62 : M22 598 80 = v8 := e61
            have e63 : M22 598 89 = v19 := ((w22_51 89 (by decide) (by decide) (by decide) (by decide) (by decide) (by decide) (by decide)).trans ((ju_i _ _ (by decide)).trans ((ju_c _ _ (by decide)).trans ((ju_c _ _ (by decide)).trans e19))))
            have y64 : M22 598 89 = v19 := e63
            have e65 : M22 598 90 = v1 + 1 := ((w22_51 90 (by decide) (by decide) (by decide) (by decide) (by decide) (by decide) (by decide)).trans (ju_same _ _ _ _))
            have y66 : M22 598 90 = v1 + 1 := e65
            obtain ⟨v67, e67⟩ : ∃ z, M 598 96 = z := ⟨_, rfl⟩
            have b67 : 0 ≤ v67 ∧ v67 ≤ 300 := by rw [← e67]; exact hI_M 598 96 (by decide)
            have e68 : M22 598 96 = v67 := ((w22_51 96 (by decide) (by decide) (by decide) (by decide) (by decide) (by decide) (by decide)).trans ((ju_i _ _ (by decide)).trans ((ju_c _ _ (by decide)).trans ((ju_c _ _ (by decide)).trans e67))))
            have y69 : M22 598 96 = v67 := e68
            have e70 : M22 598 100 = v2 := ((w22_51 100 (by decide) (by decide) (by decide) (by decide) (by decide) (by decide) (by decide)).trans ((ju_i _ _ (by decide)).trans ((ju_c _ _ (by decide)).trans ((ju_c _ _ (by decide)).trans e2))))
            have y71 : M22 598 100 = v2 := e70
            have e72 : M22 598 107 = v4 := ((w22_51 107 (by decide) (by decide) (by decide) (by decide) (by decide) (by decide) (by decide)).trans ((ju_i _ _ (by decide)).trans ((ju_c _ _ (by decide)).trans ((ju_c _ _ (by decide)).trans e4))))
            have y73 : M22 598 107 = v4 := e72
            obtain ⟨v74, e74⟩ : ∃ z, M 598 88 = z := ⟨_, rfl⟩
            have b74 : 0 ≤ v74 ∧ v74 ≤ 16 := by rw [← e74]; exact hI_M 598 88 (by decide)
            have e75 : M22 598 88 = v74 := ((w22_51 88 (by decide) (by decide) (by decide) (by decide) (by decide) (by decide) (by decide)).trans ((ju_i _ _ (by decide)).trans ((ju_c _ _ (by decide)).trans ((ju_c _ _ (by decide)).trans e74))))
            obtain ⟨v76, e76⟩ : ∃ z, M22 598 75 = z := ⟨_, rfl⟩
            have b76 : 0 ≤ v76 ∧ v76 ≤ 1600 := by rw [← e76]; exact hI_M22 598 75 (by decide)
            have y77 : M22 598 75 = v76 := e76
            have y78 : M22 598 80 = v8 := e61
            have e79 : M22 598 81 = v17 := ((w22_51 81 (by decide) (by decide) (by decide) (by decide) (by decide) (by decide) (by decide)).trans ((ju_i _ _ (by decide)).trans ((ju_c _ _ (by decide)).trans ((ju_c _ _ (by decide)).trans e17))))
            have y80 : M22 598 81 = v17 := e79
            have y81 : M22 598 89 = v19 := e63
            have y82 : M22 598 96 = v67 := e68
            have y83 : M22 598 100 = v2 := e70
            obtain ⟨v84, e84⟩ : ∃ z, M 598 101 = z := ⟨_, rfl⟩
            have b84 : 0 ≤ v84 ∧ v84 ≤ 1 := by rw [← e84]; exact hI_M 598 101 (by decide)
            have e85 : M22 598 101 = v84 := ((w22_51 101 (by decide) (by decide) (by decide) (by decide) (by decide) (by decide) (by decide)).trans ((ju_i _ _ (by decide)).trans ((ju_c _ _ (by decide)).trans ((ju_c _ _ (by decide)).trans e84))))
            have y86 : M22 598 101 = v84 := e85
            have y87 : M22 598 107 = v4 := e72
            have y88 : M22 598 75 = v76 := e76
            have y89 : M22 598 80 = v8 := e61
            have y90 : M22 598 81 = v17 := e79
            have y91 : M22 598 89 = v19 := e63
            have y92 : M22 598 96 = v67 := e68
            have y93 : M22 598 100 = v2 := e70
            have y94 : M22 598 101 = v84 := e85
            have y95 : M22 598 107 = v4 := e72
            have y96 : M22 598 75 = v76 := e76
            have y97 : M22 598 80 = v8 := e61
            have y98 : M22 598 81 = v17 := e79
            have y99 : M22 598 89 = v19 := e63
            have y100 : M22 598 96 = v67 := e68
            have y101 : M22 598 100 = v2 := e70
            have y102 : M22 598 101 = v84 := e85
            have y103 : M22 598 107 = v4 := e72
            have y104 : M22 598 75 = v76 := e76
            have y105 : M22 598 80 = v8 := e61
            have y106 : M22 598 81 = v17 := e79
            have y107 : M22 598 89 = v19 := e63
            have y108 : M22 598 96 = v67 := e68
            have y109 : M22 598 100 = v2 := e70
            have y110 : M22 598 101 = v84 := e85
            have y111 : M22 598 107 = v4 := e72
            refine jr.pick [0, 1] rfl rfl ?_
            exact r_deed_L230_z (t := 0) (ak := []) q M22 w hI_M22 hH_M22 hS_M22  (fun a i f598 f659 f660 f661 f662 f663 f664 f665 f666 f667 f668 f669 => ((w22_50 a i f598).trans ((ju_c _ _ f598).trans ((ju_c _ _ f660).trans ((ju_c _ _ f659).trans (hF_M a i f598 f659 f660 f661 f662 f663 f664 f665 f666 f667 f668 f669)))))) (fun i g73 g74 g75 g76 g77 g78 g79 g80 g81 g89 g90 g96 g100 g102 g107 => ((w22_51 i g73 g74 g75 g76 g77 g78 g79).trans ((ju_i _ _ g90).trans ((ju_c _ _ (by decide)).trans ((ju_c _ _ (by decide)).trans (hG_M i g73 g74 g75 g76 g77 g78 g79 g80 g81 g89 g90 g96 g100 g102 g107)))))) (by omega) (Or.inr ⟨⟨by omega, by have dl := dl_deed (w := w) (by omega); rw [dl.2.2.2 (by omega)]; exact hX, by omega, by omega, by omega, by omega⟩, by omega, Or.inl ⟨by omega, by omega, hA⟩⟩) (by rw [e55, e53] <;> omega) (by omega) (by omega) (by rw [e72] <;> omega) (by rw [e75] <;> omega) (by rw [e72] <;> omega) hT22 (fun q => by exfalso; omega) (fun _ => ⟨_, _, hK22, (AKr.fr (AKr.fr (AKr.fr (AKr.fr hAK (fun i => ju_c _ _ (by decide)) (fun i => ju_c _ _ (by decide)) (ju_c _ _ (by decide))) (fun i => ju_c _ _ (by decide)) (fun i => ju_c _ _ (by decide)) (ju_c _ _ (by decide))) (fun i => ju_c _ _ (by decide)) (fun i => ju_c _ _ (by decide)) (ju_i _ _ (by decide))) (fun i => w22_50 661 i (by decide)) (fun i => w22_50 662 i (by decide)) (w22_51 96 (by decide) (by decide) (by decide) (by decide) (by decide) (by decide) (by decide))), fun q => (zr.eqx (zr.dtkL hne hz (by omega) (by omega) (by omega) (by omega) q) rfl rfl (by omega) (by omega) (by omega) (by rw [((blr_fr (fun i => w22_50 668 i (by decide)) (w22_51 107 (by decide) (by decide) (by decide) (by decide) (by decide) (by decide) (by decide))).trans ((blr_fr (fun i => ju_c _ _ (by decide)) (ju_i _ _ (by decide))).trans ((blr_fr (fun i => ju_c _ _ (by decide)) (ju_c _ _ (by decide))).trans ((blr_fr (fun i => ju_c _ _ (by decide)) (ju_c _ _ (by decide))).trans rfl))))])), fun q => zr.dtkfL hne hz (by omega) (by omega) (by omega) (by omega) q⟩) (fun q => by omega)
          · refine jr.iconst rfl ?_
            refine jr.istore_n rfl (by decide) rfl ?_
            have e112 : M22 598 72 = v7 := ((w22_51 72 (by decide) (by decide) (by decide) (by decide) (by decide) (by decide) (by decide)).trans ((ju_i _ _ (by decide)).trans ((ju_c _ _ (by decide)).trans ((ju_c _ _ (by decide)).trans e7))))
            have y113 : M22 598 72 = v7 := e112
            obtain ⟨v114, e114⟩ : ∃ z, M22 598 73 = z := ⟨_, rfl⟩
            have b114 : 0 ≤ v114 ∧ v114 ≤ 1600 := by rw [← e114]; exact hI_M22 598 73 (by decide)
            have y115 : M22 598 73 = v114 := e114
            obtain ⟨v116, e116⟩ : ∃ z, M22 598 74 = z := ⟨_, rfl⟩
            have b116 : 0 ≤ v116 ∧ v116 ≤ 4 := by rw [← e116]; exact hI_M22 598 74 (by decide)
            have y117 : M22 598 74 = v116 := e116
            obtain ⟨v118, e118⟩ : ∃ z, M22 598 79 = z := ⟨_, rfl⟩
            have b118 : 0 ≤ v118 ∧ v118 ≤ 255 := by rw [← e118]; exact hI_M22 598 79 (by decide)
            have y119 : M22 598 79 = v118 := e118
            have e120 : M22 598 80 = v8 := ((w22_51 80 (by decide) (by decide) (by decide) (by decide) (by decide) (by decide) (by decide)).trans ((ju_i _ _ (by decide)).trans ((ju_c _ _ (by decide)).trans ((ju_c _ _ (by decide)).trans e8))))
            have y121 : M22 598 80 = v8 := e120
            have e122 : M22 598 89 = v19 := ((w22_51 89 (by decide) (by decide) (by decide) (by decide) (by decide) (by decide) (by decide)).trans ((ju_i _ _ (by decide)).trans ((ju_c _ _ (by decide)).trans ((ju_c _ _ (by decide)).trans e19))))
            have y123 : M22 598 89 = v19 := e122
            have e124 : M22 598 90 = v1 + 1 := ((w22_51 90 (by decide) (by decide) (by decide) (by decide) (by decide) (by decide) (by decide)).trans (ju_same _ _ _ _))
            have y125 : M22 598 90 = v1 + 1 := e124
            obtain ⟨v126, e126⟩ : ∃ z, M 598 96 = z := ⟨_, rfl⟩
            have b126 : 0 ≤ v126 ∧ v126 ≤ 300 := by rw [← e126]; exact hI_M 598 96 (by decide)
            have e127 : M22 598 96 = v126 := ((w22_51 96 (by decide) (by decide) (by decide) (by decide) (by decide) (by decide) (by decide)).trans ((ju_i _ _ (by decide)).trans ((ju_c _ _ (by decide)).trans ((ju_c _ _ (by decide)).trans e126))))
            have y128 : M22 598 96 = v126 := e127
            have e129 : M22 598 100 = v2 := ((w22_51 100 (by decide) (by decide) (by decide) (by decide) (by decide) (by decide) (by decide)).trans ((ju_i _ _ (by decide)).trans ((ju_c _ _ (by decide)).trans ((ju_c _ _ (by decide)).trans e2))))
            have y130 : M22 598 100 = v2 := e129
            have e131 : M22 598 107 = v4 := ((w22_51 107 (by decide) (by decide) (by decide) (by decide) (by decide) (by decide) (by decide)).trans ((ju_i _ _ (by decide)).trans ((ju_c _ _ (by decide)).trans ((ju_c _ _ (by decide)).trans e4))))
            have y132 : M22 598 107 = v4 := e131
            obtain ⟨v133, e133⟩ : ∃ z, M 598 88 = z := ⟨_, rfl⟩
            have b133 : 0 ≤ v133 ∧ v133 ≤ 16 := by rw [← e133]; exact hI_M 598 88 (by decide)
            have e134 : M22 598 88 = v133 := ((w22_51 88 (by decide) (by decide) (by decide) (by decide) (by decide) (by decide) (by decide)).trans ((ju_i _ _ (by decide)).trans ((ju_c _ _ (by decide)).trans ((ju_c _ _ (by decide)).trans e133))))
            obtain ⟨v135, e135⟩ : ∃ z, M22 598 75 = z := ⟨_, rfl⟩
            have b135 : 0 ≤ v135 ∧ v135 ≤ 1600 := by rw [← e135]; exact hI_M22 598 75 (by decide)
            have y136 : M22 598 75 = v135 := e135
            have y137 : M22 598 80 = v8 := e120
            have e138 : M22 598 81 = v17 := ((w22_51 81 (by decide) (by decide) (by decide) (by decide) (by decide) (by decide) (by decide)).trans ((ju_i _ _ (by decide)).trans ((ju_c _ _ (by decide)).trans ((ju_c _ _ (by decide)).trans e17))))
            have y139 : M22 598 81 = v17 := e138
            have y140 : M22 598 89 = v19 := e122
            have y141 : M22 598 96 = v126 := e127
            have y142 : M22 598 100 = v2 := e129
            obtain ⟨v143, e143⟩ : ∃ z, M 598 101 = z := ⟨_, rfl⟩
            have b143 : 0 ≤ v143 ∧ v143 ≤ 1 := by rw [← e143]; exact hI_M 598 101 (by decide)
            have e144 : M22 598 101 = v143 := ((w22_51 101 (by decide) (by decide) (by decide) (by decide) (by decide) (by decide) (by decide)).trans ((ju_i _ _ (by decide)).trans ((ju_c _ _ (by decide)).trans ((ju_c _ _ (by decide)).trans e143))))
            have y145 : M22 598 101 = v143 := e144
            have y146 : M22 598 107 = v4 := e131
            have y147 : M22 598 75 = v135 := e135
            have y148 : M22 598 80 = v8 := e120
            have y149 : M22 598 81 = v17 := e138
            have y150 : M22 598 89 = v19 := e122
            have y151 : M22 598 96 = v126 := e127
            have y152 : M22 598 100 = v2 := e129
            have y153 : M22 598 101 = v143 := e144
            have y154 : M22 598 107 = v4 := e131
            have y155 : M22 598 75 = v135 := e135
            have y156 : M22 598 80 = v8 := e120
            have y157 : M22 598 81 = v17 := e138
            have y158 : M22 598 89 = v19 := e122
            have y159 : M22 598 96 = v126 := e127
            have y160 : M22 598 100 = v2 := e129
            have y161 : M22 598 101 = v143 := e144
            have y162 : M22 598 107 = v4 := e131
            have y163 : M22 598 75 = v135 := e135
            have y164 : M22 598 80 = v8 := e120
            have y165 : M22 598 81 = v17 := e138
            have y166 : M22 598 89 = v19 := e122
            have y167 : M22 598 96 = v126 := e127
            have y168 : M22 598 100 = v2 := e129
            have y169 : M22 598 101 = v143 := e144
            have y170 : M22 598 107 = v4 := e131
            have y171 : M22 598 75 = v135 := e135
            have y172 : M22 598 80 = v8 := e120
            have y173 : M22 598 81 = v17 := e138
            have y174 : M22 598 89 = v19 := e122
            have y175 : M22 598 96 = v126 := e127
            have y176 : M22 598 100 = v2 := e129
            have y177 : M22 598 101 = v143 := e144
            have y178 : M22 598 107 = v4 := e131
            refine jr.pick [0, 1, 2] rfl rfl ?_
            exact r_deed_L188_z (t := 0) q 5 M22 0 w hI_M22 hH_M22 hS_M22  (fun a i f598 f659 f660 f661 f662 f663 f664 f665 f666 f667 f668 f669 => ((w22_50 a i f598).trans ((ju_c _ _ f598).trans ((ju_c _ _ f660).trans ((ju_c _ _ f659).trans (hF_M a i f598 f659 f660 f661 f662 f663 f664 f665 f666 f667 f668 f669)))))) (fun i g73 g74 g75 g76 g77 g78 g79 g80 g81 g89 g90 g96 g100 g102 g107 => ((w22_51 i g73 g74 g75 g76 g77 g78 g79).trans ((ju_i _ _ g90).trans ((ju_c _ _ (by decide)).trans ((ju_c _ _ (by decide)).trans (hG_M i g73 g74 g75 g76 g77 g78 g79 g80 g81 g89 g90 g96 g100 g102 g107)))))) (by omega) (by omega) (Or.inr ⟨⟨by omega, hX, by omega, by omega, by omega, by omega⟩, hA, by omega⟩) (by rw [e114, e112] <;> omega) (by omega) (by omega) (by rw [e131] <;> omega) (by rw [e134] <;> omega) (by omega) (by rw [e131] <;> omega) hT22 (fun q => by exfalso; omega) (fun _ => (AKr.fr (AKr.fr (AKr.fr (AKr.fr hAK (fun i => ju_c _ _ (by decide)) (fun i => ju_c _ _ (by decide)) (ju_c _ _ (by decide))) (fun i => ju_c _ _ (by decide)) (fun i => ju_c _ _ (by decide)) (ju_c _ _ (by decide))) (fun i => ju_c _ _ (by decide)) (fun i => ju_c _ _ (by decide)) (ju_i _ _ (by decide))) (fun i => w22_50 661 i (by decide)) (fun i => w22_50 662 i (by decide)) (w22_51 96 (by decide) (by decide) (by decide) (by decide) (by decide) (by decide) (by decide)))) (fun _ => ⟨_, hK22, Or.inl ⟨by omega, (zr.eqx (zr.dexL hne hz (by omega) (by omega) (by omega)) rfl rfl (by omega) (by omega) (by omega) (by rw [((blr_fr (fun i => w22_50 668 i (by decide)) (w22_51 107 (by decide) (by decide) (by decide) (by decide) (by decide) (by decide) (by decide))).trans ((blr_fr (fun i => ju_c _ _ (by decide)) (ju_i _ _ (by decide))).trans ((blr_fr (fun i => ju_c _ _ (by decide)) (ju_c _ _ (by decide))).trans ((blr_fr (fun i => ju_c _ _ (by decide)) (ju_c _ _ (by decide))).trans rfl)))), show w = zwd f N t by omega]))⟩⟩) (fun q => by omega) (by omega)
        · have e179 : M22 598 80 = v8 := ((w22_51 80 (by decide) (by decide) (by decide) (by decide) (by decide) (by decide) (by decide)).trans ((ju_i _ _ (by decide)).trans ((ju_c _ _ (by decide)).trans ((ju_c _ _ (by decide)).trans e8))))
          obtain ⟨v180, e180⟩ : ∃ z, M 598 96 = z := ⟨_, rfl⟩
          have b180 : 0 ≤ v180 ∧ v180 ≤ 300 := by rw [← e180]; exact hI_M 598 96 (by decide)
          have e181 : M22 598 96 = v180 := ((w22_51 96 (by decide) (by decide) (by decide) (by decide) (by decide) (by decide) (by decide)).trans ((ju_i _ _ (by decide)).trans ((ju_c _ _ (by decide)).trans ((ju_c _ _ (by decide)).trans e180))))
          have e182 : M22 598 89 = v19 := ((w22_51 89 (by decide) (by decide) (by decide) (by decide) (by decide) (by decide) (by decide)).trans ((ju_i _ _ (by decide)).trans ((ju_c _ _ (by decide)).trans ((ju_c _ _ (by decide)).trans e19))))
          have e183 : M22 598 100 = v2 := ((w22_51 100 (by decide) (by decide) (by decide) (by decide) (by decide) (by decide) (by decide)).trans ((ju_i _ _ (by decide)).trans ((ju_c _ _ (by decide)).trans ((ju_c _ _ (by decide)).trans e2))))
          obtain ⟨v184, e184⟩ : ∃ z, M22 598 73 = z := ⟨_, rfl⟩
          have b184 : 0 ≤ v184 ∧ v184 ≤ 1600 := by rw [← e184]; exact hI_M22 598 73 (by decide)
          have e185 : M22 598 72 = v7 := ((w22_51 72 (by decide) (by decide) (by decide) (by decide) (by decide) (by decide) (by decide)).trans ((ju_i _ _ (by decide)).trans ((ju_c _ _ (by decide)).trans ((ju_c _ _ (by decide)).trans e7))))
          have e186 : M22 598 107 = v4 := ((w22_51 107 (by decide) (by decide) (by decide) (by decide) (by decide) (by decide) (by decide)).trans ((ju_i _ _ (by decide)).trans ((ju_c _ _ (by decide)).trans ((ju_c _ _ (by decide)).trans e4))))
          obtain ⟨v187, e187⟩ : ∃ z, M 598 88 = z := ⟨_, rfl⟩
          have b187 : 0 ≤ v187 ∧ v187 ≤ 16 := by rw [← e187]; exact hI_M 598 88 (by decide)
          have e188 : M22 598 88 = v187 := ((w22_51 88 (by decide) (by decide) (by decide) (by decide) (by decide) (by decide) (by decide)).trans ((ju_i _ _ (by decide)).trans ((ju_c _ _ (by decide)).trans ((ju_c _ _ (by decide)).trans e187))))
          obtain ⟨v189, e189⟩ : ∃ z, M22 598 74 = z := ⟨_, rfl⟩
          have b189 : 0 ≤ v189 ∧ v189 ≤ 4 := by rw [← e189]; exact hI_M22 598 74 (by decide)
          obtain ⟨v190, e190⟩ : ∃ z, M22 598 79 = z := ⟨_, rfl⟩
          have b190 : 0 ≤ v190 ∧ v190 ≤ 255 := by rw [← e190]; exact hI_M22 598 79 (by decide)
          have e191 : M22 598 90 = v1 + 1 := ((w22_51 90 (by decide) (by decide) (by decide) (by decide) (by decide) (by decide) (by decide)).trans (ju_same _ _ _ _))
          have e192 : M22 659 v1 = 0 := ((w22_50 659 v1 (by decide)).trans ((ju_c _ _ (by decide)).trans ((ju_c _ _ (by decide)).trans (ju_same _ _ _ _))))
          obtain ⟨v193, e193⟩ : ∃ z, M22 598 75 = z := ⟨_, rfl⟩
          have b193 : 0 ≤ v193 ∧ v193 ≤ 1600 := by rw [← e193]; exact hI_M22 598 75 (by decide)
          have y194 : M22 598 75 = v193 := e193
          have y195 : M22 598 80 = v8 := e179
          have e196 : M22 598 81 = v17 := ((w22_51 81 (by decide) (by decide) (by decide) (by decide) (by decide) (by decide) (by decide)).trans ((ju_i _ _ (by decide)).trans ((ju_c _ _ (by decide)).trans ((ju_c _ _ (by decide)).trans e17))))
          have y197 : M22 598 81 = v17 := e196
          have y198 : M22 598 89 = v19 := e182
          have y199 : M22 598 96 = v180 := e181
          have y200 : M22 598 100 = v2 := e183
          obtain ⟨v201, e201⟩ : ∃ z, M 598 101 = z := ⟨_, rfl⟩
          have b201 : 0 ≤ v201 ∧ v201 ≤ 1 := by rw [← e201]; exact hI_M 598 101 (by decide)
          have e202 : M22 598 101 = v201 := ((w22_51 101 (by decide) (by decide) (by decide) (by decide) (by decide) (by decide) (by decide)).trans ((ju_i _ _ (by decide)).trans ((ju_c _ _ (by decide)).trans ((ju_c _ _ (by decide)).trans e201))))
          have y203 : M22 598 101 = v201 := e202
          have y204 : M22 598 107 = v4 := e186
          refine jr.pick [0, 1] rfl rfl ?_
          exact r_deed_L112_z q M22 w hI_M22 hH_M22 hS_M22  (fun a i f598 f659 f660 f661 f662 f663 f664 f665 f666 f667 f668 f669 => ((w22_50 a i f598).trans ((ju_c _ _ f598).trans ((ju_c _ _ f660).trans ((ju_c _ _ f659).trans (hF_M a i f598 f659 f660 f661 f662 f663 f664 f665 f666 f667 f668 f669)))))) (fun i g73 g74 g75 g76 g77 g78 g79 g80 g81 g89 g90 g96 g100 g102 g107 => ((w22_51 i g73 g74 g75 g76 g77 g78 g79).trans ((ju_i _ _ g90).trans ((ju_c _ _ (by decide)).trans ((ju_c _ _ (by decide)).trans (hG_M i g73 g74 g75 g76 g77 g78 g79 g80 g81 g89 g90 g96 g100 g102 g107)))))) (by omega) hX hA (by rw [e179] <;> omega) (by rw [e181, e182] <;> omega) (by rw [e183] <;> omega) (by rw [e184, e185] <;> omega) (by rw [e186] <;> omega) (by rw [e188] <;> omega) (by rw [e189, e190] <;> omega) (by omega) (by rw [e181] <;> omega) (by rw [e191]; exact ⟨by omega, by rw [show v1 + 1 - 1 = v1 by omega]; exact e192⟩) hK22 (zr.eqx (hz) rfl rfl (by omega) (by omega) (by omega) (by rw [((blr_fr (fun i => w22_50 668 i (by decide)) (w22_51 107 (by decide) (by decide) (by decide) (by decide) (by decide) (by decide) (by decide))).trans ((blr_fr (fun i => ju_c _ _ (by decide)) (ju_i _ _ (by decide))).trans ((blr_fr (fun i => ju_c _ _ (by decide)) (ju_c _ _ (by decide))).trans ((blr_fr (fun i => ju_c _ _ (by decide)) (ju_c _ _ (by decide))).trans rfl))))])) (AKr.fr (AKr.fr (AKr.fr (AKr.fr hAK (fun i => ju_c _ _ (by decide)) (fun i => ju_c _ _ (by decide)) (ju_c _ _ (by decide))) (fun i => ju_c _ _ (by decide)) (fun i => ju_c _ _ (by decide)) (ju_c _ _ (by decide))) (fun i => ju_c _ _ (by decide)) (fun i => ju_c _ _ (by decide)) (ju_i _ _ (by decide))) (fun i => w22_50 661 i (by decide)) (fun i => w22_50 662 i (by decide)) (w22_51 96 (by decide) (by decide) (by decide) (by decide) (by decide) (by decide) (by decide))) (by omega) (by omega) (by omega) (by rw [e196] <;> omega)
    · have e205 : M22 598 80 = v8 := ((w22_51 80 (by decide) (by decide) (by decide) (by decide) (by decide) (by decide) (by decide)).trans ((ju_i _ _ (by decide)).trans ((ju_c _ _ (by decide)).trans ((ju_c _ _ (by decide)).trans e8))))
      obtain ⟨v206, e206⟩ : ∃ z, M 598 96 = z := ⟨_, rfl⟩
      have b206 : 0 ≤ v206 ∧ v206 ≤ 300 := by rw [← e206]; exact hI_M 598 96 (by decide)
      have e207 : M22 598 96 = v206 := ((w22_51 96 (by decide) (by decide) (by decide) (by decide) (by decide) (by decide) (by decide)).trans ((ju_i _ _ (by decide)).trans ((ju_c _ _ (by decide)).trans ((ju_c _ _ (by decide)).trans e206))))
      have e208 : M22 598 89 = v19 := ((w22_51 89 (by decide) (by decide) (by decide) (by decide) (by decide) (by decide) (by decide)).trans ((ju_i _ _ (by decide)).trans ((ju_c _ _ (by decide)).trans ((ju_c _ _ (by decide)).trans e19))))
      have e209 : M22 598 100 = v2 := ((w22_51 100 (by decide) (by decide) (by decide) (by decide) (by decide) (by decide) (by decide)).trans ((ju_i _ _ (by decide)).trans ((ju_c _ _ (by decide)).trans ((ju_c _ _ (by decide)).trans e2))))
      obtain ⟨v210, e210⟩ : ∃ z, M22 598 73 = z := ⟨_, rfl⟩
      have b210 : 0 ≤ v210 ∧ v210 ≤ 1600 := by rw [← e210]; exact hI_M22 598 73 (by decide)
      have e211 : M22 598 72 = v7 := ((w22_51 72 (by decide) (by decide) (by decide) (by decide) (by decide) (by decide) (by decide)).trans ((ju_i _ _ (by decide)).trans ((ju_c _ _ (by decide)).trans ((ju_c _ _ (by decide)).trans e7))))
      have e212 : M22 598 107 = v4 := ((w22_51 107 (by decide) (by decide) (by decide) (by decide) (by decide) (by decide) (by decide)).trans ((ju_i _ _ (by decide)).trans ((ju_c _ _ (by decide)).trans ((ju_c _ _ (by decide)).trans e4))))
      obtain ⟨v213, e213⟩ : ∃ z, M 598 88 = z := ⟨_, rfl⟩
      have b213 : 0 ≤ v213 ∧ v213 ≤ 16 := by rw [← e213]; exact hI_M 598 88 (by decide)
      have e214 : M22 598 88 = v213 := ((w22_51 88 (by decide) (by decide) (by decide) (by decide) (by decide) (by decide) (by decide)).trans ((ju_i _ _ (by decide)).trans ((ju_c _ _ (by decide)).trans ((ju_c _ _ (by decide)).trans e213))))
      obtain ⟨v215, e215⟩ : ∃ z, M22 598 74 = z := ⟨_, rfl⟩
      have b215 : 0 ≤ v215 ∧ v215 ≤ 4 := by rw [← e215]; exact hI_M22 598 74 (by decide)
      obtain ⟨v216, e216⟩ : ∃ z, M22 598 79 = z := ⟨_, rfl⟩
      have b216 : 0 ≤ v216 ∧ v216 ≤ 255 := by rw [← e216]; exact hI_M22 598 79 (by decide)
      obtain ⟨v217, e217⟩ : ∃ z, M22 598 75 = z := ⟨_, rfl⟩
      have b217 : 0 ≤ v217 ∧ v217 ≤ 1600 := by rw [← e217]; exact hI_M22 598 75 (by decide)
      have y218 : M22 598 75 = v217 := e217
      have y219 : M22 598 80 = v8 := e205
      have e220 : M22 598 81 = v17 := ((w22_51 81 (by decide) (by decide) (by decide) (by decide) (by decide) (by decide) (by decide)).trans ((ju_i _ _ (by decide)).trans ((ju_c _ _ (by decide)).trans ((ju_c _ _ (by decide)).trans e17))))
      have y221 : M22 598 81 = v17 := e220
      have y222 : M22 598 89 = v19 := e208
      have y223 : M22 598 96 = v206 := e207
      have y224 : M22 598 100 = v2 := e209
      obtain ⟨v225, e225⟩ : ∃ z, M 598 101 = z := ⟨_, rfl⟩
      have b225 : 0 ≤ v225 ∧ v225 ≤ 1 := by rw [← e225]; exact hI_M 598 101 (by decide)
      have e226 : M22 598 101 = v225 := ((w22_51 101 (by decide) (by decide) (by decide) (by decide) (by decide) (by decide) (by decide)).trans ((ju_i _ _ (by decide)).trans ((ju_c _ _ (by decide)).trans ((ju_c _ _ (by decide)).trans e225))))
      have y227 : M22 598 101 = v225 := e226
      have y228 : M22 598 107 = v4 := e212
      refine jr.pick [1] rfl rfl ?_
      exact r_deed_L78_z q M22  hI_M22 hH_M22 hS_M22  (fun a i f598 f659 f660 f661 f662 f663 f664 f665 f666 f667 f668 f669 => ((w22_50 a i f598).trans ((ju_c _ _ f598).trans ((ju_c _ _ f660).trans ((ju_c _ _ f659).trans (hF_M a i f598 f659 f660 f661 f662 f663 f664 f665 f666 f667 f668 f669)))))) (fun i g73 g74 g75 g76 g77 g78 g79 g80 g81 g89 g90 g96 g100 g102 g107 => ((w22_51 i g73 g74 g75 g76 g77 g78 g79).trans ((ju_i _ _ g90).trans ((ju_c _ _ (by decide)).trans ((ju_c _ _ (by decide)).trans (hG_M i g73 g74 g75 g76 g77 g78 g79 g80 g81 g89 g90 g96 g100 g102 g107))))))  hX hA (by rw [e205] <;> omega) (by rw [e207, e208] <;> omega) (by rw [e209] <;> omega) (by rw [e210, e211] <;> omega) (by rw [e212] <;> omega) (by rw [e214] <;> omega) (by rw [e215, e216] <;> omega) (by omega) hK22 (zr.eqx (zr.difL hne hz (by omega) (by omega) (by omega)) rfl rfl (by omega) (by omega) (by omega) (by rw [((blr_fr (fun i => w22_50 668 i (by decide)) (w22_51 107 (by decide) (by decide) (by decide) (by decide) (by decide) (by decide) (by decide))).trans ((blr_fr (fun i => ju_c _ _ (by decide)) (ju_i _ _ (by decide))).trans ((blr_fr (fun i => ju_c _ _ (by decide)) (ju_c _ _ (by decide))).trans ((blr_fr (fun i => ju_c _ _ (by decide)) (ju_c _ _ (by decide))).trans rfl))))])) (AKr.fr (AKr.fr (AKr.fr (AKr.fr hAK (fun i => ju_c _ _ (by decide)) (fun i => ju_c _ _ (by decide)) (ju_c _ _ (by decide))) (fun i => ju_c _ _ (by decide)) (fun i => ju_c _ _ (by decide)) (ju_c _ _ (by decide))) (fun i => ju_c _ _ (by decide)) (fun i => ju_c _ _ (by decide)) (ju_i _ _ (by decide))) (fun i => w22_50 661 i (by decide)) (fun i => w22_50 662 i (by decide)) (w22_51 96 (by decide) (by decide) (by decide) (by decide) (by decide) (by decide) (by decide))) (by rw [e220] <;> omega)
set_option maxHeartbeats 8000000 in
theorem r_deed_z {A : Nat → Option (Nat × (Nat → Int32))} {Q : Option Value → jm → Prop} {f : Int → Int} {N : Int} {xs : ZS} {t : Int} {nm ak : List Int} {M : jm} (hI_M : RI M) (hH_M : RH M) (hS_M : RF M) (p0 : DS M 0) (p1 : 1 ≤ M 598 107) (p2 : 1 ≤ M 598 88) (p3 : TKr f N t M) (p4 : zr f N xs (1, t, M 598 89, M 598 100, 0, M 598 101, blr M, nm, ak)) (p5 : AKr f N M ak) (p6 : (M 598 74 ≠ 3 ∨ M 598 79 ≠ 125)) (q : ∀ (M' : jm), RI M' → RH M' → RF M' → (BT M' ∨ (DS M' 0 ∧ TK M' < TK M)) → TK M' ≤ TK M → M' 598 73 ≤ M' 598 72 → (M' 598 80 ≠ 0 ∨ TK M' < TK M) → M 598 107 ≤ M' 598 107 → TXr f N M' → ZFQ f N xs M' → ZDPQ f N xs M' nm → K8Q M M' → (∀ (a : Nat) (i : Int), a ≠ 598 → a ≠ 659 → a ≠ 660 → a ≠ 661 → a ≠ 662 → a ≠ 663 → a ≠ 664 → a ≠ 665 → a ≠ 666 → a ≠ 667 → a ≠ 668 → a ≠ 669 → M' a i = M a i) → (∀ (i : Int), i ≠ 73 → i ≠ 74 → i ≠ 75 → i ≠ 76 → i ≠ 77 → i ≠ 78 → i ≠ 79 → i ≠ 80 → i ≠ 81 → i ≠ 89 → i ≠ 90 → i ≠ 96 → i ≠ 100 → i ≠ 102 → i ≠ 107 → M' 598 i = M 598 i) → Q none M') : jc A 8 367 [.ref (598)] M Q := by
  obtain ⟨ds1, ds2, ds3, ds4, ds5, ds6, ds7, ds8, ds9⟩ := id p0
  have hX := ds2
  have hA := ds8
  have dpx := XS.dep ds2
  have sl := XS.sgle ds2
  have bM_107 : (0 : Int) ≤ M 598 107 ∧ M 598 107 ≤ 16 := hI_M 598 107 (by decide)
  have bM_73 : (0 : Int) ≤ M 598 73 ∧ M 598 73 ≤ 1600 := hI_M 598 73 (by decide)
  have bM_88 : (0 : Int) ≤ M 598 88 ∧ M 598 88 ≤ 16 := hI_M 598 88 (by decide)
  have bM_100 : (0 : Int) ≤ M 598 100 ∧ M 598 100 ≤ 13 := hI_M 598 100 (by decide)
  have hK := p3
  have kk0 := hK.kz
  have hT := hK.1
  have hz := p4
  have hAK := p5
  have hne := blr_ne (M := M) p1
  refine jc_of (m := xm_367) rfl (Nat.le_of_ble_eq_true rfl) rfl ?_
  refine jr.aload_n rfl rfl ?_
  obtain ⟨v1, e1⟩ : ∃ z, M 598 76 = z := ⟨_, rfl⟩
  have b1 : (-1) ≤ v1 ∧ v1 ≤ 68 := by rw [← e1]; exact hI_M 598 76 (by decide)
  refine jr.getf (i := 76) (x := v1) (v := .int (Int32.ofInt (v1))) rfl rfl (by decide) rfl (by decide) rfl rfl e1 rfl ?_
  refine jr.istore_n rfl (by decide) rfl ?_
  refine jr.aload_n rfl rfl ?_
  refine jr.iconst rfl ?_
  refine jr_v rfl rfl (Or.inl rfl) rfl rfl (by decide) rfl ⟨rfl, Nat.le_of_ble_eq_true rfl, Nat.le_of_ble_eq_true rfl⟩ rfl (jc.deep (c_isWord hI_M (by omega) (fun t7_0 t7_1 => ?_) (fun f7_0 => ?_)) (by decide))
  · refine jr.if_ne rfl rfl (by omega) (fun _ => ?_) (fun h => absurd (by decide) h)
    refine jr.iconst rfl ?_
    refine jr.goto rfl rfl ?_
    refine jr.istore_n rfl (by decide) rfl ?_
    refine jr.iload_n rfl rfl ?_
    refine jr.if_ne rfl rfl (by omega) (fun _ => ?_) (fun h => absurd (by decide) h)
    refine jr.aload_n rfl rfl ?_
    obtain ⟨v2, e2⟩ : ∃ z, M 598 80 = z := ⟨_, rfl⟩
    have b2 : 0 ≤ v2 ∧ v2 ≤ 7 := by rw [← e2]; exact hI_M 598 80 (by decide)
    obtain ⟨v3, e3⟩ : ∃ z, M 598 89 = z := ⟨_, rfl⟩
    have b3 : 0 ≤ v3 ∧ v3 ≤ 301 := by rw [← e3]; exact hI_M 598 89 (by decide)
    obtain ⟨v4, e4⟩ : ∃ z, M 598 100 = z := ⟨_, rfl⟩
    have b4 : 0 ≤ v4 ∧ v4 ≤ 13 := by rw [← e4]; exact hI_M 598 100 (by decide)
    obtain ⟨v5, e5⟩ : ∃ z, M 598 81 = z := ⟨_, rfl⟩
    have b5 : (-1) ≤ v5 ∧ v5 ≤ 1600 := by rw [← e5]; exact hI_M 598 81 (by decide)
    obtain ⟨v7, e7⟩ : ∃ z, M 598 73 = z := ⟨_, rfl⟩
    have b7 : 0 ≤ v7 ∧ v7 ≤ 1600 := by rw [← e7]; exact hI_M 598 73 (by decide)
    obtain ⟨v9, e9⟩ : ∃ z, M 598 74 = z := ⟨_, rfl⟩
    have b9 : 0 ≤ v9 ∧ v9 ≤ 4 := by rw [← e9]; exact hI_M 598 74 (by decide)
    refine jr_v rfl rfl (Or.inl rfl) rfl rfl (by decide) rfl ⟨rfl, Nat.le_of_ble_eq_true rfl, Nat.le_of_ble_eq_true rfl⟩ rfl (jc.deep (c_node_z (f := f) (N := N) hI_M hH_M hS_M (by rw [e3]; omega) (by rw [e2]; omega) (fun M6 hI_M6 hH_M6 hS_M6 q96 ql6 q06 q16 w6_50 w6_51 => ?_) (fun M6 hI_M6 hH_M6 hS_M6 q96 ql6 q06 q16 w6_50 w6_51 => ?_)) (by decide))
    · have tk6 : TK M6 = TK M := TK.fr (w6_51 73 (by decide) (by decide) (by decide)) (w6_51 74 (by decide) (by decide) (by decide))
      have x6_72 := w6_51 72 (by decide) (by decide) (by decide)
      have x6_73 := w6_51 73 (by decide) (by decide) (by decide)
      have x6_74 := w6_51 74 (by decide) (by decide) (by decide)
      have x6_75 := w6_51 75 (by decide) (by decide) (by decide)
      have x6_76 := w6_51 76 (by decide) (by decide) (by decide)
      have x6_78 := w6_51 78 (by decide) (by decide) (by decide)
      have x6_79 := w6_51 79 (by decide) (by decide) (by decide)
      have x6_100 := w6_51 100 (by decide) (by decide) (by decide)
      have y8 : M 598 73 = v7 := e7
      have y10 : M 598 74 = v9 := e9
      have y11 : M 598 89 = v3 := e3
      have y12 : M 598 100 = v4 := e4
      have x6_73 := w6_51 73 (by decide) (by decide) (by decide)
      have x6_74 := w6_51 74 (by decide) (by decide) (by decide)
      have x6_100 := w6_51 100 (by decide) (by decide) (by decide)
      have hX := XS.fr2 hX w6_50 (w6_51 88 (by decide) (by decide) (by decide)) (w6_51 90 (by decide) (by decide) (by decide)) (w6_51 101 (by decide) (by decide) (by decide)) (w6_51 107 (by decide) (by decide) (by decide)) (k' := 2 + 2 + 2) (d' := 0) (z' := 0) (by omega) (by omega) (by omega) (by omega)
      have hA := AK.cp hA (CP.f (CP.rfl _) (fun i => w6_50 659 i (by decide)) (w6_51 90 (by decide) (by decide) (by decide))) (fun i => w6_50 663 i (by decide)) (w6_51 96 (by decide) (by decide) (by decide))
      have x6_101 := w6_51 101 (by decide) (by decide) (by decide)
      have x6_107 := w6_51 107 (by decide) (by decide) (by decide)
      have x6_88 := w6_51 88 (by decide) (by decide) (by decide)
      have x6_96 := w6_51 96 (by decide) (by decide) (by decide)
      refine jr.aload_n rfl rfl ?_
      obtain ⟨v13, e13⟩ : ∃ z, M6 598 80 = z := ⟨_, rfl⟩
      have b13 : 0 ≤ v13 ∧ v13 ≤ 7 := by rw [← e13]; exact hI_M6 598 80 (by decide)
      refine jr_v rfl rfl (Or.inl rfl) rfl rfl (by decide) rfl ⟨rfl, Nat.le_of_ble_eq_true rfl, Nat.le_of_ble_eq_true rfl⟩ rfl (jc.deep (c_good hI_M6  (fun t56_0 => ?_) (fun f56_0 => ?_)) (by decide))
      · refine jr.if_ne rfl rfl (by omega) (fun _ => ?_) (fun h => absurd (by decide) h)
        obtain ⟨v14, e14⟩ : ∃ z, M 598 96 = z := ⟨_, rfl⟩
        have b14 : 0 ≤ v14 ∧ v14 ≤ 300 := by rw [← e14]; exact hI_M 598 96 (by decide)
        have e15 : M6 598 96 = v14 := ((w6_51 96 (by decide) (by decide) (by decide)).trans e14)
        obtain ⟨v16, e16⟩ : ∃ z, M6 598 89 = z := ⟨_, rfl⟩
        have b16 : 0 ≤ v16 ∧ v16 ≤ 301 := by rw [← e16]; exact hI_M6 598 89 (by decide)
        have e17 : M6 598 100 = v4 := ((w6_51 100 (by decide) (by decide) (by decide)).trans e4)
        have e18 : M6 598 73 = v7 := ((w6_51 73 (by decide) (by decide) (by decide)).trans e7)
        obtain ⟨v19, e19⟩ : ∃ z, M 598 72 = z := ⟨_, rfl⟩
        have b19 : 0 ≤ v19 ∧ v19 ≤ 1600 := by rw [← e19]; exact hI_M 598 72 (by decide)
        have e20 : M6 598 72 = v19 := ((w6_51 72 (by decide) (by decide) (by decide)).trans e19)
        obtain ⟨v21, e21⟩ : ∃ z, M 598 107 = z := ⟨_, rfl⟩
        have b21 : 0 ≤ v21 ∧ v21 ≤ 16 := by rw [← e21]; exact hI_M 598 107 (by decide)
        have e22 : M6 598 107 = v21 := ((w6_51 107 (by decide) (by decide) (by decide)).trans e21)
        obtain ⟨v23, e23⟩ : ∃ z, M 598 88 = z := ⟨_, rfl⟩
        have b23 : 0 ≤ v23 ∧ v23 ≤ 16 := by rw [← e23]; exact hI_M 598 88 (by decide)
        have e24 : M6 598 88 = v23 := ((w6_51 88 (by decide) (by decide) (by decide)).trans e23)
        have e25 : M6 598 74 = v9 := ((w6_51 74 (by decide) (by decide) (by decide)).trans e9)
        obtain ⟨v26, e26⟩ : ∃ z, M 598 79 = z := ⟨_, rfl⟩
        have b26 : 0 ≤ v26 ∧ v26 ≤ 255 := by rw [← e26]; exact hI_M 598 79 (by decide)
        have e27 : M6 598 79 = v26 := ((w6_51 79 (by decide) (by decide) (by decide)).trans e26)
        obtain ⟨v28, e28⟩ : ∃ z, M 598 75 = z := ⟨_, rfl⟩
        have b28 : 0 ≤ v28 ∧ v28 ≤ 1600 := by rw [← e28]; exact hI_M 598 75 (by decide)
        have e29 : M6 598 75 = v28 := ((w6_51 75 (by decide) (by decide) (by decide)).trans e28)
        have y30 : M6 598 75 = v28 := e29
        have y31 : M6 598 80 = v13 := e13
        obtain ⟨v32, e32⟩ : ∃ z, M6 598 81 = z := ⟨_, rfl⟩
        have b32 : (-1) ≤ v32 ∧ v32 ≤ 1600 := by rw [← e32]; exact hI_M6 598 81 (by decide)
        have y33 : M6 598 81 = v32 := e32
        have y34 : M6 598 89 = v16 := e16
        have y35 : M6 598 96 = v14 := e15
        have y36 : M6 598 100 = v4 := e17
        obtain ⟨v37, e37⟩ : ∃ z, M 598 101 = z := ⟨_, rfl⟩
        have b37 : 0 ≤ v37 ∧ v37 ≤ 1 := by rw [← e37]; exact hI_M 598 101 (by decide)
        have e38 : M6 598 101 = v37 := ((w6_51 101 (by decide) (by decide) (by decide)).trans e37)
        have y39 : M6 598 101 = v37 := e38
        have y40 : M6 598 107 = v21 := e22
        refine jr.pick [1, 2] rfl rfl ?_
        exact r_deed_L63_z q M6 v1 hI_M6 hH_M6 hS_M6  (fun a i f598 f659 f660 f661 f662 f663 f664 f665 f666 f667 f668 f669 => ((w6_50 a i f598).trans rfl)) (fun i g73 g74 g75 g76 g77 g78 g79 g80 g81 g89 g90 g96 g100 g102 g107 => ((w6_51 i g80 g81 g89).trans rfl)) (by omega) hX hA (by rw [e13] <;> omega) (by rw [e15, e16] <;> omega) (by rw [e17] <;> omega) (by rw [e18, e20] <;> omega) (by rw [e22] <;> omega) (by rw [e24] <;> omega) (by rw [e25, e27] <;> omega) (by omega) (by rw [e25] <;> omega) (by omega) (TKr.fr hK (w6_51 72 (by decide) (by decide) (by decide)) (fun i => w6_50 651 i (by decide)) (fun i => w6_50 649 i (by decide)) (fun i => w6_50 650 i (by decide)) (w6_51 73 (by decide) (by decide) (by decide)) (w6_51 74 (by decide) (by decide) (by decide)) (w6_51 75 (by decide) (by decide) (by decide)) (w6_51 76 (by decide) (by decide) (by decide)) (w6_51 77 (by decide) (by decide) (by decide)) (w6_51 78 (by decide) (by decide) (by decide)) (w6_51 79 (by decide) (by decide) (by decide))) (zr.eqx (hz) rfl rfl (by omega) (by omega) (by omega) (by rw [((blr_fr (fun i => w6_50 668 i (by decide)) (w6_51 107 (by decide) (by decide) (by decide))).trans rfl)])) (AKr.fr hAK (fun i => w6_50 661 i (by decide)) (fun i => w6_50 662 i (by decide)) (w6_51 96 (by decide) (by decide) (by decide))) (by have q := hK.wz (by omega); omega) (by omega) (by have q := hK.wz (by omega); omega) (by omega)
      · exfalso
        omega
    · have tk6 : TK M6 = TK M := TK.fr (w6_51 73 (by decide) (by decide) (by decide)) (w6_51 74 (by decide) (by decide) (by decide))
      have x6_72 := w6_51 72 (by decide) (by decide) (by decide)
      have x6_73 := w6_51 73 (by decide) (by decide) (by decide)
      have x6_74 := w6_51 74 (by decide) (by decide) (by decide)
      have x6_75 := w6_51 75 (by decide) (by decide) (by decide)
      have x6_76 := w6_51 76 (by decide) (by decide) (by decide)
      have x6_78 := w6_51 78 (by decide) (by decide) (by decide)
      have x6_79 := w6_51 79 (by decide) (by decide) (by decide)
      have x6_100 := w6_51 100 (by decide) (by decide) (by decide)
      have s0t := hK.wz (by omega)
      have zfz : zr f N xs (zft (M6 598 80) (M6 598 81)) := zr.fe (zr.dkL hne hz s0t.1 (by omega) (by omega)) (by omega) (by omega)
      refine jr.aload_n rfl rfl ?_
      obtain ⟨v41, e41⟩ : ∃ z, M6 598 80 = z := ⟨_, rfl⟩
      have b41 : 0 ≤ v41 ∧ v41 ≤ 7 := by rw [← e41]; exact hI_M6 598 80 (by decide)
      refine jr_v rfl rfl (Or.inl rfl) rfl rfl (by decide) rfl ⟨rfl, Nat.le_of_ble_eq_true rfl, Nat.le_of_ble_eq_true rfl⟩ rfl (jc.deep (c_good hI_M6  (fun t56_0 => ?_) (fun f56_0 => ?_)) (by decide))
      · exfalso
        omega
      · refine jr.if_ne rfl rfl (by omega) (fun h => absurd h (by decide)) (fun _ => ?_)
        obtain ⟨v42, e42⟩ : ∃ z, M 598 72 = z := ⟨_, rfl⟩
        have b42 : 0 ≤ v42 ∧ v42 ≤ 1600 := by rw [← e42]; exact hI_M 598 72 (by decide)
        have e43 : M6 598 72 = v42 := ((w6_51 72 (by decide) (by decide) (by decide)).trans e42)
        have y44 : M6 598 72 = v42 := e43
        have e45 : M6 598 73 = v7 := ((w6_51 73 (by decide) (by decide) (by decide)).trans e7)
        have y46 : M6 598 73 = v7 := e45
        have e47 : M6 598 74 = v9 := ((w6_51 74 (by decide) (by decide) (by decide)).trans e9)
        have y48 : M6 598 74 = v9 := e47
        obtain ⟨v49, e49⟩ : ∃ z, M 598 79 = z := ⟨_, rfl⟩
        have b49 : 0 ≤ v49 ∧ v49 ≤ 255 := by rw [← e49]; exact hI_M 598 79 (by decide)
        have e50 : M6 598 79 = v49 := ((w6_51 79 (by decide) (by decide) (by decide)).trans e49)
        have y51 : M6 598 79 = v49 := e50
        have y52 : M6 598 80 = v41 := e41
        obtain ⟨v53, e53⟩ : ∃ z, M6 598 89 = z := ⟨_, rfl⟩
        have b53 : 0 ≤ v53 ∧ v53 ≤ 301 := by rw [← e53]; exact hI_M6 598 89 (by decide)
        have y54 : M6 598 89 = v53 := e53
        obtain ⟨v55, e55⟩ : ∃ z, M 598 90 = z := ⟨_, rfl⟩
        have b55 : 0 ≤ v55 ∧ v55 ≤ 2200 := by rw [← e55]; exact hI_M 598 90 (by decide)
        have e56 : M6 598 90 = v55 := ((w6_51 90 (by decide) (by decide) (by decide)).trans e55)
        have y57 : M6 598 90 = v55 := e56
        obtain ⟨v58, e58⟩ : ∃ z, M 598 96 = z := ⟨_, rfl⟩
        have b58 : 0 ≤ v58 ∧ v58 ≤ 300 := by rw [← e58]; exact hI_M 598 96 (by decide)
        have e59 : M6 598 96 = v58 := ((w6_51 96 (by decide) (by decide) (by decide)).trans e58)
        have y60 : M6 598 96 = v58 := e59
        have e61 : M6 598 100 = v4 := ((w6_51 100 (by decide) (by decide) (by decide)).trans e4)
        have y62 : M6 598 100 = v4 := e61
        obtain ⟨v63, e63⟩ : ∃ z, M 598 107 = z := ⟨_, rfl⟩
        have b63 : 0 ≤ v63 ∧ v63 ≤ 16 := by rw [← e63]; exact hI_M 598 107 (by decide)
        have e64 : M6 598 107 = v63 := ((w6_51 107 (by decide) (by decide) (by decide)).trans e63)
        have y65 : M6 598 107 = v63 := e64
        obtain ⟨v66, e66⟩ : ∃ z, M 598 75 = z := ⟨_, rfl⟩
        have b66 : 0 ≤ v66 ∧ v66 ≤ 1600 := by rw [← e66]; exact hI_M 598 75 (by decide)
        have e67 : M6 598 75 = v66 := ((w6_51 75 (by decide) (by decide) (by decide)).trans e66)
        have y68 : M6 598 75 = v66 := e67
        obtain ⟨v69, e69⟩ : ∃ z, M6 598 81 = z := ⟨_, rfl⟩
        have b69 : (-1) ≤ v69 ∧ v69 ≤ 1600 := by rw [← e69]; exact hI_M6 598 81 (by decide)
        have y70 : M6 598 81 = v69 := e69
        obtain ⟨v71, e71⟩ : ∃ z, M 598 101 = z := ⟨_, rfl⟩
        have b71 : 0 ≤ v71 ∧ v71 ≤ 1 := by rw [← e71]; exact hI_M 598 101 (by decide)
        have e72 : M6 598 101 = v71 := ((w6_51 101 (by decide) (by decide) (by decide)).trans e71)
        have y73 : M6 598 101 = v71 := e72
        exact jr.vreturn rfl rfl (q _ hI_M6 hH_M6 hS_M6  (Or.inl ⟨by omega, by omega⟩) (by omega) (by omega) (by omega) (by omega) (TXr.fr hT (w6_51 72 (by decide) (by decide) (by decide)) (fun i => w6_50 651 i (by decide)) (fun i => w6_50 649 i (by decide)) (fun i => w6_50 650 i (by decide))) (fun _ => zr.fe zfz (by omega) (by omega)) (fun q => by exfalso; omega) (fun q => by omega) (fun a i f598 f659 f660 f661 f662 f663 f664 f665 f666 f667 f668 f669 => ((w6_50 a i f598).trans rfl)) (fun i g73 g74 g75 g76 g77 g78 g79 g80 g81 g89 g90 g96 g100 g102 g107 => ((w6_51 i g80 g81 g89).trans rfl)))
  · refine jr.if_ne rfl rfl (by omega) (fun h => absurd h (by decide)) (fun _ => ?_)
    refine jr.aload_n rfl rfl ?_
    refine jr.iconst rfl ?_
    refine jr.bipush rfl (by decide) ?_
    refine jr_v rfl rfl (Or.inl rfl) rfl rfl (by decide) rfl ⟨rfl, Nat.le_of_ble_eq_true rfl, Nat.le_of_ble_eq_true rfl⟩ rfl (jc.deep (c_isWordIn_z hI_M (by omega) (by omega) (fun t17_0 t17_1 t17_2 => ?_) (fun f17_0 => ?_)) (by decide))
    · refine jr.if_eq rfl rfl (by omega) (fun h => absurd h (by decide)) (fun _ => ?_)
      refine jr.aload_n rfl rfl ?_
      obtain ⟨v74, e74⟩ : ∃ z, M 598 101 = z := ⟨_, rfl⟩
      have b74 : 0 ≤ v74 ∧ v74 ≤ 1 := by rw [← e74]; exact hI_M 598 101 (by decide)
      refine jr.getf (i := 101) (x := v74) (v := .int (Int32.ofInt (v74))) rfl rfl (by decide) rfl (by decide) rfl rfl e74 rfl ?_
      refine jr.if_eq rfl rfl (by omega) (fun h27 => ?_) (fun h27 => ?_)
      · refine jr.iconst rfl ?_
        refine jr.goto rfl rfl ?_
        refine jr.istore_n rfl (by decide) rfl ?_
        refine jr.iload_n rfl rfl ?_
        refine jr.if_ne rfl rfl (by omega) (fun _ => ?_) (fun h => absurd (by decide) h)
        refine jr.aload_n rfl rfl ?_
        obtain ⟨v75, e75⟩ : ∃ z, M 598 80 = z := ⟨_, rfl⟩
        have b75 : 0 ≤ v75 ∧ v75 ≤ 7 := by rw [← e75]; exact hI_M 598 80 (by decide)
        obtain ⟨v76, e76⟩ : ∃ z, M 598 89 = z := ⟨_, rfl⟩
        have b76 : 0 ≤ v76 ∧ v76 ≤ 301 := by rw [← e76]; exact hI_M 598 89 (by decide)
        obtain ⟨v77, e77⟩ : ∃ z, M 598 100 = z := ⟨_, rfl⟩
        have b77 : 0 ≤ v77 ∧ v77 ≤ 13 := by rw [← e77]; exact hI_M 598 100 (by decide)
        obtain ⟨v78, e78⟩ : ∃ z, M 598 81 = z := ⟨_, rfl⟩
        have b78 : (-1) ≤ v78 ∧ v78 ≤ 1600 := by rw [← e78]; exact hI_M 598 81 (by decide)
        obtain ⟨v80, e80⟩ : ∃ z, M 598 73 = z := ⟨_, rfl⟩
        have b80 : 0 ≤ v80 ∧ v80 ≤ 1600 := by rw [← e80]; exact hI_M 598 73 (by decide)
        obtain ⟨v82, e82⟩ : ∃ z, M 598 74 = z := ⟨_, rfl⟩
        have b82 : 0 ≤ v82 ∧ v82 ≤ 4 := by rw [← e82]; exact hI_M 598 74 (by decide)
        refine jr_v rfl rfl (Or.inl rfl) rfl rfl (by decide) rfl ⟨rfl, Nat.le_of_ble_eq_true rfl, Nat.le_of_ble_eq_true rfl⟩ rfl (jc.deep (c_node_z (f := f) (N := N) hI_M hH_M hS_M (by rw [e76]; omega) (by rw [e75]; omega) (fun M79 hI_M79 hH_M79 hS_M79 q979 ql79 q079 q179 w79_50 w79_51 => ?_) (fun M79 hI_M79 hH_M79 hS_M79 q979 ql79 q079 q179 w79_50 w79_51 => ?_)) (by decide))
        · have tk79 : TK M79 = TK M := TK.fr (w79_51 73 (by decide) (by decide) (by decide)) (w79_51 74 (by decide) (by decide) (by decide))
          have x79_72 := w79_51 72 (by decide) (by decide) (by decide)
          have x79_73 := w79_51 73 (by decide) (by decide) (by decide)
          have x79_74 := w79_51 74 (by decide) (by decide) (by decide)
          have x79_75 := w79_51 75 (by decide) (by decide) (by decide)
          have x79_76 := w79_51 76 (by decide) (by decide) (by decide)
          have x79_78 := w79_51 78 (by decide) (by decide) (by decide)
          have x79_79 := w79_51 79 (by decide) (by decide) (by decide)
          have x79_100 := w79_51 100 (by decide) (by decide) (by decide)
          have y81 : M 598 73 = v80 := e80
          have y83 : M 598 74 = v82 := e82
          have y84 : M 598 89 = v76 := e76
          have y85 : M 598 100 = v77 := e77
          have x79_73 := w79_51 73 (by decide) (by decide) (by decide)
          have x79_74 := w79_51 74 (by decide) (by decide) (by decide)
          have x79_100 := w79_51 100 (by decide) (by decide) (by decide)
          have hX := XS.fr2 hX w79_50 (w79_51 88 (by decide) (by decide) (by decide)) (w79_51 90 (by decide) (by decide) (by decide)) (w79_51 101 (by decide) (by decide) (by decide)) (w79_51 107 (by decide) (by decide) (by decide)) (k' := 2 + 2 + 2) (d' := 0) (z' := 0) (by omega) (by omega) (by omega) (by omega)
          have hA := AK.cp hA (CP.f (CP.rfl _) (fun i => w79_50 659 i (by decide)) (w79_51 90 (by decide) (by decide) (by decide))) (fun i => w79_50 663 i (by decide)) (w79_51 96 (by decide) (by decide) (by decide))
          have x79_101 := w79_51 101 (by decide) (by decide) (by decide)
          have x79_107 := w79_51 107 (by decide) (by decide) (by decide)
          have x79_88 := w79_51 88 (by decide) (by decide) (by decide)
          have x79_96 := w79_51 96 (by decide) (by decide) (by decide)
          refine jr.aload_n rfl rfl ?_
          obtain ⟨v86, e86⟩ : ∃ z, M79 598 80 = z := ⟨_, rfl⟩
          have b86 : 0 ≤ v86 ∧ v86 ≤ 7 := by rw [← e86]; exact hI_M79 598 80 (by decide)
          refine jr_v rfl rfl (Or.inl rfl) rfl rfl (by decide) rfl ⟨rfl, Nat.le_of_ble_eq_true rfl, Nat.le_of_ble_eq_true rfl⟩ rfl (jc.deep (c_good hI_M79  (fun t56_0 => ?_) (fun f56_0 => ?_)) (by decide))
          · refine jr.if_ne rfl rfl (by omega) (fun _ => ?_) (fun h => absurd (by decide) h)
            obtain ⟨v87, e87⟩ : ∃ z, M 598 96 = z := ⟨_, rfl⟩
            have b87 : 0 ≤ v87 ∧ v87 ≤ 300 := by rw [← e87]; exact hI_M 598 96 (by decide)
            have e88 : M79 598 96 = v87 := ((w79_51 96 (by decide) (by decide) (by decide)).trans e87)
            obtain ⟨v89, e89⟩ : ∃ z, M79 598 89 = z := ⟨_, rfl⟩
            have b89 : 0 ≤ v89 ∧ v89 ≤ 301 := by rw [← e89]; exact hI_M79 598 89 (by decide)
            have e90 : M79 598 100 = v77 := ((w79_51 100 (by decide) (by decide) (by decide)).trans e77)
            have e91 : M79 598 73 = v80 := ((w79_51 73 (by decide) (by decide) (by decide)).trans e80)
            obtain ⟨v92, e92⟩ : ∃ z, M 598 72 = z := ⟨_, rfl⟩
            have b92 : 0 ≤ v92 ∧ v92 ≤ 1600 := by rw [← e92]; exact hI_M 598 72 (by decide)
            have e93 : M79 598 72 = v92 := ((w79_51 72 (by decide) (by decide) (by decide)).trans e92)
            obtain ⟨v94, e94⟩ : ∃ z, M 598 107 = z := ⟨_, rfl⟩
            have b94 : 0 ≤ v94 ∧ v94 ≤ 16 := by rw [← e94]; exact hI_M 598 107 (by decide)
            have e95 : M79 598 107 = v94 := ((w79_51 107 (by decide) (by decide) (by decide)).trans e94)
            obtain ⟨v96, e96⟩ : ∃ z, M 598 88 = z := ⟨_, rfl⟩
            have b96 : 0 ≤ v96 ∧ v96 ≤ 16 := by rw [← e96]; exact hI_M 598 88 (by decide)
            have e97 : M79 598 88 = v96 := ((w79_51 88 (by decide) (by decide) (by decide)).trans e96)
            have e98 : M79 598 74 = v82 := ((w79_51 74 (by decide) (by decide) (by decide)).trans e82)
            obtain ⟨v99, e99⟩ : ∃ z, M 598 79 = z := ⟨_, rfl⟩
            have b99 : 0 ≤ v99 ∧ v99 ≤ 255 := by rw [← e99]; exact hI_M 598 79 (by decide)
            have e100 : M79 598 79 = v99 := ((w79_51 79 (by decide) (by decide) (by decide)).trans e99)
            obtain ⟨v101, e101⟩ : ∃ z, M 598 75 = z := ⟨_, rfl⟩
            have b101 : 0 ≤ v101 ∧ v101 ≤ 1600 := by rw [← e101]; exact hI_M 598 75 (by decide)
            have e102 : M79 598 75 = v101 := ((w79_51 75 (by decide) (by decide) (by decide)).trans e101)
            have y103 : M79 598 75 = v101 := e102
            have y104 : M79 598 80 = v86 := e86
            obtain ⟨v105, e105⟩ : ∃ z, M79 598 81 = z := ⟨_, rfl⟩
            have b105 : (-1) ≤ v105 ∧ v105 ≤ 1600 := by rw [← e105]; exact hI_M79 598 81 (by decide)
            have y106 : M79 598 81 = v105 := e105
            have y107 : M79 598 89 = v89 := e89
            have y108 : M79 598 96 = v87 := e88
            have y109 : M79 598 100 = v77 := e90
            have e110 : M79 598 101 = v74 := ((w79_51 101 (by decide) (by decide) (by decide)).trans e74)
            have y111 : M79 598 101 = v74 := e110
            have y112 : M79 598 107 = v94 := e95
            refine jr.pick [1, 2] rfl rfl ?_
            exact r_deed_L63_z q M79 v1 hI_M79 hH_M79 hS_M79  (fun a i f598 f659 f660 f661 f662 f663 f664 f665 f666 f667 f668 f669 => ((w79_50 a i f598).trans rfl)) (fun i g73 g74 g75 g76 g77 g78 g79 g80 g81 g89 g90 g96 g100 g102 g107 => ((w79_51 i g80 g81 g89).trans rfl)) (by omega) hX hA (by rw [e86] <;> omega) (by rw [e88, e89] <;> omega) (by rw [e90] <;> omega) (by rw [e91, e93] <;> omega) (by rw [e95] <;> omega) (by rw [e97] <;> omega) (by rw [e98, e100] <;> omega) (by omega) (by rw [e98] <;> omega) (by omega) (TKr.fr hK (w79_51 72 (by decide) (by decide) (by decide)) (fun i => w79_50 651 i (by decide)) (fun i => w79_50 649 i (by decide)) (fun i => w79_50 650 i (by decide)) (w79_51 73 (by decide) (by decide) (by decide)) (w79_51 74 (by decide) (by decide) (by decide)) (w79_51 75 (by decide) (by decide) (by decide)) (w79_51 76 (by decide) (by decide) (by decide)) (w79_51 77 (by decide) (by decide) (by decide)) (w79_51 78 (by decide) (by decide) (by decide)) (w79_51 79 (by decide) (by decide) (by decide))) (zr.eqx (hz) rfl rfl (by omega) (by omega) (by omega) (by rw [((blr_fr (fun i => w79_50 668 i (by decide)) (w79_51 107 (by decide) (by decide) (by decide))).trans rfl)])) (AKr.fr hAK (fun i => w79_50 661 i (by decide)) (fun i => w79_50 662 i (by decide)) (w79_51 96 (by decide) (by decide) (by decide))) (by have q := hK.wz (by omega); omega) (by omega) (by have q := hK.wz (by omega); omega) (by omega)
          · exfalso
            omega
        · have tk79 : TK M79 = TK M := TK.fr (w79_51 73 (by decide) (by decide) (by decide)) (w79_51 74 (by decide) (by decide) (by decide))
          have x79_72 := w79_51 72 (by decide) (by decide) (by decide)
          have x79_73 := w79_51 73 (by decide) (by decide) (by decide)
          have x79_74 := w79_51 74 (by decide) (by decide) (by decide)
          have x79_75 := w79_51 75 (by decide) (by decide) (by decide)
          have x79_76 := w79_51 76 (by decide) (by decide) (by decide)
          have x79_78 := w79_51 78 (by decide) (by decide) (by decide)
          have x79_79 := w79_51 79 (by decide) (by decide) (by decide)
          have x79_100 := w79_51 100 (by decide) (by decide) (by decide)
          have s0t := hK.wz (by omega)
          have zfz : zr f N xs (zft (M79 598 80) (M79 598 81)) := zr.fe (zr.dkL hne hz s0t.1 (by omega) (by omega)) (by omega) (by omega)
          refine jr.aload_n rfl rfl ?_
          obtain ⟨v113, e113⟩ : ∃ z, M79 598 80 = z := ⟨_, rfl⟩
          have b113 : 0 ≤ v113 ∧ v113 ≤ 7 := by rw [← e113]; exact hI_M79 598 80 (by decide)
          refine jr_v rfl rfl (Or.inl rfl) rfl rfl (by decide) rfl ⟨rfl, Nat.le_of_ble_eq_true rfl, Nat.le_of_ble_eq_true rfl⟩ rfl (jc.deep (c_good hI_M79  (fun t56_0 => ?_) (fun f56_0 => ?_)) (by decide))
          · exfalso
            omega
          · refine jr.if_ne rfl rfl (by omega) (fun h => absurd h (by decide)) (fun _ => ?_)
            obtain ⟨v114, e114⟩ : ∃ z, M 598 72 = z := ⟨_, rfl⟩
            have b114 : 0 ≤ v114 ∧ v114 ≤ 1600 := by rw [← e114]; exact hI_M 598 72 (by decide)
            have e115 : M79 598 72 = v114 := ((w79_51 72 (by decide) (by decide) (by decide)).trans e114)
            have y116 : M79 598 72 = v114 := e115
            have e117 : M79 598 73 = v80 := ((w79_51 73 (by decide) (by decide) (by decide)).trans e80)
            have y118 : M79 598 73 = v80 := e117
            have e119 : M79 598 74 = v82 := ((w79_51 74 (by decide) (by decide) (by decide)).trans e82)
            have y120 : M79 598 74 = v82 := e119
            obtain ⟨v121, e121⟩ : ∃ z, M 598 79 = z := ⟨_, rfl⟩
            have b121 : 0 ≤ v121 ∧ v121 ≤ 255 := by rw [← e121]; exact hI_M 598 79 (by decide)
            have e122 : M79 598 79 = v121 := ((w79_51 79 (by decide) (by decide) (by decide)).trans e121)
            have y123 : M79 598 79 = v121 := e122
            have y124 : M79 598 80 = v113 := e113
            obtain ⟨v125, e125⟩ : ∃ z, M79 598 89 = z := ⟨_, rfl⟩
            have b125 : 0 ≤ v125 ∧ v125 ≤ 301 := by rw [← e125]; exact hI_M79 598 89 (by decide)
            have y126 : M79 598 89 = v125 := e125
            obtain ⟨v127, e127⟩ : ∃ z, M 598 90 = z := ⟨_, rfl⟩
            have b127 : 0 ≤ v127 ∧ v127 ≤ 2200 := by rw [← e127]; exact hI_M 598 90 (by decide)
            have e128 : M79 598 90 = v127 := ((w79_51 90 (by decide) (by decide) (by decide)).trans e127)
            have y129 : M79 598 90 = v127 := e128
            obtain ⟨v130, e130⟩ : ∃ z, M 598 96 = z := ⟨_, rfl⟩
            have b130 : 0 ≤ v130 ∧ v130 ≤ 300 := by rw [← e130]; exact hI_M 598 96 (by decide)
            have e131 : M79 598 96 = v130 := ((w79_51 96 (by decide) (by decide) (by decide)).trans e130)
            have y132 : M79 598 96 = v130 := e131
            have e133 : M79 598 100 = v77 := ((w79_51 100 (by decide) (by decide) (by decide)).trans e77)
            have y134 : M79 598 100 = v77 := e133
            obtain ⟨v135, e135⟩ : ∃ z, M 598 107 = z := ⟨_, rfl⟩
            have b135 : 0 ≤ v135 ∧ v135 ≤ 16 := by rw [← e135]; exact hI_M 598 107 (by decide)
            have e136 : M79 598 107 = v135 := ((w79_51 107 (by decide) (by decide) (by decide)).trans e135)
            have y137 : M79 598 107 = v135 := e136
            obtain ⟨v138, e138⟩ : ∃ z, M 598 75 = z := ⟨_, rfl⟩
            have b138 : 0 ≤ v138 ∧ v138 ≤ 1600 := by rw [← e138]; exact hI_M 598 75 (by decide)
            have e139 : M79 598 75 = v138 := ((w79_51 75 (by decide) (by decide) (by decide)).trans e138)
            have y140 : M79 598 75 = v138 := e139
            obtain ⟨v141, e141⟩ : ∃ z, M79 598 81 = z := ⟨_, rfl⟩
            have b141 : (-1) ≤ v141 ∧ v141 ≤ 1600 := by rw [← e141]; exact hI_M79 598 81 (by decide)
            have y142 : M79 598 81 = v141 := e141
            have e143 : M79 598 101 = v74 := ((w79_51 101 (by decide) (by decide) (by decide)).trans e74)
            have y144 : M79 598 101 = v74 := e143
            exact jr.vreturn rfl rfl (q _ hI_M79 hH_M79 hS_M79  (Or.inl ⟨by omega, by omega⟩) (by omega) (by omega) (by omega) (by omega) (TXr.fr hT (w79_51 72 (by decide) (by decide) (by decide)) (fun i => w79_50 651 i (by decide)) (fun i => w79_50 649 i (by decide)) (fun i => w79_50 650 i (by decide))) (fun _ => zr.fe zfz (by omega) (by omega)) (fun q => by exfalso; omega) (fun q => by omega) (fun a i f598 f659 f660 f661 f662 f663 f664 f665 f666 f667 f668 f669 => ((w79_50 a i f598).trans rfl)) (fun i g73 g74 g75 g76 g77 g78 g79 g80 g81 g89 g90 g96 g100 g102 g107 => ((w79_51 i g80 g81 g89).trans rfl)))
      · refine jr.iload_n rfl rfl ?_
        refine jr.bipush rfl (by decide) ?_
        refine jr.icmp_le rfl rfl (by omega) (by omega) (fun h33 => ?_) (fun h33 => ?_)
        · refine jr.iconst rfl ?_
          refine jr.istore_n rfl (by decide) rfl ?_
          refine jr.iload_n rfl rfl ?_
          refine jr.if_ne rfl rfl (by omega) (fun h => absurd h (by decide)) (fun _ => ?_)
          refine jr.aload_n rfl rfl ?_
          obtain ⟨v145, e145⟩ : ∃ z, M 598 80 = z := ⟨_, rfl⟩
          have b145 : 0 ≤ v145 ∧ v145 ≤ 7 := by rw [← e145]; exact hI_M 598 80 (by decide)
          obtain ⟨v146, e146⟩ : ∃ z, M 598 89 = z := ⟨_, rfl⟩
          have b146 : 0 ≤ v146 ∧ v146 ≤ 301 := by rw [← e146]; exact hI_M 598 89 (by decide)
          obtain ⟨v147, e147⟩ : ∃ z, M 598 100 = z := ⟨_, rfl⟩
          have b147 : 0 ≤ v147 ∧ v147 ≤ 13 := by rw [← e147]; exact hI_M 598 100 (by decide)
          obtain ⟨v148, e148⟩ : ∃ z, M 598 81 = z := ⟨_, rfl⟩
          have b148 : (-1) ≤ v148 ∧ v148 ≤ 1600 := by rw [← e148]; exact hI_M 598 81 (by decide)
          refine jr_v rfl rfl (Or.inl rfl) rfl rfl (by decide) rfl ⟨rfl, Nat.le_of_ble_eq_true rfl, Nat.le_of_ble_eq_true rfl⟩ rfl (jc.deep (c_wrongToken_z (f := f) (N := N) hI_M hH_M hS_M hK (by rw [e145]; omega) (fun M149 hI_M149 hH_M149 hS_M149 qn149 q0149 q1149 w149_50 w149_51 => ?_)) (by decide))
          have tk149 : TK M149 = TK M := TK.fr (w149_51 73 (by decide) (by decide)) (w149_51 74 (by decide) (by decide))
          have x149_72 := w149_51 72 (by decide) (by decide)
          have x149_73 := w149_51 73 (by decide) (by decide)
          have x149_74 := w149_51 74 (by decide) (by decide)
          have x149_75 := w149_51 75 (by decide) (by decide)
          have x149_76 := w149_51 76 (by decide) (by decide)
          have x149_78 := w149_51 78 (by decide) (by decide)
          have x149_79 := w149_51 79 (by decide) (by decide)
          have x149_89 := w149_51 89 (by decide) (by decide)
          have x149_100 := w149_51 100 (by decide) (by decide)
          have zfz : zr f N xs (zft (M149 598 80) (M149 598 81)) := zr.rfz (zr.dnoL hne hz (hK.sn p6) (fun z => by have q := hK.wz (by omega); omega)) q0149 q1149
          obtain ⟨v150, e150⟩ : ∃ z, M 598 72 = z := ⟨_, rfl⟩
          have b150 : 0 ≤ v150 ∧ v150 ≤ 1600 := by rw [← e150]; exact hI_M 598 72 (by decide)
          have e151 : M149 598 72 = v150 := ((w149_51 72 (by decide) (by decide)).trans e150)
          have y152 : M149 598 72 = v150 := e151
          obtain ⟨v153, e153⟩ : ∃ z, M 598 73 = z := ⟨_, rfl⟩
          have b153 : 0 ≤ v153 ∧ v153 ≤ 1600 := by rw [← e153]; exact hI_M 598 73 (by decide)
          have e154 : M149 598 73 = v153 := ((w149_51 73 (by decide) (by decide)).trans e153)
          have y155 : M149 598 73 = v153 := e154
          obtain ⟨v156, e156⟩ : ∃ z, M 598 74 = z := ⟨_, rfl⟩
          have b156 : 0 ≤ v156 ∧ v156 ≤ 4 := by rw [← e156]; exact hI_M 598 74 (by decide)
          have e157 : M149 598 74 = v156 := ((w149_51 74 (by decide) (by decide)).trans e156)
          have y158 : M149 598 74 = v156 := e157
          obtain ⟨v159, e159⟩ : ∃ z, M 598 79 = z := ⟨_, rfl⟩
          have b159 : 0 ≤ v159 ∧ v159 ≤ 255 := by rw [← e159]; exact hI_M 598 79 (by decide)
          have e160 : M149 598 79 = v159 := ((w149_51 79 (by decide) (by decide)).trans e159)
          have y161 : M149 598 79 = v159 := e160
          obtain ⟨v162, e162⟩ : ∃ z, M149 598 80 = z := ⟨_, rfl⟩
          have b162 : 0 ≤ v162 ∧ v162 ≤ 7 := by rw [← e162]; exact hI_M149 598 80 (by decide)
          have y163 : M149 598 80 = v162 := e162
          have e164 : M149 598 89 = v146 := ((w149_51 89 (by decide) (by decide)).trans e146)
          have y165 : M149 598 89 = v146 := e164
          obtain ⟨v166, e166⟩ : ∃ z, M 598 90 = z := ⟨_, rfl⟩
          have b166 : 0 ≤ v166 ∧ v166 ≤ 2200 := by rw [← e166]; exact hI_M 598 90 (by decide)
          have e167 : M149 598 90 = v166 := ((w149_51 90 (by decide) (by decide)).trans e166)
          have y168 : M149 598 90 = v166 := e167
          obtain ⟨v169, e169⟩ : ∃ z, M 598 96 = z := ⟨_, rfl⟩
          have b169 : 0 ≤ v169 ∧ v169 ≤ 300 := by rw [← e169]; exact hI_M 598 96 (by decide)
          have e170 : M149 598 96 = v169 := ((w149_51 96 (by decide) (by decide)).trans e169)
          have y171 : M149 598 96 = v169 := e170
          have e172 : M149 598 100 = v147 := ((w149_51 100 (by decide) (by decide)).trans e147)
          have y173 : M149 598 100 = v147 := e172
          obtain ⟨v174, e174⟩ : ∃ z, M 598 107 = z := ⟨_, rfl⟩
          have b174 : 0 ≤ v174 ∧ v174 ≤ 16 := by rw [← e174]; exact hI_M 598 107 (by decide)
          have e175 : M149 598 107 = v174 := ((w149_51 107 (by decide) (by decide)).trans e174)
          have y176 : M149 598 107 = v174 := e175
          obtain ⟨v177, e177⟩ : ∃ z, M 598 75 = z := ⟨_, rfl⟩
          have b177 : 0 ≤ v177 ∧ v177 ≤ 1600 := by rw [← e177]; exact hI_M 598 75 (by decide)
          have e178 : M149 598 75 = v177 := ((w149_51 75 (by decide) (by decide)).trans e177)
          have y179 : M149 598 75 = v177 := e178
          obtain ⟨v180, e180⟩ : ∃ z, M149 598 81 = z := ⟨_, rfl⟩
          have b180 : (-1) ≤ v180 ∧ v180 ≤ 1600 := by rw [← e180]; exact hI_M149 598 81 (by decide)
          have y181 : M149 598 81 = v180 := e180
          have e182 : M149 598 101 = v74 := ((w149_51 101 (by decide) (by decide)).trans e74)
          have y183 : M149 598 101 = v74 := e182
          exact jr.vreturn rfl rfl (q _ hI_M149 hH_M149 hS_M149  (Or.inl ⟨by omega, by omega⟩) (by omega) (by omega) (by omega) (by omega) (TXr.fr hT (w149_51 72 (by decide) (by decide)) (fun i => w149_50 651 i (by decide)) (fun i => w149_50 649 i (by decide)) (fun i => w149_50 650 i (by decide))) (fun _ => zr.fe zfz (by omega) (by omega)) (fun q => by exfalso; omega) (fun q => by omega) (fun a i f598 f659 f660 f661 f662 f663 f664 f665 f666 f667 f668 f669 => ((w149_50 a i f598).trans rfl)) (fun i g73 g74 g75 g76 g77 g78 g79 g80 g81 g89 g90 g96 g100 g102 g107 => ((w149_51 i g80 g81).trans rfl)))
        · refine jr.iconst rfl ?_
          refine jr.goto rfl rfl ?_
          refine jr.istore_n rfl (by decide) rfl ?_
          refine jr.iload_n rfl rfl ?_
          refine jr.if_ne rfl rfl (by omega) (fun _ => ?_) (fun h => absurd (by decide) h)
          refine jr.aload_n rfl rfl ?_
          obtain ⟨v184, e184⟩ : ∃ z, M 598 80 = z := ⟨_, rfl⟩
          have b184 : 0 ≤ v184 ∧ v184 ≤ 7 := by rw [← e184]; exact hI_M 598 80 (by decide)
          obtain ⟨v185, e185⟩ : ∃ z, M 598 89 = z := ⟨_, rfl⟩
          have b185 : 0 ≤ v185 ∧ v185 ≤ 301 := by rw [← e185]; exact hI_M 598 89 (by decide)
          obtain ⟨v186, e186⟩ : ∃ z, M 598 100 = z := ⟨_, rfl⟩
          have b186 : 0 ≤ v186 ∧ v186 ≤ 13 := by rw [← e186]; exact hI_M 598 100 (by decide)
          obtain ⟨v187, e187⟩ : ∃ z, M 598 81 = z := ⟨_, rfl⟩
          have b187 : (-1) ≤ v187 ∧ v187 ≤ 1600 := by rw [← e187]; exact hI_M 598 81 (by decide)
          obtain ⟨v189, e189⟩ : ∃ z, M 598 73 = z := ⟨_, rfl⟩
          have b189 : 0 ≤ v189 ∧ v189 ≤ 1600 := by rw [← e189]; exact hI_M 598 73 (by decide)
          obtain ⟨v191, e191⟩ : ∃ z, M 598 74 = z := ⟨_, rfl⟩
          have b191 : 0 ≤ v191 ∧ v191 ≤ 4 := by rw [← e191]; exact hI_M 598 74 (by decide)
          refine jr_v rfl rfl (Or.inl rfl) rfl rfl (by decide) rfl ⟨rfl, Nat.le_of_ble_eq_true rfl, Nat.le_of_ble_eq_true rfl⟩ rfl (jc.deep (c_node_z (f := f) (N := N) hI_M hH_M hS_M (by rw [e185]; omega) (by rw [e184]; omega) (fun M188 hI_M188 hH_M188 hS_M188 q9188 ql188 q0188 q1188 w188_50 w188_51 => ?_) (fun M188 hI_M188 hH_M188 hS_M188 q9188 ql188 q0188 q1188 w188_50 w188_51 => ?_)) (by decide))
          · have tk188 : TK M188 = TK M := TK.fr (w188_51 73 (by decide) (by decide) (by decide)) (w188_51 74 (by decide) (by decide) (by decide))
            have x188_72 := w188_51 72 (by decide) (by decide) (by decide)
            have x188_73 := w188_51 73 (by decide) (by decide) (by decide)
            have x188_74 := w188_51 74 (by decide) (by decide) (by decide)
            have x188_75 := w188_51 75 (by decide) (by decide) (by decide)
            have x188_76 := w188_51 76 (by decide) (by decide) (by decide)
            have x188_78 := w188_51 78 (by decide) (by decide) (by decide)
            have x188_79 := w188_51 79 (by decide) (by decide) (by decide)
            have x188_100 := w188_51 100 (by decide) (by decide) (by decide)
            have y190 : M 598 73 = v189 := e189
            have y192 : M 598 74 = v191 := e191
            have y193 : M 598 89 = v185 := e185
            have y194 : M 598 100 = v186 := e186
            have x188_73 := w188_51 73 (by decide) (by decide) (by decide)
            have x188_74 := w188_51 74 (by decide) (by decide) (by decide)
            have x188_100 := w188_51 100 (by decide) (by decide) (by decide)
            have hX := XS.fr2 hX w188_50 (w188_51 88 (by decide) (by decide) (by decide)) (w188_51 90 (by decide) (by decide) (by decide)) (w188_51 101 (by decide) (by decide) (by decide)) (w188_51 107 (by decide) (by decide) (by decide)) (k' := 2 + 2 + 2) (d' := 0) (z' := 0) (by omega) (by omega) (by omega) (by omega)
            have hA := AK.cp hA (CP.f (CP.rfl _) (fun i => w188_50 659 i (by decide)) (w188_51 90 (by decide) (by decide) (by decide))) (fun i => w188_50 663 i (by decide)) (w188_51 96 (by decide) (by decide) (by decide))
            have x188_101 := w188_51 101 (by decide) (by decide) (by decide)
            have x188_107 := w188_51 107 (by decide) (by decide) (by decide)
            have x188_88 := w188_51 88 (by decide) (by decide) (by decide)
            have x188_96 := w188_51 96 (by decide) (by decide) (by decide)
            refine jr.aload_n rfl rfl ?_
            obtain ⟨v195, e195⟩ : ∃ z, M188 598 80 = z := ⟨_, rfl⟩
            have b195 : 0 ≤ v195 ∧ v195 ≤ 7 := by rw [← e195]; exact hI_M188 598 80 (by decide)
            refine jr_v rfl rfl (Or.inl rfl) rfl rfl (by decide) rfl ⟨rfl, Nat.le_of_ble_eq_true rfl, Nat.le_of_ble_eq_true rfl⟩ rfl (jc.deep (c_good hI_M188  (fun t56_0 => ?_) (fun f56_0 => ?_)) (by decide))
            · refine jr.if_ne rfl rfl (by omega) (fun _ => ?_) (fun h => absurd (by decide) h)
              obtain ⟨v196, e196⟩ : ∃ z, M 598 96 = z := ⟨_, rfl⟩
              have b196 : 0 ≤ v196 ∧ v196 ≤ 300 := by rw [← e196]; exact hI_M 598 96 (by decide)
              have e197 : M188 598 96 = v196 := ((w188_51 96 (by decide) (by decide) (by decide)).trans e196)
              obtain ⟨v198, e198⟩ : ∃ z, M188 598 89 = z := ⟨_, rfl⟩
              have b198 : 0 ≤ v198 ∧ v198 ≤ 301 := by rw [← e198]; exact hI_M188 598 89 (by decide)
              have e199 : M188 598 100 = v186 := ((w188_51 100 (by decide) (by decide) (by decide)).trans e186)
              have e200 : M188 598 73 = v189 := ((w188_51 73 (by decide) (by decide) (by decide)).trans e189)
              obtain ⟨v201, e201⟩ : ∃ z, M 598 72 = z := ⟨_, rfl⟩
              have b201 : 0 ≤ v201 ∧ v201 ≤ 1600 := by rw [← e201]; exact hI_M 598 72 (by decide)
              have e202 : M188 598 72 = v201 := ((w188_51 72 (by decide) (by decide) (by decide)).trans e201)
              obtain ⟨v203, e203⟩ : ∃ z, M 598 107 = z := ⟨_, rfl⟩
              have b203 : 0 ≤ v203 ∧ v203 ≤ 16 := by rw [← e203]; exact hI_M 598 107 (by decide)
              have e204 : M188 598 107 = v203 := ((w188_51 107 (by decide) (by decide) (by decide)).trans e203)
              obtain ⟨v205, e205⟩ : ∃ z, M 598 88 = z := ⟨_, rfl⟩
              have b205 : 0 ≤ v205 ∧ v205 ≤ 16 := by rw [← e205]; exact hI_M 598 88 (by decide)
              have e206 : M188 598 88 = v205 := ((w188_51 88 (by decide) (by decide) (by decide)).trans e205)
              have e207 : M188 598 74 = v191 := ((w188_51 74 (by decide) (by decide) (by decide)).trans e191)
              obtain ⟨v208, e208⟩ : ∃ z, M 598 79 = z := ⟨_, rfl⟩
              have b208 : 0 ≤ v208 ∧ v208 ≤ 255 := by rw [← e208]; exact hI_M 598 79 (by decide)
              have e209 : M188 598 79 = v208 := ((w188_51 79 (by decide) (by decide) (by decide)).trans e208)
              obtain ⟨v210, e210⟩ : ∃ z, M 598 75 = z := ⟨_, rfl⟩
              have b210 : 0 ≤ v210 ∧ v210 ≤ 1600 := by rw [← e210]; exact hI_M 598 75 (by decide)
              have e211 : M188 598 75 = v210 := ((w188_51 75 (by decide) (by decide) (by decide)).trans e210)
              have y212 : M188 598 75 = v210 := e211
              have y213 : M188 598 80 = v195 := e195
              obtain ⟨v214, e214⟩ : ∃ z, M188 598 81 = z := ⟨_, rfl⟩
              have b214 : (-1) ≤ v214 ∧ v214 ≤ 1600 := by rw [← e214]; exact hI_M188 598 81 (by decide)
              have y215 : M188 598 81 = v214 := e214
              have y216 : M188 598 89 = v198 := e198
              have y217 : M188 598 96 = v196 := e197
              have y218 : M188 598 100 = v186 := e199
              have e219 : M188 598 101 = v74 := ((w188_51 101 (by decide) (by decide) (by decide)).trans e74)
              have y220 : M188 598 101 = v74 := e219
              have y221 : M188 598 107 = v203 := e204
              refine jr.pick [1, 2] rfl rfl ?_
              exact r_deed_L63_z q M188 v1 hI_M188 hH_M188 hS_M188  (fun a i f598 f659 f660 f661 f662 f663 f664 f665 f666 f667 f668 f669 => ((w188_50 a i f598).trans rfl)) (fun i g73 g74 g75 g76 g77 g78 g79 g80 g81 g89 g90 g96 g100 g102 g107 => ((w188_51 i g80 g81 g89).trans rfl)) (by omega) hX hA (by rw [e195] <;> omega) (by rw [e197, e198] <;> omega) (by rw [e199] <;> omega) (by rw [e200, e202] <;> omega) (by rw [e204] <;> omega) (by rw [e206] <;> omega) (by rw [e207, e209] <;> omega) (by omega) (by rw [e207] <;> omega) (by omega) (TKr.fr hK (w188_51 72 (by decide) (by decide) (by decide)) (fun i => w188_50 651 i (by decide)) (fun i => w188_50 649 i (by decide)) (fun i => w188_50 650 i (by decide)) (w188_51 73 (by decide) (by decide) (by decide)) (w188_51 74 (by decide) (by decide) (by decide)) (w188_51 75 (by decide) (by decide) (by decide)) (w188_51 76 (by decide) (by decide) (by decide)) (w188_51 77 (by decide) (by decide) (by decide)) (w188_51 78 (by decide) (by decide) (by decide)) (w188_51 79 (by decide) (by decide) (by decide))) (zr.eqx (hz) rfl rfl (by omega) (by omega) (by omega) (by rw [((blr_fr (fun i => w188_50 668 i (by decide)) (w188_51 107 (by decide) (by decide) (by decide))).trans rfl)])) (AKr.fr hAK (fun i => w188_50 661 i (by decide)) (fun i => w188_50 662 i (by decide)) (w188_51 96 (by decide) (by decide) (by decide))) (by have q := hK.wz (by omega); omega) (by omega) (by have q := hK.wz (by omega); omega) (by omega)
            · exfalso
              omega
          · have tk188 : TK M188 = TK M := TK.fr (w188_51 73 (by decide) (by decide) (by decide)) (w188_51 74 (by decide) (by decide) (by decide))
            have x188_72 := w188_51 72 (by decide) (by decide) (by decide)
            have x188_73 := w188_51 73 (by decide) (by decide) (by decide)
            have x188_74 := w188_51 74 (by decide) (by decide) (by decide)
            have x188_75 := w188_51 75 (by decide) (by decide) (by decide)
            have x188_76 := w188_51 76 (by decide) (by decide) (by decide)
            have x188_78 := w188_51 78 (by decide) (by decide) (by decide)
            have x188_79 := w188_51 79 (by decide) (by decide) (by decide)
            have x188_100 := w188_51 100 (by decide) (by decide) (by decide)
            have s0t := hK.wz (by omega)
            have zfz : zr f N xs (zft (M188 598 80) (M188 598 81)) := zr.fe (zr.dkL hne hz s0t.1 (by omega) (by omega)) (by omega) (by omega)
            refine jr.aload_n rfl rfl ?_
            obtain ⟨v222, e222⟩ : ∃ z, M188 598 80 = z := ⟨_, rfl⟩
            have b222 : 0 ≤ v222 ∧ v222 ≤ 7 := by rw [← e222]; exact hI_M188 598 80 (by decide)
            refine jr_v rfl rfl (Or.inl rfl) rfl rfl (by decide) rfl ⟨rfl, Nat.le_of_ble_eq_true rfl, Nat.le_of_ble_eq_true rfl⟩ rfl (jc.deep (c_good hI_M188  (fun t56_0 => ?_) (fun f56_0 => ?_)) (by decide))
            · exfalso
              omega
            · refine jr.if_ne rfl rfl (by omega) (fun h => absurd h (by decide)) (fun _ => ?_)
              obtain ⟨v223, e223⟩ : ∃ z, M 598 72 = z := ⟨_, rfl⟩
              have b223 : 0 ≤ v223 ∧ v223 ≤ 1600 := by rw [← e223]; exact hI_M 598 72 (by decide)
              have e224 : M188 598 72 = v223 := ((w188_51 72 (by decide) (by decide) (by decide)).trans e223)
              have y225 : M188 598 72 = v223 := e224
              have e226 : M188 598 73 = v189 := ((w188_51 73 (by decide) (by decide) (by decide)).trans e189)
              have y227 : M188 598 73 = v189 := e226
              have e228 : M188 598 74 = v191 := ((w188_51 74 (by decide) (by decide) (by decide)).trans e191)
              have y229 : M188 598 74 = v191 := e228
              obtain ⟨v230, e230⟩ : ∃ z, M 598 79 = z := ⟨_, rfl⟩
              have b230 : 0 ≤ v230 ∧ v230 ≤ 255 := by rw [← e230]; exact hI_M 598 79 (by decide)
              have e231 : M188 598 79 = v230 := ((w188_51 79 (by decide) (by decide) (by decide)).trans e230)
              have y232 : M188 598 79 = v230 := e231
              have y233 : M188 598 80 = v222 := e222
              obtain ⟨v234, e234⟩ : ∃ z, M188 598 89 = z := ⟨_, rfl⟩
              have b234 : 0 ≤ v234 ∧ v234 ≤ 301 := by rw [← e234]; exact hI_M188 598 89 (by decide)
              have y235 : M188 598 89 = v234 := e234
              obtain ⟨v236, e236⟩ : ∃ z, M 598 90 = z := ⟨_, rfl⟩
              have b236 : 0 ≤ v236 ∧ v236 ≤ 2200 := by rw [← e236]; exact hI_M 598 90 (by decide)
              have e237 : M188 598 90 = v236 := ((w188_51 90 (by decide) (by decide) (by decide)).trans e236)
              have y238 : M188 598 90 = v236 := e237
              obtain ⟨v239, e239⟩ : ∃ z, M 598 96 = z := ⟨_, rfl⟩
              have b239 : 0 ≤ v239 ∧ v239 ≤ 300 := by rw [← e239]; exact hI_M 598 96 (by decide)
              have e240 : M188 598 96 = v239 := ((w188_51 96 (by decide) (by decide) (by decide)).trans e239)
              have y241 : M188 598 96 = v239 := e240
              have e242 : M188 598 100 = v186 := ((w188_51 100 (by decide) (by decide) (by decide)).trans e186)
              have y243 : M188 598 100 = v186 := e242
              obtain ⟨v244, e244⟩ : ∃ z, M 598 107 = z := ⟨_, rfl⟩
              have b244 : 0 ≤ v244 ∧ v244 ≤ 16 := by rw [← e244]; exact hI_M 598 107 (by decide)
              have e245 : M188 598 107 = v244 := ((w188_51 107 (by decide) (by decide) (by decide)).trans e244)
              have y246 : M188 598 107 = v244 := e245
              obtain ⟨v247, e247⟩ : ∃ z, M 598 75 = z := ⟨_, rfl⟩
              have b247 : 0 ≤ v247 ∧ v247 ≤ 1600 := by rw [← e247]; exact hI_M 598 75 (by decide)
              have e248 : M188 598 75 = v247 := ((w188_51 75 (by decide) (by decide) (by decide)).trans e247)
              have y249 : M188 598 75 = v247 := e248
              obtain ⟨v250, e250⟩ : ∃ z, M188 598 81 = z := ⟨_, rfl⟩
              have b250 : (-1) ≤ v250 ∧ v250 ≤ 1600 := by rw [← e250]; exact hI_M188 598 81 (by decide)
              have y251 : M188 598 81 = v250 := e250
              have e252 : M188 598 101 = v74 := ((w188_51 101 (by decide) (by decide) (by decide)).trans e74)
              have y253 : M188 598 101 = v74 := e252
              exact jr.vreturn rfl rfl (q _ hI_M188 hH_M188 hS_M188  (Or.inl ⟨by omega, by omega⟩) (by omega) (by omega) (by omega) (by omega) (TXr.fr hT (w188_51 72 (by decide) (by decide) (by decide)) (fun i => w188_50 651 i (by decide)) (fun i => w188_50 649 i (by decide)) (fun i => w188_50 650 i (by decide))) (fun _ => zr.fe zfz (by omega) (by omega)) (fun q => by exfalso; omega) (fun q => by omega) (fun a i f598 f659 f660 f661 f662 f663 f664 f665 f666 f667 f668 f669 => ((w188_50 a i f598).trans rfl)) (fun i g73 g74 g75 g76 g77 g78 g79 g80 g81 g89 g90 g96 g100 g102 g107 => ((w188_51 i g80 g81 g89).trans rfl)))
    · refine jr.if_eq rfl rfl (by omega) (fun _ => ?_) (fun h => absurd (by decide) h)
      refine jr.iconst rfl ?_
      refine jr.istore_n rfl (by decide) rfl ?_
      refine jr.iload_n rfl rfl ?_
      refine jr.if_ne rfl rfl (by omega) (fun h => absurd h (by decide)) (fun _ => ?_)
      refine jr.aload_n rfl rfl ?_
      obtain ⟨v254, e254⟩ : ∃ z, M 598 80 = z := ⟨_, rfl⟩
      have b254 : 0 ≤ v254 ∧ v254 ≤ 7 := by rw [← e254]; exact hI_M 598 80 (by decide)
      obtain ⟨v255, e255⟩ : ∃ z, M 598 89 = z := ⟨_, rfl⟩
      have b255 : 0 ≤ v255 ∧ v255 ≤ 301 := by rw [← e255]; exact hI_M 598 89 (by decide)
      obtain ⟨v256, e256⟩ : ∃ z, M 598 100 = z := ⟨_, rfl⟩
      have b256 : 0 ≤ v256 ∧ v256 ≤ 13 := by rw [← e256]; exact hI_M 598 100 (by decide)
      obtain ⟨v257, e257⟩ : ∃ z, M 598 81 = z := ⟨_, rfl⟩
      have b257 : (-1) ≤ v257 ∧ v257 ≤ 1600 := by rw [← e257]; exact hI_M 598 81 (by decide)
      refine jr_v rfl rfl (Or.inl rfl) rfl rfl (by decide) rfl ⟨rfl, Nat.le_of_ble_eq_true rfl, Nat.le_of_ble_eq_true rfl⟩ rfl (jc.deep (c_wrongToken_z (f := f) (N := N) hI_M hH_M hS_M hK (by rw [e254]; omega) (fun M258 hI_M258 hH_M258 hS_M258 qn258 q0258 q1258 w258_50 w258_51 => ?_)) (by decide))
      have tk258 : TK M258 = TK M := TK.fr (w258_51 73 (by decide) (by decide)) (w258_51 74 (by decide) (by decide))
      have x258_72 := w258_51 72 (by decide) (by decide)
      have x258_73 := w258_51 73 (by decide) (by decide)
      have x258_74 := w258_51 74 (by decide) (by decide)
      have x258_75 := w258_51 75 (by decide) (by decide)
      have x258_76 := w258_51 76 (by decide) (by decide)
      have x258_78 := w258_51 78 (by decide) (by decide)
      have x258_79 := w258_51 79 (by decide) (by decide)
      have x258_89 := w258_51 89 (by decide) (by decide)
      have x258_100 := w258_51 100 (by decide) (by decide)
      have zfz : zr f N xs (zft (M258 598 80) (M258 598 81)) := zr.rfz (zr.dnoL hne hz (hK.sn p6) (fun z => by have q := hK.wz (by omega); omega)) q0258 q1258
      obtain ⟨v259, e259⟩ : ∃ z, M 598 72 = z := ⟨_, rfl⟩
      have b259 : 0 ≤ v259 ∧ v259 ≤ 1600 := by rw [← e259]; exact hI_M 598 72 (by decide)
      have e260 : M258 598 72 = v259 := ((w258_51 72 (by decide) (by decide)).trans e259)
      have y261 : M258 598 72 = v259 := e260
      obtain ⟨v262, e262⟩ : ∃ z, M 598 73 = z := ⟨_, rfl⟩
      have b262 : 0 ≤ v262 ∧ v262 ≤ 1600 := by rw [← e262]; exact hI_M 598 73 (by decide)
      have e263 : M258 598 73 = v262 := ((w258_51 73 (by decide) (by decide)).trans e262)
      have y264 : M258 598 73 = v262 := e263
      obtain ⟨v265, e265⟩ : ∃ z, M 598 74 = z := ⟨_, rfl⟩
      have b265 : 0 ≤ v265 ∧ v265 ≤ 4 := by rw [← e265]; exact hI_M 598 74 (by decide)
      have e266 : M258 598 74 = v265 := ((w258_51 74 (by decide) (by decide)).trans e265)
      have y267 : M258 598 74 = v265 := e266
      obtain ⟨v268, e268⟩ : ∃ z, M 598 79 = z := ⟨_, rfl⟩
      have b268 : 0 ≤ v268 ∧ v268 ≤ 255 := by rw [← e268]; exact hI_M 598 79 (by decide)
      have e269 : M258 598 79 = v268 := ((w258_51 79 (by decide) (by decide)).trans e268)
      have y270 : M258 598 79 = v268 := e269
      obtain ⟨v271, e271⟩ : ∃ z, M258 598 80 = z := ⟨_, rfl⟩
      have b271 : 0 ≤ v271 ∧ v271 ≤ 7 := by rw [← e271]; exact hI_M258 598 80 (by decide)
      have y272 : M258 598 80 = v271 := e271
      have e273 : M258 598 89 = v255 := ((w258_51 89 (by decide) (by decide)).trans e255)
      have y274 : M258 598 89 = v255 := e273
      obtain ⟨v275, e275⟩ : ∃ z, M 598 90 = z := ⟨_, rfl⟩
      have b275 : 0 ≤ v275 ∧ v275 ≤ 2200 := by rw [← e275]; exact hI_M 598 90 (by decide)
      have e276 : M258 598 90 = v275 := ((w258_51 90 (by decide) (by decide)).trans e275)
      have y277 : M258 598 90 = v275 := e276
      obtain ⟨v278, e278⟩ : ∃ z, M 598 96 = z := ⟨_, rfl⟩
      have b278 : 0 ≤ v278 ∧ v278 ≤ 300 := by rw [← e278]; exact hI_M 598 96 (by decide)
      have e279 : M258 598 96 = v278 := ((w258_51 96 (by decide) (by decide)).trans e278)
      have y280 : M258 598 96 = v278 := e279
      have e281 : M258 598 100 = v256 := ((w258_51 100 (by decide) (by decide)).trans e256)
      have y282 : M258 598 100 = v256 := e281
      obtain ⟨v283, e283⟩ : ∃ z, M 598 107 = z := ⟨_, rfl⟩
      have b283 : 0 ≤ v283 ∧ v283 ≤ 16 := by rw [← e283]; exact hI_M 598 107 (by decide)
      have e284 : M258 598 107 = v283 := ((w258_51 107 (by decide) (by decide)).trans e283)
      have y285 : M258 598 107 = v283 := e284
      obtain ⟨v286, e286⟩ : ∃ z, M 598 75 = z := ⟨_, rfl⟩
      have b286 : 0 ≤ v286 ∧ v286 ≤ 1600 := by rw [← e286]; exact hI_M 598 75 (by decide)
      have e287 : M258 598 75 = v286 := ((w258_51 75 (by decide) (by decide)).trans e286)
      have y288 : M258 598 75 = v286 := e287
      obtain ⟨v289, e289⟩ : ∃ z, M258 598 81 = z := ⟨_, rfl⟩
      have b289 : (-1) ≤ v289 ∧ v289 ≤ 1600 := by rw [← e289]; exact hI_M258 598 81 (by decide)
      have y290 : M258 598 81 = v289 := e289
      obtain ⟨v291, e291⟩ : ∃ z, M 598 101 = z := ⟨_, rfl⟩
      have b291 : 0 ≤ v291 ∧ v291 ≤ 1 := by rw [← e291]; exact hI_M 598 101 (by decide)
      have e292 : M258 598 101 = v291 := ((w258_51 101 (by decide) (by decide)).trans e291)
      have y293 : M258 598 101 = v291 := e292
      exact jr.vreturn rfl rfl (q _ hI_M258 hH_M258 hS_M258  (Or.inl ⟨by omega, by omega⟩) (by omega) (by omega) (by omega) (by omega) (TXr.fr hT (w258_51 72 (by decide) (by decide)) (fun i => w258_50 651 i (by decide)) (fun i => w258_50 649 i (by decide)) (fun i => w258_50 650 i (by decide))) (fun _ => zr.fe zfz (by omega) (by omega)) (fun q => by exfalso; omega) (fun q => by omega) (fun a i f598 f659 f660 f661 f662 f663 f664 f665 f666 f667 f668 f669 => ((w258_50 a i f598).trans rfl)) (fun i g73 g74 g75 g76 g77 g78 g79 g80 g81 g89 g90 g96 g100 g102 g107 => ((w258_51 i g80 g81).trans rfl)))
