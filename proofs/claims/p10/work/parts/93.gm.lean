section
/-! ===== the reference: finish ===== -/
noncomputable def kG (M : jm) (g : Int) : Int → Int := fun k => M 618 (400 * g + k)
noncomputable def rG1 (M : jm) (g : Int) : Int → Int := fun k => M 615 (360 * g + k)
noncomputable def pG (M : jm) : Nat → Int → Int
  | 0, _ => -1
  | n + 1, i => if M 600 i = -1 then i else pG M n (i + 1)
theorem pG_s {M : jm} {i : Int} (h : i < 24) : pG M (24 - i).toNat i = if M 600 i = -1 then i else pG M (24 - (i + 1)).toNat (i + 1) := by
  obtain ⟨n, hn⟩ : ∃ n : Nat, i = 23 - n := ⟨(23 - i).toNat, by omega⟩
  subst hn
  rw [show (24 - (23 - (n : Int))).toNat = n + 1 by omega, show (24 - (23 - (n : Int) + 1)).toNat = n by omega]
  rfl
noncomputable def hl2 (K H : Int) : Int := if K = 2 then H else H - 8
noncomputable def mkG (M : jm) (g p : Int) : Int → Int := mk0 (kG M g) (rG1 M g) (rf M p) (hl2 (M 607 g) (M 617 g)) (M 614 g)
noncomputable def mkR (M : jm) (g p : Int) : Int → Int := if M 607 g = 2 then ptn (mk2 (mkG M g p) (M 621 g) (hl2 (M 607 g) (M 617 g) + M 614 g)) (M 621 g + 10) 2 (tn (sb (fz (mk2 (mkG M g p) (M 621 g) (hl2 (M 607 g) (M 617 g) + M 614 g)) (M 621 g + 10)) (M 621 g) (4 * (mk2 (mkG M g p) (M 621 g) (hl2 (M 607 g) (M 617 g) + M 614 g) (M 621 g) % 16)).toNat)) else ptn (ptn (mkG M g p) (M 620 g) 1 (M 618 (400 * g + M 619 g))) (M 621 g + 2) 2 (hl2 (M 607 g) (M 617 g) + M 614 g - M 621 g - 24)
noncomputable def NR6 (M : jm) (g : Int) : Prop := M 614 g = -1 ∨ M 617 g = -1 ∨ rdy (wR M g) (M 614 g).toNat 0 = 0
theorem rf_w (M : jm) (x i v : Int) : rf (ju M 601 (400 * x + i) v) x = fun j => if j = i then v else rf M x j := by
  funext j
  unfold rf
  by_cases e : j = i
  · subst e; rw [ju_same, if_pos rfl]
  · rw [ju_i _ _ (by omega), if_neg e]
theorem mk0_z (kp rw f : Int → Int) : f = mk0 kp rw f 0 0 := by
  funext j
  unfold mk0
  rw [if_neg (by omega), if_neg (by omega)]
theorem mk0_k {M : jm} {kp rw f : Int → Int} {p k v : Int} (h : rf M p = mk0 kp rw f k 0) (h0 : 0 ≤ k) (hv : v = kp k) : rf (ju M 601 (400 * p + k) v) p = mk0 kp rw f (k + 1) 0 := by
  rw [rf_w, h]
  funext j
  unfold mk0
  by_cases e : j = k
  · subst e; rw [if_pos rfl, if_pos (by omega), hv]
  · rw [if_neg e]
    by_cases q : 0 ≤ j ∧ j < k
    · rw [if_pos q, if_pos (by omega)]
    · rw [if_neg q, if_neg (by omega), if_neg (by omega), if_neg (by omega)]
theorem mk0_w {M : jm} {kp rw f : Int → Int} {p d k v : Int} (h : rf M p = mk0 kp rw f d k) (hd : 0 ≤ d) (h0 : 0 ≤ k) (hv : v = rw k) : rf (ju M 601 (400 * p + d + k) v) p = mk0 kp rw f d (k + 1) := by
  rw [show 400 * p + d + k = 400 * p + (d + k) by omega, rf_w, h]
  funext j
  unfold mk0
  by_cases e : j = d + k
  · subst e; rw [if_pos rfl, if_neg (by omega), if_pos (by omega), show d + k - d = k by omega, hv]
  · rw [if_neg e]
    by_cases q : 0 ≤ j ∧ j < d
    · rw [if_pos q, if_pos q]
    · rw [if_neg q, if_neg q]
      by_cases q2 : d ≤ j ∧ j < d + k
      · rw [if_pos q2, if_pos (by omega)]
      · rw [if_neg q2, if_neg (by omega)]
theorem rf_1 {M : jm} {p y v : Int} (hv : 0 ≤ v ∧ v ≤ 255) : rf (ju M 601 (400 * p + y) v) p = ptn (rf M p) y 1 v := by
  rw [rf_w]
  funext j
  unfold ptn
  by_cases e : j = y
  · subst e
    rw [if_pos rfl, if_pos (by omega), show j + 1 - 1 - j = 0 by omega]
    show v = v % 256
    omega
  · rw [if_neg e, if_neg (by omega)]
/-- what finish leaves behind -/
noncomputable def FIN (M M' : jm) (g r : Int) : Prop := (NR6 M g ∧ r = -1 ∧ M' = M) ∨ (¬ NR6 M g ∧ ((pG M 24 0 = -1 ∨ 400 < hl2 (M 607 g) (M 617 g) + M 614 g) ∧ r = -5 ∧ M' = M)) ∨ (¬ NR6 M g ∧ (pG M 24 0 ≠ -1 ∧ hl2 (M 607 g) (M 617 g) + M 614 g ≤ 400) ∧ r = pG M 24 0 ∧ (M' 600 r = hl2 (M 607 g) (M 617 g) + M 614 g ∧ M' 606 g = 0 ∧ rf M' r = mkR M g r) ∧ OX M M' r ∧ (∀ j : Int, j ≠ r → M' 600 j = M 600 j) ∧ ∀ j : Int, j ≠ g → M' 606 j = M 606 j)
theorem fin_2 {M : jm} {g p nt ln d W x ra rt : Int} {f0 fa fb fc : Int → Int} (hK : M 607 g = 2) (hn : M 621 g = nt) (hd : hl2 (M 607 g) (M 617 g) = d) (hW : M 614 g = W) (h0 : f0 = mkG M g p) (hl : ln = d + W) (ha : fa = ptn f0 (nt + 2) 2 (ln - nt)) (hb : fb = ptn fa (nt + 6) 2 0) (hx : x = fb nt % 16) (had : ra = sb (fz fb (nt + 10)) nt (nt + 4 * x - nt).toNat) (ht : rt = tn ra) (hc : fc = ptn fb (nt + 10) 2 rt) : fc = mkR M g p := by
  have e : fb = mk2 (mkG M g p) nt (d + W) := by rw [hb, ha, h0, hl]; rfl
  unfold mkR
  rw [if_pos hK, hn, hd, hW, hc, ht, had, ← e, ← hx, show nt + 4 * x - nt = 4 * x by omega]
theorem fin_6 {M : jm} {g p nt ln d W ah b : Int} {f0 fa fc : Int → Int} (hK : M 607 g ≠ 2) (hn : M 621 g = nt) (hd : hl2 (M 607 g) (M 617 g) = d) (hW : M 614 g = W) (h0 : f0 = mkG M g p) (hl : ln = d + W) (hh : M 620 g = ah) (hb : M 618 (400 * g + M 619 g) = b) (ha : fa = ptn f0 ah 1 b) (hc : fc = ptn fa (nt + 2) 2 (ln - nt - 24)) : fc = mkR M g p := by
  unfold mkR
  rw [if_neg hK, hn, hd, hW, hc, ha, h0, hl, hh, hb]
theorem ptn_o {f : Int → Int} {y n v k : Int} (h : k < y) : ptn f y n v k = f k := by
  unfold ptn
  rw [if_neg (by omega)]
theorem r_finish_L222_x {A : Nat → Option (Nat × (Nat → Int32))} {Q : Option Value → jm → Prop} {M0 : jm} {g0 : Int} (q : ∀ (r : Int) (M' : jm), RI M' → RH M' → RF M' → (-5) ≤ r ∧ r ≤ 23 → RG1 M' → FIN M0 M' g0 r → (∀ (a : Nat) (i : Int), a ≠ 600 → a ≠ 601 → a ≠ 602 → a ≠ 606 → M' a i = M0 a i) → Q (some (.int (Int32.ofInt r))) M') : ∀ (nM : Nat) (M : jm) (k : Int) (d : Int) (p : Int) (g : Int), RI M → RH M → RF M → (∀ (a : Nat) (i : Int), a ≠ 600 → a ≠ 601 → a ≠ 602 → a ≠ 606 → M a i = M0 a i) → 0 ≤ k ∧ k ≤ 360 → 0 ≤ d ∧ d ≤ 400 → 0 ≤ p ∧ p ≤ 23 → 0 ≤ g ∧ g ≤ 7 → RG1 M → M 606 g ≠ 0 → M 617 g ≠ -1 → 0 ≤ M 614 g → ((M 607 g = 2 ∧ d = M 617 g) ∨ (M 607 g ≠ 2 ∧ d = M 617 g - 8)) → d + M 614 g ≤ 400 → M 600 p = d + M 614 g → BF M g p d → rf M p = mk0 (kG M0 g) (rG1 M0 g) (rf M0 p) d k → OX M0 M p → (∀ j : Int, j ≠ p → M 600 j = M0 600 j) → (pG M0 24 0 = p ∧ ¬ NR6 M0 g) → (∀ j : Int, M 606 j = M0 606 j) → k ≤ M 614 g → g = g0 → 360 - k ≤ nM → jr A 2 xm_296 222 [(5, .int (Int32.ofInt (k))), (4, .int (Int32.ofInt (d))), (3, .int (Int32.ofInt (p))), (1, .int (Int32.ofInt (g))), (0, .ref (598))] [] M Q := by
  intro nM
  induction nM using Nat.strongRecOn with
  | ind nM ih =>
    intro M k d p g hI_M hH_M hS_M hF_M h_k h_d h_p h_g hy0 hy1 hy2 hy3 hy4 hy5 hy6 hy7 hy8 hy9 hy10 hy11 hy12 hy13 hy14 hm
    subst hy14
    have hG1 := hy0
    have hb := hy7
    have zg := (hG1 g (by omega) hy1).2 hy2
    refine jr.iload rfl rfl ?_
    refine jr.aload_n rfl rfl ?_
    refine jr.getf (i := 25) (v := .ref 614) rfl rfl (by decide) rfl (by decide) rfl rfl rfl rfl ?_
    refine jr.iload_n rfl rfl ?_
    obtain ⟨v1, e1⟩ : ∃ z, M 614 g = z := ⟨_, rfl⟩
    have b1 : (-1) ≤ v1 ∧ v1 ≤ 360 := by rw [← e1]; exact (by have q := hI_M 614 g (by decide); rw [xri_row rfl rfl] at q; exact q)
    refine jr.iald (i := g) (x := v1) rfl (by decide) rfl (by decide) (by omega) (by omega) e1 ?_
    refine jr.icmp_ge rfl rfl (by omega) (by omega) (fun h230 => ?_) (fun h230 => ?_)
    · refine jr.aload_n rfl rfl ?_
      refine jr.getf (i := 32) (v := .ref 621) rfl rfl (by decide) rfl (by decide) rfl rfl rfl rfl ?_
      refine jr.iload_n rfl rfl ?_
      obtain ⟨v2, e2⟩ : ∃ z, M 621 g = z := ⟨_, rfl⟩
      have b2 : 0 ≤ v2 ∧ v2 ≤ 400 := by rw [← e2]; exact (by have q := hI_M 621 g (by decide); rw [xri_row rfl rfl] at q; exact q)
      refine jr.iald (i := g) (x := v2) rfl (by decide) rfl (by decide) (by omega) (by omega) e2 ?_
      refine jr.istore rfl (by decide) rfl ?_
      refine jr.aload_n rfl rfl ?_
      refine jr.getf (i := 18) (v := .ref 607) rfl rfl (by decide) rfl (by decide) rfl rfl rfl rfl ?_
      refine jr.iload_n rfl rfl ?_
      obtain ⟨v3, e3⟩ : ∃ z, M 607 g = z := ⟨_, rfl⟩
      have b3 : 0 ≤ v3 ∧ v3 ≤ 11 := by rw [← e3]; exact (by have q := hI_M 607 g (by decide); rw [xri_row rfl rfl] at q; exact q)
      refine jr.iald (i := g) (x := v3) rfl (by decide) rfl (by decide) (by omega) (by omega) e3 ?_
      refine jr.iconst rfl ?_
      refine jr.icmp_ne rfl rfl (by omega) (by omega) (fun h283 => ?_) (fun h283 => ?_)
      · refine jr.aload_n rfl rfl ?_
        refine jr.getf (i := 4) (v := .ref 601) rfl rfl (by decide) rfl (by decide) rfl rfl rfl rfl ?_
        refine jr.sipush rfl (by decide) ?_
        refine jr.iload_n rfl rfl ?_
        refine jr.imul rfl ?_
        refine jr.aload_n rfl rfl ?_
        refine jr.getf (i := 31) (v := .ref 620) rfl rfl (by decide) rfl (by decide) rfl rfl rfl rfl ?_
        refine jr.iload_n rfl rfl ?_
        obtain ⟨v4, e4⟩ : ∃ z, M 620 g = z := ⟨_, rfl⟩
        have b4 : 0 ≤ v4 ∧ v4 ≤ 400 := by rw [← e4]; exact (by have q := hI_M 620 g (by decide); rw [xri_row rfl rfl] at q; exact q)
        refine jr.iald (i := g) (x := v4) rfl (by decide) rfl (by decide) (by omega) (by omega) e4 ?_
        refine jr.iadd rfl ?_
        refine jr.aload_n rfl rfl ?_
        refine jr.getf (i := 29) (v := .ref 618) rfl rfl (by decide) rfl (by decide) rfl rfl rfl rfl ?_
        refine jr.sipush rfl (by decide) ?_
        refine jr.iload_n rfl rfl ?_
        refine jr.imul rfl ?_
        refine jr.aload_n rfl rfl ?_
        refine jr.getf (i := 30) (v := .ref 619) rfl rfl (by decide) rfl (by decide) rfl rfl rfl rfl ?_
        refine jr.iload_n rfl rfl ?_
        obtain ⟨v5, e5⟩ : ∃ z, M 619 g = z := ⟨_, rfl⟩
        have b5 : 0 ≤ v5 ∧ v5 ≤ 400 := by rw [← e5]; exact (by have q := hI_M 619 g (by decide); rw [xri_row rfl rfl] at q; exact q)
        refine jr.iald (i := g) (x := v5) rfl (by decide) rfl (by decide) (by omega) (by omega) e5 ?_
        refine jr.iadd rfl ?_
        obtain ⟨v6, e6⟩ : ∃ z, M 618 ((400 * g) + v5) = z := ⟨_, rfl⟩
        have b6 : 0 ≤ v6 ∧ v6 ≤ 255 := by rw [← e6]; exact (by have q := hI_M 618 ((400 * g) + v5) (by decide); rw [xri_row rfl rfl] at q; exact q)
        refine jr.iald (i := ((400 * g) + v5)) (x := v6) rfl (by decide) rfl (by decide) (by omega) (by omega) e6 ?_
        refine jr.iast (i := ((400 * p) + v4)) (x := v6) rfl (by decide) rfl (by decide) (by omega) (by omega) ?_
        refine jr.aload_n rfl rfl ?_
        refine jr.iload_n rfl rfl ?_
        refine jr.iload rfl rfl ?_
        refine jr.iconst rfl ?_
        refine jr.iadd rfl ?_
        refine jr.aload_n rfl rfl ?_
        refine jr.getf (i := 3) (v := .ref 600) rfl rfl (by decide) rfl (by decide) rfl rfl rfl rfl ?_
        refine jr.iload_n rfl rfl ?_
        obtain ⟨v7, e7⟩ : ∃ z, M 600 p = z := ⟨_, rfl⟩
        have b7 : (-1) ≤ v7 ∧ v7 ≤ 400 := by rw [← e7]; exact (by have q := hI_M 600 p (by decide); rw [xri_row rfl rfl] at q; exact q)
        refine jr.iald (i := p) (x := v7) rfl (by decide) rfl (by decide) (by omega) (by omega) ((ju_c _ _ (by decide)).trans e7) ?_
        refine jr.iload rfl rfl ?_
        refine jr.isub rfl ?_
        refine jr.bipush rfl (by decide) ?_
        refine jr.isub rfl ?_
        refine jr_v rfl rfl (Or.inl rfl) rfl rfl (by decide) rfl ⟨rfl, Nat.le_of_ble_eq_true rfl, Nat.le_of_ble_eq_true rfl⟩ rfl (jc.deep (r_layTwo_x (RI.u hI_M (a := 601) (i := ((400 * p) + v4)) (by rw [xri_row rfl rfl]; show (0 : Int) ≤ _ ∧ _ ≤ (255 : Int); omega)) (RH.o hH_M (by decide) (by decide) (by decide)) (RF.o hS_M (by decide) (by decide))  (by omega) (by omega) (by omega)  (fun M8 hI_M8 hH_M8 hS_M8  w8_0 w8_1 w8_2 => ?_)) (by decide))
        refine jr.aload_n rfl rfl ?_
        refine jr.getf (i := 17) (v := .ref 606) rfl rfl (by decide) rfl (by decide) rfl rfl rfl rfl ?_
        refine jr.iload_n rfl rfl ?_
        refine jr.iconst rfl ?_
        refine jr.zast (i := g) (x := 0) rfl (by decide) rfl (by decide) (by omega) (by omega) (j_zn (by omega)) ?_
        refine jr.iload_n rfl rfl ?_
        have e9 : M8 600 p = v7 := ((w8_2 600 p (by decide)).trans ((ju_c _ _ (by decide)).trans e7))
        exact jr.ireturn rfl rfl rfl (q _ _ (RI.u hI_M8 (a := 606) (i := g) (by rw [xri_row rfl rfl]; show (0 : Int) ≤ _ ∧ _ ≤ (1 : Int); omega)) (RH.o hH_M8 (by decide) (by decide) (by decide)) (RF.o hS_M8 (by decide) (by decide))  (by omega) (RG1.off (RG1.fr (RG1.o hG1 rfl) (fun a i ha => w8_2 a i (fun e => absurd ha (by rw [e]; decide)))) _) (by have a7 := hF_M 607 g (by decide) (by decide) (by decide) (by decide); have a17 := hF_M 617 g (by decide) (by decide) (by decide) (by decide); have a14 := hF_M 614 g (by decide) (by decide) (by decide) (by decide); have a21 := hF_M 621 g (by decide) (by decide) (by decide) (by decide); have hd : hl2 (M0 607 g) (M0 617 g) = d := (by unfold hl2; rw [← a7, ← a17]; have h4 := hy4; rcases h4 with h4 | h4; (rw [if_pos h4.1]; omega); (rw [if_neg h4.1]; omega)); have hg0 : rf M p = mkG M0 g p := (by unfold mkG; rw [hy8, hd, ← a14, e1, show k = v1 from by omega]); exact Or.inr (Or.inr ⟨hy11.2, ⟨by rw [hy11.1]; omega, by rw [hd, ← a14, e1]; omega⟩, hy11.1.symm, ⟨(by rw [hd, ← a14, e1]; exact (((ju_c _ _ (by decide)).trans e9)).trans (by omega)), (ju_same _ _ _ _), (rf_e (M := M8) (fun i => ju_c _ _ (by decide))).trans (fin_6 (f0 := rf M p) (by rw [← a7]; omega) (by rw [← a21]; exact e2) hd (by rw [← a14]; exact e1) hg0 (show v7 = d + v1 by omega) (by rw [← hF_M 620 g (by decide) (by decide) (by decide) (by decide)]; exact e4) (by rw [← hF_M 618 _ (by decide) (by decide) (by decide) (by decide), ← hF_M 619 g (by decide) (by decide) (by decide) (by decide), e5]; exact e6) (rf_1 (by omega)) w8_0)⟩, (fun j hj => (ju_c _ _ (by decide)).trans ((w8_1 j hj).trans ((ju_i _ _ (by omega)).trans (hy9 j hj)))), (fun j hj => (ju_c _ _ (by decide)).trans ((w8_2 600 j (by decide)).trans ((ju_c _ _ (by decide)).trans (hy10 j hj)))), (fun j hj => (ju_i _ _ hj).trans ((w8_2 606 j (by decide)).trans ((ju_c _ _ (by decide)).trans (hy12 j))))⟩)) (fun a i f600 f601 f602 f606 => ((ju_c _ _ f606).trans ((w8_2 a i f601).trans ((ju_c _ _ f601).trans (hF_M a i f600 f601 f602 f606))))))
      · refine jr.aload_n rfl rfl ?_
        refine jr.iload_n rfl rfl ?_
        refine jr.iload rfl rfl ?_
        refine jr.iconst rfl ?_
        refine jr.iadd rfl ?_
        refine jr.aload_n rfl rfl ?_
        refine jr.getf (i := 3) (v := .ref 600) rfl rfl (by decide) rfl (by decide) rfl rfl rfl rfl ?_
        refine jr.iload_n rfl rfl ?_
        obtain ⟨v10, e10⟩ : ∃ z, M 600 p = z := ⟨_, rfl⟩
        have b10 : (-1) ≤ v10 ∧ v10 ≤ 400 := by rw [← e10]; exact (by have q := hI_M 600 p (by decide); rw [xri_row rfl rfl] at q; exact q)
        refine jr.iald (i := p) (x := v10) rfl (by decide) rfl (by decide) (by omega) (by omega) e10 ?_
        refine jr.iload rfl rfl ?_
        refine jr.isub rfl ?_
        refine jr_v rfl rfl (Or.inl rfl) rfl rfl (by decide) rfl ⟨rfl, Nat.le_of_ble_eq_true rfl, Nat.le_of_ble_eq_true rfl⟩ rfl (jc.deep (r_layTwo_x hI_M hH_M hS_M  (by omega) (by omega) (by omega)  (fun M11 hI_M11 hH_M11 hS_M11  w11_0 w11_1 w11_2 => ?_)) (by decide))
        refine jr.aload_n rfl rfl ?_
        refine jr.iload_n rfl rfl ?_
        refine jr.iload rfl rfl ?_
        refine jr.bipush rfl (by decide) ?_
        refine jr.iadd rfl ?_
        refine jr.iconst rfl ?_
        refine jr_v rfl rfl (Or.inl rfl) rfl rfl (by decide) rfl ⟨rfl, Nat.le_of_ble_eq_true rfl, Nat.le_of_ble_eq_true rfl⟩ rfl (jc.deep (r_layTwo_x hI_M11 hH_M11 hS_M11  (by omega) (by omega) (by omega)  (fun M12 hI_M12 hH_M12 hS_M12  w12_0 w12_1 w12_2 => ?_)) (by decide))
        refine jr.aload_n rfl rfl ?_
        refine jr.iload_n rfl rfl ?_
        refine jr.iload rfl rfl ?_
        refine jr.bipush rfl (by decide) ?_
        refine jr.iadd rfl ?_
        refine jr.aload_n rfl rfl ?_
        refine jr.iload_n rfl rfl ?_
        refine jr.iload rfl rfl ?_
        refine jr.iload rfl rfl ?_
        refine jr.iconst rfl ?_
        refine jr.aload_n rfl rfl ?_
        refine jr.iload_n rfl rfl ?_
        refine jr.iload rfl rfl ?_
        refine jr_v rfl rfl (Or.inl rfl) rfl rfl (by decide) rfl ⟨rfl, Nat.le_of_ble_eq_true rfl, Nat.le_of_ble_eq_true rfl⟩ rfl (jc.deep (r_one hI_M12 hH_M12 hS_M12 (Kp.rfl _) (by omega) (by omega)  (fun r13 z13 w13_0 => ?_)) (by decide))
        have zz := (hG1 g (by omega) hy1).2 hy2
        have zb := hb (by omega) (by omega)
        rw [e2] at zb zz
        have z1 : M12 601 (400 * p + v2) = M11 601 (400 * p + v2) := (congrFun w12_0 v2).trans (ptn_o (by omega))
        have z2 : M11 601 (400 * p + v2) = M 601 (400 * p + v2) := (congrFun w11_0 v2).trans (ptn_o (by omega))
        refine jr.bipush rfl (by decide) ?_
        refine jr.iand rfl ?_
        have b14 : j_and r13 15 = r13 % 16 := j_and_mask 4 (by decide) (by omega) (by omega)
        generalize j_and r13 15 = v14 at b14 ⊢
        refine jr.imul rfl ?_
        refine jr.iadd rfl ?_
        refine jr.iload rfl rfl ?_
        refine jr.bipush rfl (by decide) ?_
        refine jr.iadd rfl ?_
        refine jr_v rfl rfl (Or.inl rfl) rfl rfl (by decide) rfl ⟨rfl, Nat.le_of_ble_eq_true rfl, Nat.le_of_ble_eq_true rfl⟩ rfl (jc.deep (r_added_x hI_M12 hH_M12 hS_M12  (by omega) (by omega) (by omega) (by omega) (by omega) (fun r15 z15 w15_0 => ?_)) (by decide))
        refine jr_s rfl rfl (Or.inl rfl) ⟨Nat.le_of_ble_eq_true rfl, Nat.le_of_ble_eq_true rfl⟩ rfl rfl (jc.deep (r_turned_x hI_M12 hH_M12 hS_M12  (by omega)  (fun r16 z16 w16_0 => ?_)) (by decide))
        refine jr_v rfl rfl (Or.inl rfl) rfl rfl (by decide) rfl ⟨rfl, Nat.le_of_ble_eq_true rfl, Nat.le_of_ble_eq_true rfl⟩ rfl (jc.deep (r_layTwo_x hI_M12 hH_M12 hS_M12  (by omega) (by omega) (by omega)  (fun M17 hI_M17 hH_M17 hS_M17  w17_0 w17_1 w17_2 => ?_)) (by decide))
        refine jr.goto rfl rfl ?_
        refine jr.aload_n rfl rfl ?_
        refine jr.getf (i := 17) (v := .ref 606) rfl rfl (by decide) rfl (by decide) rfl rfl rfl rfl ?_
        refine jr.iload_n rfl rfl ?_
        refine jr.iconst rfl ?_
        refine jr.zast (i := g) (x := 0) rfl (by decide) rfl (by decide) (by omega) (by omega) (j_zn (by omega)) ?_
        refine jr.iload_n rfl rfl ?_
        have e18 : M11 600 p = v10 := ((w11_2 600 p (by decide)).trans e10)
        have e19 : M12 600 p = v10 := ((w12_2 600 p (by decide)).trans e18)
        have e20 : M17 600 p = v10 := ((w17_2 600 p (by decide)).trans e19)
        exact jr.ireturn rfl rfl rfl (q _ _ (RI.u hI_M17 (a := 606) (i := g) (by rw [xri_row rfl rfl]; show (0 : Int) ≤ _ ∧ _ ≤ (1 : Int); omega)) (RH.o hH_M17 (by decide) (by decide) (by decide)) (RF.o hS_M17 (by decide) (by decide))  (by omega) (RG1.off (RG1.fr (RG1.fr (RG1.fr hG1 (fun a i ha => w11_2 a i (fun e => absurd ha (by rw [e]; decide)))) (fun a i ha => w12_2 a i (fun e => absurd ha (by rw [e]; decide)))) (fun a i ha => w17_2 a i (fun e => absurd ha (by rw [e]; decide)))) _) (by have a7 := hF_M 607 g (by decide) (by decide) (by decide) (by decide); have a17 := hF_M 617 g (by decide) (by decide) (by decide) (by decide); have a14 := hF_M 614 g (by decide) (by decide) (by decide) (by decide); have a21 := hF_M 621 g (by decide) (by decide) (by decide) (by decide); have hd : hl2 (M0 607 g) (M0 617 g) = d := (by unfold hl2; rw [← a7, ← a17]; have h4 := hy4; rcases h4 with h4 | h4; (rw [if_pos h4.1]; omega); (rw [if_neg h4.1]; omega)); have hg0 : rf M p = mkG M0 g p := (by unfold mkG; rw [hy8, hd, ← a14, e1, show k = v1 from by omega]); exact Or.inr (Or.inr ⟨hy11.2, ⟨by rw [hy11.1]; omega, by rw [hd, ← a14, e1]; omega⟩, hy11.1.symm, ⟨(by rw [hd, ← a14, e1]; exact (((ju_c _ _ (by decide)).trans e20)).trans (by omega)), (ju_same _ _ _ _), (rf_e (M := M17) (fun i => ju_c _ _ (by decide))).trans (fin_2 (x := v14) (f0 := rf M p) (fa := rf M11 p) (fb := rf M12 p) (by rw [← a7]; omega) (by rw [← a21]; exact e2) hd (by rw [← a14]; exact e1) hg0 (show v10 = d + v1 by omega) w11_0 w12_0 (by have h9 := w13_0; rw [rf_a]; omega) w15_0 w16_0 w17_0)⟩, (fun j hj => (ju_c _ _ (by decide)).trans ((w17_1 j hj).trans ((w12_1 j hj).trans ((w11_1 j hj).trans (hy9 j hj))))), (fun j hj => (ju_c _ _ (by decide)).trans ((w17_2 600 j (by decide)).trans ((w12_2 600 j (by decide)).trans ((w11_2 600 j (by decide)).trans (hy10 j hj))))), (fun j hj => (ju_i _ _ hj).trans ((w17_2 606 j (by decide)).trans ((w12_2 606 j (by decide)).trans ((w11_2 606 j (by decide)).trans (hy12 j)))))⟩)) (fun a i f600 f601 f602 f606 => ((ju_c _ _ f606).trans ((w17_2 a i f601).trans ((w12_2 a i f601).trans ((w11_2 a i f601).trans (hF_M a i f600 f601 f602 f606)))))))
    · refine jr.aload_n rfl rfl ?_
      refine jr.getf (i := 4) (v := .ref 601) rfl rfl (by decide) rfl (by decide) rfl rfl rfl rfl ?_
      refine jr.sipush rfl (by decide) ?_
      refine jr.iload_n rfl rfl ?_
      refine jr.imul rfl ?_
      refine jr.iload rfl rfl ?_
      refine jr.iadd rfl ?_
      refine jr.iload rfl rfl ?_
      refine jr.iadd rfl ?_
      refine jr.aload_n rfl rfl ?_
      refine jr.getf (i := 26) (v := .ref 615) rfl rfl (by decide) rfl (by decide) rfl rfl rfl rfl ?_
      refine jr.sipush rfl (by decide) ?_
      refine jr.iload_n rfl rfl ?_
      refine jr.imul rfl ?_
      refine jr.iload rfl rfl ?_
      refine jr.iadd rfl ?_
      obtain ⟨v21, e21⟩ : ∃ z, M 615 ((360 * g) + k) = z := ⟨_, rfl⟩
      have b21 : 0 ≤ v21 ∧ v21 ≤ 255 := by rw [← e21]; exact (by have q := hI_M 615 ((360 * g) + k) (by decide); rw [xri_row rfl rfl] at q; exact q)
      refine jr.iald (i := ((360 * g) + k)) (x := v21) rfl (by decide) rfl (by decide) (by omega) (by omega) e21 ?_
      refine jr.iast (i := (((400 * p) + d) + k)) (x := v21) rfl (by decide) rfl (by decide) (by omega) (by omega) ?_
      refine jr.iinc rfl rfl (by decide) rfl ?_
      refine jr.goto rfl rfl ?_
      obtain ⟨v22, e22⟩ : ∃ z, M 606 g = z := ⟨_, rfl⟩
      have b22 : 0 ≤ v22 ∧ v22 ≤ 1 := by rw [← e22]; exact (by have q := hI_M 606 g (by decide); rw [xri_row rfl rfl] at q; exact q)
      obtain ⟨v23, e23⟩ : ∃ z, M 617 g = z := ⟨_, rfl⟩
      have b23 : (-1) ≤ v23 ∧ v23 ≤ 400 := by rw [← e23]; exact (by have q := hI_M 617 g (by decide); rw [xri_row rfl rfl] at q; exact q)
      obtain ⟨v24, e24⟩ : ∃ z, M 607 g = z := ⟨_, rfl⟩
      have b24 : 0 ≤ v24 ∧ v24 ≤ 11 := by rw [← e24]; exact (by have q := hI_M 607 g (by decide); rw [xri_row rfl rfl] at q; exact q)
      obtain ⟨v25, e25⟩ : ∃ z, M 600 p = z := ⟨_, rfl⟩
      have b25 : (-1) ≤ v25 ∧ v25 ≤ 400 := by rw [← e25]; exact (by have q := hI_M 600 p (by decide); rw [xri_row rfl rfl] at q; exact q)
      refine jr.pick [0, 1, 2, 3, 4] rfl rfl ?_
      exact ih (nM - 1) (by omega) (ju M 601 (((400 * p) + d) + k) v21) (k + 1) d p g (RI.u hI_M (a := 601) (i := (((400 * p) + d) + k)) (by rw [xri_row rfl rfl]; show (0 : Int) ≤ _ ∧ _ ≤ (255 : Int); omega)) (RH.o hH_M (by decide) (by decide) (by decide)) (RF.o hS_M (by decide) (by decide))  (fun a i f600 f601 f602 f606 => ((ju_c _ _ f601).trans (hF_M a i f600 f601 f602 f606))) (by omega) (by omega) (by omega) (by omega) (RG1.o hG1 rfl) (by rw [((ju_c _ _ (by decide)).trans e22)] <;> omega) (by rw [((ju_c _ _ (by decide)).trans e23)] <;> omega) (by rw [((ju_c _ _ (by decide)).trans e1)] <;> omega) (by rw [((ju_c _ _ (by decide)).trans e24), ((ju_c _ _ (by decide)).trans e23)] <;> omega) (by rw [((ju_c _ _ (by decide)).trans e1)] <;> omega) (by rw [((ju_c _ _ (by decide)).trans e25), ((ju_c _ _ (by decide)).trans e1)] <;> omega) (BF.w hb (fun q => by have z := (hG1 g (by omega) hy1).2 hy2; omega)) (mk0_w hy8 (by omega) (by omega) (by unfold rG1; rw [← hF_M 615 (360 * g + k) (by decide) (by decide) (by decide) (by decide)]; omega)) (fun j hj => (ju_i _ _ (by omega)).trans (hy9 j hj)) (fun j hj => (ju_c _ _ (by decide)).trans (hy10 j hj)) hy11 (fun j => (ju_c _ _ (by decide)).trans (hy12 j)) (by rw [((ju_c _ _ (by decide)).trans e1)] <;> omega) (by omega) (by omega)
theorem r_finish_L180_x {A : Nat → Option (Nat × (Nat → Int32))} {Q : Option Value → jm → Prop} {M0 : jm} {g0 : Int} (q : ∀ (r : Int) (M' : jm), RI M' → RH M' → RF M' → (-5) ≤ r ∧ r ≤ 23 → RG1 M' → FIN M0 M' g0 r → (∀ (a : Nat) (i : Int), a ≠ 600 → a ≠ 601 → a ≠ 602 → a ≠ 606 → M' a i = M0 a i) → Q (some (.int (Int32.ofInt r))) M') : ∀ (nM : Nat) (M : jm) (k : Int) (d : Int) (p : Int) (g : Int), RI M → RH M → RF M → (∀ (a : Nat) (i : Int), a ≠ 600 → a ≠ 601 → a ≠ 602 → a ≠ 606 → M a i = M0 a i) → 0 ≤ k ∧ k ≤ 400 → 0 ≤ d ∧ d ≤ 400 → 0 ≤ p ∧ p ≤ 23 → 0 ≤ g ∧ g ≤ 7 → RG1 M → M 606 g ≠ 0 → M 617 g ≠ -1 → 0 ≤ M 614 g → ((M 607 g = 2 ∧ d = M 617 g) ∨ (M 607 g ≠ 2 ∧ d = M 617 g - 8)) → d + M 614 g ≤ 400 → M 600 p = d + M 614 g → BF M g p k → rf M p = mk0 (kG M0 g) (rG1 M0 g) (rf M0 p) k 0 → OX M0 M p → (∀ j : Int, j ≠ p → M 600 j = M0 600 j) → (pG M0 24 0 = p ∧ ¬ NR6 M0 g) → (∀ j : Int, M 606 j = M0 606 j) → k ≤ d → g = g0 → 400 - k ≤ nM → jr A 2 xm_296 180 [(5, .int (Int32.ofInt (k))), (4, .int (Int32.ofInt (d))), (3, .int (Int32.ofInt (p))), (1, .int (Int32.ofInt (g))), (0, .ref (598))] [] M Q := by
  intro nM
  induction nM using Nat.strongRecOn with
  | ind nM ih =>
    intro M k d p g hI_M hH_M hS_M hF_M h_k h_d h_p h_g hy0 hy1 hy2 hy3 hy4 hy5 hy6 hy7 hy8 hy9 hy10 hy11 hy12 hy13 hy14 hm
    subst hy14
    have hG1 := hy0
    have hb := hy7
    have zg := (hG1 g (by omega) hy1).2 hy2
    refine jr.iload rfl rfl ?_
    refine jr.iload rfl rfl ?_
    refine jr.icmp_ge rfl rfl (by omega) (by omega) (fun h184 => ?_) (fun h184 => ?_)
    · refine jr.iconst rfl ?_
      refine jr.istore rfl (by decide) rfl ?_
      obtain ⟨v1, e1⟩ : ∃ z, M 606 g = z := ⟨_, rfl⟩
      have b1 : 0 ≤ v1 ∧ v1 ≤ 1 := by rw [← e1]; exact (by have q := hI_M 606 g (by decide); rw [xri_row rfl rfl] at q; exact q)
      obtain ⟨v2, e2⟩ : ∃ z, M 617 g = z := ⟨_, rfl⟩
      have b2 : (-1) ≤ v2 ∧ v2 ≤ 400 := by rw [← e2]; exact (by have q := hI_M 617 g (by decide); rw [xri_row rfl rfl] at q; exact q)
      obtain ⟨v3, e3⟩ : ∃ z, M 614 g = z := ⟨_, rfl⟩
      have b3 : (-1) ≤ v3 ∧ v3 ≤ 360 := by rw [← e3]; exact (by have q := hI_M 614 g (by decide); rw [xri_row rfl rfl] at q; exact q)
      obtain ⟨v4, e4⟩ : ∃ z, M 607 g = z := ⟨_, rfl⟩
      have b4 : 0 ≤ v4 ∧ v4 ≤ 11 := by rw [← e4]; exact (by have q := hI_M 607 g (by decide); rw [xri_row rfl rfl] at q; exact q)
      obtain ⟨v5, e5⟩ : ∃ z, M 600 p = z := ⟨_, rfl⟩
      have b5 : (-1) ≤ v5 ∧ v5 ≤ 400 := by rw [← e5]; exact (by have q := hI_M 600 p (by decide); rw [xri_row rfl rfl] at q; exact q)
      refine jr.pick [0, 1, 2, 3, 4] rfl rfl ?_
      exact r_finish_L222_x q 360 M 0 d p g hI_M hH_M hS_M  (fun a i f600 f601 f602 f606 => (hF_M a i f600 f601 f602 f606)) (by omega) (by omega) (by omega) (by omega) hG1 (by rw [e1] <;> omega) (by rw [e2] <;> omega) (by rw [e3] <;> omega) (by rw [e4, e2] <;> omega) (by rw [e3] <;> omega) (by rw [e5, e3] <;> omega) (fun a b => hb a (by omega)) (by rw [hy8, show k = d from by omega]) hy9 hy10 hy11 hy12 (by rw [e3] <;> omega) (by omega) (by omega)
    · refine jr.aload_n rfl rfl ?_
      refine jr.getf (i := 4) (v := .ref 601) rfl rfl (by decide) rfl (by decide) rfl rfl rfl rfl ?_
      refine jr.sipush rfl (by decide) ?_
      refine jr.iload_n rfl rfl ?_
      refine jr.imul rfl ?_
      refine jr.iload rfl rfl ?_
      refine jr.iadd rfl ?_
      refine jr.aload_n rfl rfl ?_
      refine jr.getf (i := 29) (v := .ref 618) rfl rfl (by decide) rfl (by decide) rfl rfl rfl rfl ?_
      refine jr.sipush rfl (by decide) ?_
      refine jr.iload_n rfl rfl ?_
      refine jr.imul rfl ?_
      refine jr.iload rfl rfl ?_
      refine jr.iadd rfl ?_
      obtain ⟨v6, e6⟩ : ∃ z, M 618 ((400 * g) + k) = z := ⟨_, rfl⟩
      have b6 : 0 ≤ v6 ∧ v6 ≤ 255 := by rw [← e6]; exact (by have q := hI_M 618 ((400 * g) + k) (by decide); rw [xri_row rfl rfl] at q; exact q)
      refine jr.iald (i := ((400 * g) + k)) (x := v6) rfl (by decide) rfl (by decide) (by omega) (by omega) e6 ?_
      refine jr.iast (i := ((400 * p) + k)) (x := v6) rfl (by decide) rfl (by decide) (by omega) (by omega) ?_
      refine jr.iinc rfl rfl (by decide) rfl ?_
      refine jr.goto rfl rfl ?_
      obtain ⟨v7, e7⟩ : ∃ z, M 606 g = z := ⟨_, rfl⟩
      have b7 : 0 ≤ v7 ∧ v7 ≤ 1 := by rw [← e7]; exact (by have q := hI_M 606 g (by decide); rw [xri_row rfl rfl] at q; exact q)
      obtain ⟨v8, e8⟩ : ∃ z, M 617 g = z := ⟨_, rfl⟩
      have b8 : (-1) ≤ v8 ∧ v8 ≤ 400 := by rw [← e8]; exact (by have q := hI_M 617 g (by decide); rw [xri_row rfl rfl] at q; exact q)
      obtain ⟨v9, e9⟩ : ∃ z, M 614 g = z := ⟨_, rfl⟩
      have b9 : (-1) ≤ v9 ∧ v9 ≤ 360 := by rw [← e9]; exact (by have q := hI_M 614 g (by decide); rw [xri_row rfl rfl] at q; exact q)
      obtain ⟨v10, e10⟩ : ∃ z, M 607 g = z := ⟨_, rfl⟩
      have b10 : 0 ≤ v10 ∧ v10 ≤ 11 := by rw [← e10]; exact (by have q := hI_M 607 g (by decide); rw [xri_row rfl rfl] at q; exact q)
      obtain ⟨v11, e11⟩ : ∃ z, M 600 p = z := ⟨_, rfl⟩
      have b11 : (-1) ≤ v11 ∧ v11 ≤ 400 := by rw [← e11]; exact (by have q := hI_M 600 p (by decide); rw [xri_row rfl rfl] at q; exact q)
      refine jr.pick [0, 1, 2, 3, 4] rfl rfl ?_
      exact ih (nM - 1) (by omega) (ju M 601 ((400 * p) + k) v6) (k + 1) d p g (RI.u hI_M (a := 601) (i := ((400 * p) + k)) (by rw [xri_row rfl rfl]; show (0 : Int) ≤ _ ∧ _ ≤ (255 : Int); omega)) (RH.o hH_M (by decide) (by decide) (by decide)) (RF.o hS_M (by decide) (by decide))  (fun a i f600 f601 f602 f606 => ((ju_c _ _ f601).trans (hF_M a i f600 f601 f602 f606))) (by omega) (by omega) (by omega) (by omega) (RG1.o hG1 rfl) (by rw [((ju_c _ _ (by decide)).trans e7)] <;> omega) (by rw [((ju_c _ _ (by decide)).trans e8)] <;> omega) (by rw [((ju_c _ _ (by decide)).trans e9)] <;> omega) (by rw [((ju_c _ _ (by decide)).trans e10), ((ju_c _ _ (by decide)).trans e8)] <;> omega) (by rw [((ju_c _ _ (by decide)).trans e9)] <;> omega) (by rw [((ju_c _ _ (by decide)).trans e11), ((ju_c _ _ (by decide)).trans e9)] <;> omega) (BF.step hb e6) (mk0_k hy8 (by omega) (by unfold kG; rw [← hF_M 618 (400 * g + k) (by decide) (by decide) (by decide) (by decide)]; omega)) (fun j hj => (ju_i _ _ (by omega)).trans (hy9 j hj)) (fun j hj => (ju_c _ _ (by decide)).trans (hy10 j hj)) hy11 (fun j => (ju_c _ _ (by decide)).trans (hy12 j)) (by omega) (by omega) (by omega)
theorem r_finish_L73_x {A : Nat → Option (Nat × (Nat → Int32))} {Q : Option Value → jm → Prop} {M0 : jm} {g0 : Int} (q : ∀ (r : Int) (M' : jm), RI M' → RH M' → RF M' → (-5) ≤ r ∧ r ≤ 23 → RG1 M' → FIN M0 M' g0 r → (∀ (a : Nat) (i : Int), a ≠ 600 → a ≠ 601 → a ≠ 602 → a ≠ 606 → M' a i = M0 a i) → Q (some (.int (Int32.ofInt r))) M') : ∀ (nM : Nat) (M : jm) (k : Int) (p : Int) (g : Int), RI M → RH M → RF M → (∀ (a : Nat) (i : Int), a ≠ 600 → a ≠ 601 → a ≠ 602 → a ≠ 606 → M a i = M0 a i) → (-1) ≤ k ∧ k ≤ 23 → (-1) ≤ p ∧ p ≤ 23 → 0 ≤ g ∧ g ≤ 7 → RG1 M → M 606 g ≠ 0 → M 617 g ≠ -1 → 0 ≤ M 614 g → M = M0 → rdy (wR M0 g) (M0 614 g).toNat 0 ≠ 0 → p = pG M0 (24 - (k + 1)).toNat (k + 1) → g = g0 → k + 1 ≤ nM → jr A 2 xm_296 73 [(4, .int (Int32.ofInt (k))), (3, .int (Int32.ofInt (p))), (1, .int (Int32.ofInt (g))), (0, .ref (598))] [] M Q := by
  intro nM
  induction nM using Nat.strongRecOn with
  | ind nM ih =>
    intro M k p g hI_M hH_M hS_M hF_M h_k h_p h_g hy0 hy1 hy2 hy3 hy4 hy5 hy6 hy7 hm
    subst hy7
    have hG1 := hy0
    have zg := (hG1 g (by omega) hy1).2 hy2
    have nt : (0 : Int) ≤ M 621 g ∧ M 621 g ≤ 400 := by have q := hI_M 621 g (by decide); rw [xri_row rfl rfl] at q; exact q
    refine jr.iload rfl rfl ?_
    refine jr.if_lt rfl rfl (by omega) (fun h75 => ?_) (fun h75 => ?_)
    · refine jr.aload_n rfl rfl ?_
      refine jr.getf (i := 18) (v := .ref 607) rfl rfl (by decide) rfl (by decide) rfl rfl rfl rfl ?_
      refine jr.iload_n rfl rfl ?_
      obtain ⟨v1, e1⟩ : ∃ z, M 607 g = z := ⟨_, rfl⟩
      have b1 : 0 ≤ v1 ∧ v1 ≤ 11 := by rw [← e1]; exact (by have q := hI_M 607 g (by decide); rw [xri_row rfl rfl] at q; exact q)
      refine jr.iald (i := g) (x := v1) rfl (by decide) rfl (by decide) (by omega) (by omega) e1 ?_
      refine jr.iconst rfl ?_
      refine jr.icmp_ne rfl rfl (by omega) (by omega) (fun h109 => ?_) (fun h109 => ?_)
      · refine jr.aload_n rfl rfl ?_
        refine jr.getf (i := 28) (v := .ref 617) rfl rfl (by decide) rfl (by decide) rfl rfl rfl rfl ?_
        refine jr.iload_n rfl rfl ?_
        obtain ⟨v2, e2⟩ : ∃ z, M 617 g = z := ⟨_, rfl⟩
        have b2 : (-1) ≤ v2 ∧ v2 ≤ 400 := by rw [← e2]; exact (by have q := hI_M 617 g (by decide); rw [xri_row rfl rfl] at q; exact q)
        refine jr.iald (i := g) (x := v2) rfl (by decide) rfl (by decide) (by omega) (by omega) e2 ?_
        refine jr.bipush rfl (by decide) ?_
        refine jr.isub rfl ?_
        refine jr.istore rfl (by decide) rfl ?_
        refine jr.iload_n rfl rfl ?_
        refine jr.iconst rfl ?_
        refine jr.icmp_eq rfl rfl (by omega) (by omega) (fun h134 => ?_) (fun h134 => ?_)
        · refine jr.bipush rfl (by decide) ?_
          exact jr.ireturn rfl rfl rfl (q _ _ hI_M hH_M hS_M  (by omega) hG1 (Or.inr (Or.inl ⟨(fun h => by unfold NR6 at h; rw [hy4] at hy2 hy3; rcases h with h | h | h; (omega); (exact hy2 h); (exact hy5 h)), (by have hp : pG M0 24 0 = p := (by have h9 := hy6; rw [show (24 - (k + 1)).toNat = 24 from by omega, show k + 1 = 0 from by omega] at h9; exact h9.symm); rw [hp, ← hy4]; unfold hl2; first | (left; omega) | (right; rw [if_pos (by omega)]; omega) | (right; rw [if_neg (by omega)]; omega)), by omega, hy4⟩)) (fun a i f600 f601 f602 f606 => (hF_M a i f600 f601 f602 f606)))
        · have sx134 : (0 : Int) ≤ p := by omega
          refine jr.iload rfl rfl ?_
          refine jr.aload_n rfl rfl ?_
          refine jr.getf (i := 25) (v := .ref 614) rfl rfl (by decide) rfl (by decide) rfl rfl rfl rfl ?_
          refine jr.iload_n rfl rfl ?_
          obtain ⟨v3, e3⟩ : ∃ z, M 614 g = z := ⟨_, rfl⟩
          have b3 : (-1) ≤ v3 ∧ v3 ≤ 360 := by rw [← e3]; exact (by have q := hI_M 614 g (by decide); rw [xri_row rfl rfl] at q; exact q)
          refine jr.iald (i := g) (x := v3) rfl (by decide) rfl (by decide) (by omega) (by omega) e3 ?_
          refine jr.iadd rfl ?_
          refine jr.sipush rfl (by decide) ?_
          refine jr.icmp_le rfl rfl (by omega) (by omega) (fun h149 => ?_) (fun h149 => ?_)
          · refine jr.aload_n rfl rfl ?_
            refine jr.getf (i := 3) (v := .ref 600) rfl rfl (by decide) rfl (by decide) rfl rfl rfl rfl ?_
            refine jr.iload_n rfl rfl ?_
            refine jr.iload rfl rfl ?_
            refine jr.aload_n rfl rfl ?_
            refine jr.getf (i := 25) (v := .ref 614) rfl rfl (by decide) rfl (by decide) rfl rfl rfl rfl ?_
            refine jr.iload_n rfl rfl ?_
            refine jr.iald (i := g) (x := v3) rfl (by decide) rfl (by decide) (by omega) (by omega) e3 ?_
            refine jr.iadd rfl ?_
            refine jr.iast (i := p) (x := ((v2 - 8) + v3)) rfl (by decide) rfl (by decide) (by omega) (by omega) ?_
            refine jr.aload_n rfl rfl ?_
            refine jr.getf (i := 5) (v := .ref 602) rfl rfl (by decide) rfl (by decide) rfl rfl rfl rfl ?_
            refine jr.iload_n rfl rfl ?_
            refine jr.lconst (x := 0) rfl (by decide) ?_
            refine jr.last (i := p) (x := 0) rfl (by decide) rfl (by decide) (by omega) (by omega) ?_
            refine jr.iconst rfl ?_
            refine jr.istore rfl (by decide) rfl ?_
            obtain ⟨v4, e4⟩ : ∃ z, M 606 g = z := ⟨_, rfl⟩
            have b4 : 0 ≤ v4 ∧ v4 ≤ 1 := by rw [← e4]; exact (by have q := hI_M 606 g (by decide); rw [xri_row rfl rfl] at q; exact q)
            refine jr.pick [0, 1, 2, 3, 4] rfl rfl ?_
            exact r_finish_L180_x q 400 (ju (ju M 600 p ((v2 - 8) + v3)) 602 p 0) 0 (v2 - 8) p g (RI.u (RI.u hI_M (a := 600) (i := p) (by rw [xri_row rfl rfl]; show (-1 : Int) ≤ _ ∧ _ ≤ (400 : Int); omega)) (a := 602) (i := p) (by rw [xri_row rfl rfl]; show (-9223372036854775808 : Int) ≤ _ ∧ _ ≤ (9223372036854775807 : Int); omega)) (RH.o (RH.o hH_M (by decide) (by decide) (by decide)) (by decide) (by decide) (by decide)) (RF.o (RF.o hS_M (by decide) (by decide)) (by decide) (by decide))  (fun a i f600 f601 f602 f606 => ((ju_c _ _ f602).trans ((ju_c _ _ f600).trans (hF_M a i f600 f601 f602 f606)))) (by omega) (by omega) (by omega) (by omega) (RG1.o (RG1.o hG1 rfl) rfl) (by rw [((ju_c _ _ (by decide)).trans ((ju_c _ _ (by decide)).trans e4))] <;> omega) (by rw [((ju_c _ _ (by decide)).trans ((ju_c _ _ (by decide)).trans e2))] <;> omega) (by rw [((ju_c _ _ (by decide)).trans ((ju_c _ _ (by decide)).trans e3))] <;> omega) (by rw [((ju_c _ _ (by decide)).trans ((ju_c _ _ (by decide)).trans e1)), ((ju_c _ _ (by decide)).trans ((ju_c _ _ (by decide)).trans e2))] <;> omega) (by rw [((ju_c _ _ (by decide)).trans ((ju_c _ _ (by decide)).trans e3))] <;> omega) (by rw [((ju_c _ _ (by decide)).trans (ju_same _ _ _ _)), ((ju_c _ _ (by decide)).trans ((ju_c _ _ (by decide)).trans e3))] <;> omega) (fun _ q => by exfalso; rw [ju_c _ _ (by decide), ju_c _ _ (by decide)] at q; omega) (by rw [rf_e (M := M) (fun i => by rw [ju_c _ _ (by decide), ju_c _ _ (by decide)]), hy4]; exact mk0_z _ _ _) (fun j hj => by rw [ju_c _ _ (by decide), ju_c _ _ (by decide), hy4]) (fun j hj => by rw [ju_c _ _ (by decide), ju_i _ _ hj, hy4]) ⟨(by have h9 := hy6; rw [show (24 - (k + 1)).toNat = 24 from by omega, show k + 1 = 0 from by omega] at h9; exact h9.symm), (fun h => by unfold NR6 at h; rw [hy4] at hy2 hy3; rcases h with h | h | h; (omega); (exact hy2 h); (exact hy5 h))⟩ (fun j => by rw [ju_c _ _ (by decide), ju_c _ _ (by decide), hy4]) (by omega) (by omega) (by omega)
          · refine jr.bipush rfl (by decide) ?_
            exact jr.ireturn rfl rfl rfl (q _ _ hI_M hH_M hS_M  (by omega) hG1 (Or.inr (Or.inl ⟨(fun h => by unfold NR6 at h; rw [hy4] at hy2 hy3; rcases h with h | h | h; (omega); (exact hy2 h); (exact hy5 h)), (by have hp : pG M0 24 0 = p := (by have h9 := hy6; rw [show (24 - (k + 1)).toNat = 24 from by omega, show k + 1 = 0 from by omega] at h9; exact h9.symm); rw [hp, ← hy4]; unfold hl2; first | (left; omega) | (right; rw [if_pos (by omega)]; omega) | (right; rw [if_neg (by omega)]; omega)), by omega, hy4⟩)) (fun a i f600 f601 f602 f606 => (hF_M a i f600 f601 f602 f606)))
      · refine jr.aload_n rfl rfl ?_
        refine jr.getf (i := 28) (v := .ref 617) rfl rfl (by decide) rfl (by decide) rfl rfl rfl rfl ?_
        refine jr.iload_n rfl rfl ?_
        obtain ⟨v5, e5⟩ : ∃ z, M 617 g = z := ⟨_, rfl⟩
        have b5 : (-1) ≤ v5 ∧ v5 ≤ 400 := by rw [← e5]; exact (by have q := hI_M 617 g (by decide); rw [xri_row rfl rfl] at q; exact q)
        refine jr.iald (i := g) (x := v5) rfl (by decide) rfl (by decide) (by omega) (by omega) e5 ?_
        refine jr.goto rfl rfl ?_
        refine jr.istore rfl (by decide) rfl ?_
        refine jr.iload_n rfl rfl ?_
        refine jr.iconst rfl ?_
        refine jr.icmp_eq rfl rfl (by omega) (by omega) (fun h134 => ?_) (fun h134 => ?_)
        · refine jr.bipush rfl (by decide) ?_
          exact jr.ireturn rfl rfl rfl (q _ _ hI_M hH_M hS_M  (by omega) hG1 (Or.inr (Or.inl ⟨(fun h => by unfold NR6 at h; rw [hy4] at hy2 hy3; rcases h with h | h | h; (omega); (exact hy2 h); (exact hy5 h)), (by have hp : pG M0 24 0 = p := (by have h9 := hy6; rw [show (24 - (k + 1)).toNat = 24 from by omega, show k + 1 = 0 from by omega] at h9; exact h9.symm); rw [hp, ← hy4]; unfold hl2; first | (left; omega) | (right; rw [if_pos (by omega)]; omega) | (right; rw [if_neg (by omega)]; omega)), by omega, hy4⟩)) (fun a i f600 f601 f602 f606 => (hF_M a i f600 f601 f602 f606)))
        · have sx134 : (0 : Int) ≤ p := by omega
          refine jr.iload rfl rfl ?_
          refine jr.aload_n rfl rfl ?_
          refine jr.getf (i := 25) (v := .ref 614) rfl rfl (by decide) rfl (by decide) rfl rfl rfl rfl ?_
          refine jr.iload_n rfl rfl ?_
          obtain ⟨v6, e6⟩ : ∃ z, M 614 g = z := ⟨_, rfl⟩
          have b6 : (-1) ≤ v6 ∧ v6 ≤ 360 := by rw [← e6]; exact (by have q := hI_M 614 g (by decide); rw [xri_row rfl rfl] at q; exact q)
          refine jr.iald (i := g) (x := v6) rfl (by decide) rfl (by decide) (by omega) (by omega) e6 ?_
          refine jr.iadd rfl ?_
          refine jr.sipush rfl (by decide) ?_
          refine jr.icmp_le rfl rfl (by omega) (by omega) (fun h149 => ?_) (fun h149 => ?_)
          · refine jr.aload_n rfl rfl ?_
            refine jr.getf (i := 3) (v := .ref 600) rfl rfl (by decide) rfl (by decide) rfl rfl rfl rfl ?_
            refine jr.iload_n rfl rfl ?_
            refine jr.iload rfl rfl ?_
            refine jr.aload_n rfl rfl ?_
            refine jr.getf (i := 25) (v := .ref 614) rfl rfl (by decide) rfl (by decide) rfl rfl rfl rfl ?_
            refine jr.iload_n rfl rfl ?_
            refine jr.iald (i := g) (x := v6) rfl (by decide) rfl (by decide) (by omega) (by omega) e6 ?_
            refine jr.iadd rfl ?_
            refine jr.iast (i := p) (x := (v5 + v6)) rfl (by decide) rfl (by decide) (by omega) (by omega) ?_
            refine jr.aload_n rfl rfl ?_
            refine jr.getf (i := 5) (v := .ref 602) rfl rfl (by decide) rfl (by decide) rfl rfl rfl rfl ?_
            refine jr.iload_n rfl rfl ?_
            refine jr.lconst (x := 0) rfl (by decide) ?_
            refine jr.last (i := p) (x := 0) rfl (by decide) rfl (by decide) (by omega) (by omega) ?_
            refine jr.iconst rfl ?_
            refine jr.istore rfl (by decide) rfl ?_
            obtain ⟨v7, e7⟩ : ∃ z, M 606 g = z := ⟨_, rfl⟩
            have b7 : 0 ≤ v7 ∧ v7 ≤ 1 := by rw [← e7]; exact (by have q := hI_M 606 g (by decide); rw [xri_row rfl rfl] at q; exact q)
            refine jr.pick [0, 1, 2, 3, 4] rfl rfl ?_
            exact r_finish_L180_x q 400 (ju (ju M 600 p (v5 + v6)) 602 p 0) 0 v5 p g (RI.u (RI.u hI_M (a := 600) (i := p) (by rw [xri_row rfl rfl]; show (-1 : Int) ≤ _ ∧ _ ≤ (400 : Int); omega)) (a := 602) (i := p) (by rw [xri_row rfl rfl]; show (-9223372036854775808 : Int) ≤ _ ∧ _ ≤ (9223372036854775807 : Int); omega)) (RH.o (RH.o hH_M (by decide) (by decide) (by decide)) (by decide) (by decide) (by decide)) (RF.o (RF.o hS_M (by decide) (by decide)) (by decide) (by decide))  (fun a i f600 f601 f602 f606 => ((ju_c _ _ f602).trans ((ju_c _ _ f600).trans (hF_M a i f600 f601 f602 f606)))) (by omega) (by omega) (by omega) (by omega) (RG1.o (RG1.o hG1 rfl) rfl) (by rw [((ju_c _ _ (by decide)).trans ((ju_c _ _ (by decide)).trans e7))] <;> omega) (by rw [((ju_c _ _ (by decide)).trans ((ju_c _ _ (by decide)).trans e5))] <;> omega) (by rw [((ju_c _ _ (by decide)).trans ((ju_c _ _ (by decide)).trans e6))] <;> omega) (by rw [((ju_c _ _ (by decide)).trans ((ju_c _ _ (by decide)).trans e1)), ((ju_c _ _ (by decide)).trans ((ju_c _ _ (by decide)).trans e5))] <;> omega) (by rw [((ju_c _ _ (by decide)).trans ((ju_c _ _ (by decide)).trans e6))] <;> omega) (by rw [((ju_c _ _ (by decide)).trans (ju_same _ _ _ _)), ((ju_c _ _ (by decide)).trans ((ju_c _ _ (by decide)).trans e6))] <;> omega) (fun _ q => by exfalso; rw [ju_c _ _ (by decide), ju_c _ _ (by decide)] at q; omega) (by rw [rf_e (M := M) (fun i => by rw [ju_c _ _ (by decide), ju_c _ _ (by decide)]), hy4]; exact mk0_z _ _ _) (fun j hj => by rw [ju_c _ _ (by decide), ju_c _ _ (by decide), hy4]) (fun j hj => by rw [ju_c _ _ (by decide), ju_i _ _ hj, hy4]) ⟨(by have h9 := hy6; rw [show (24 - (k + 1)).toNat = 24 from by omega, show k + 1 = 0 from by omega] at h9; exact h9.symm), (fun h => by unfold NR6 at h; rw [hy4] at hy2 hy3; rcases h with h | h | h; (omega); (exact hy2 h); (exact hy5 h))⟩ (fun j => by rw [ju_c _ _ (by decide), ju_c _ _ (by decide), hy4]) (by omega) (by omega) (by omega)
          · refine jr.bipush rfl (by decide) ?_
            exact jr.ireturn rfl rfl rfl (q _ _ hI_M hH_M hS_M  (by omega) hG1 (Or.inr (Or.inl ⟨(fun h => by unfold NR6 at h; rw [hy4] at hy2 hy3; rcases h with h | h | h; (omega); (exact hy2 h); (exact hy5 h)), (by have hp : pG M0 24 0 = p := (by have h9 := hy6; rw [show (24 - (k + 1)).toNat = 24 from by omega, show k + 1 = 0 from by omega] at h9; exact h9.symm); rw [hp, ← hy4]; unfold hl2; first | (left; omega) | (right; rw [if_pos (by omega)]; omega) | (right; rw [if_neg (by omega)]; omega)), by omega, hy4⟩)) (fun a i f600 f601 f602 f606 => (hF_M a i f600 f601 f602 f606)))
    · refine jr.aload_n rfl rfl ?_
      refine jr.getf (i := 3) (v := .ref 600) rfl rfl (by decide) rfl (by decide) rfl rfl rfl rfl ?_
      refine jr.iload rfl rfl ?_
      obtain ⟨v8, e8⟩ : ∃ z, M 600 k = z := ⟨_, rfl⟩
      have b8 : (-1) ≤ v8 ∧ v8 ≤ 400 := by rw [← e8]; exact (by have q := hI_M 600 k (by decide); rw [xri_row rfl rfl] at q; exact q)
      refine jr.iald (i := k) (x := v8) rfl (by decide) rfl (by decide) (by omega) (by omega) e8 ?_
      refine jr.iconst rfl ?_
      refine jr.icmp_ne rfl rfl (by omega) (by omega) (fun h86 => ?_) (fun h86 => ?_)
      · have sx86 : (0 : Int) ≤ v8 := by omega
        refine jr.iload_n rfl rfl ?_
        refine jr.istore_n rfl (by decide) rfl ?_
        refine jr.iinc rfl rfl (by decide) rfl ?_
        refine jr.goto rfl rfl ?_
        obtain ⟨v9, e9⟩ : ∃ z, M 606 g = z := ⟨_, rfl⟩
        have b9 : 0 ≤ v9 ∧ v9 ≤ 1 := by rw [← e9]; exact (by have q := hI_M 606 g (by decide); rw [xri_row rfl rfl] at q; exact q)
        obtain ⟨v10, e10⟩ : ∃ z, M 617 g = z := ⟨_, rfl⟩
        have b10 : (-1) ≤ v10 ∧ v10 ≤ 400 := by rw [← e10]; exact (by have q := hI_M 617 g (by decide); rw [xri_row rfl rfl] at q; exact q)
        obtain ⟨v11, e11⟩ : ∃ z, M 614 g = z := ⟨_, rfl⟩
        have b11 : (-1) ≤ v11 ∧ v11 ≤ 360 := by rw [← e11]; exact (by have q := hI_M 614 g (by decide); rw [xri_row rfl rfl] at q; exact q)
        refine jr.pick [0, 1, 2, 3] rfl rfl ?_
        exact ih (nM - 1) (by omega) M (k + (-1)) p g hI_M hH_M hS_M  (fun a i f600 f601 f602 f606 => (hF_M a i f600 f601 f602 f606)) (by omega) (by omega) (by omega) hG1 (by rw [e9] <;> omega) (by rw [e10] <;> omega) (by rw [e11] <;> omega) hy4 hy5 (by rw [show k + -1 + 1 = k from by omega, pG_s (by omega), ← hy4]; first | (rw [if_pos (by omega)]; done) | (rw [if_neg (by omega), hy4]; exact hy6)) (by omega) (by omega)
      · refine jr.iload rfl rfl ?_
        refine jr.goto rfl rfl ?_
        refine jr.istore_n rfl (by decide) rfl ?_
        refine jr.iinc rfl rfl (by decide) rfl ?_
        refine jr.goto rfl rfl ?_
        obtain ⟨v12, e12⟩ : ∃ z, M 606 g = z := ⟨_, rfl⟩
        have b12 : 0 ≤ v12 ∧ v12 ≤ 1 := by rw [← e12]; exact (by have q := hI_M 606 g (by decide); rw [xri_row rfl rfl] at q; exact q)
        obtain ⟨v13, e13⟩ : ∃ z, M 617 g = z := ⟨_, rfl⟩
        have b13 : (-1) ≤ v13 ∧ v13 ≤ 400 := by rw [← e13]; exact (by have q := hI_M 617 g (by decide); rw [xri_row rfl rfl] at q; exact q)
        obtain ⟨v14, e14⟩ : ∃ z, M 614 g = z := ⟨_, rfl⟩
        have b14 : (-1) ≤ v14 ∧ v14 ≤ 360 := by rw [← e14]; exact (by have q := hI_M 614 g (by decide); rw [xri_row rfl rfl] at q; exact q)
        refine jr.pick [0, 1, 2, 3] rfl rfl ?_
        exact ih (nM - 1) (by omega) M (k + (-1)) k g hI_M hH_M hS_M  (fun a i f600 f601 f602 f606 => (hF_M a i f600 f601 f602 f606)) (by omega) (by omega) (by omega) hG1 (by rw [e12] <;> omega) (by rw [e13] <;> omega) (by rw [e14] <;> omega) hy4 hy5 (by rw [show k + -1 + 1 = k from by omega, pG_s (by omega), ← hy4]; first | (rw [if_pos (by omega)]; done) | (rw [if_neg (by omega), hy4]; exact hy6)) (by omega) (by omega)
theorem r_finish_L28_x {A : Nat → Option (Nat × (Nat → Int32))} {Q : Option Value → jm → Prop} {M0 : jm} {g0 : Int} (q : ∀ (r : Int) (M' : jm), RI M' → RH M' → RF M' → (-5) ≤ r ∧ r ≤ 23 → RG1 M' → FIN M0 M' g0 r → (∀ (a : Nat) (i : Int), a ≠ 600 → a ≠ 601 → a ≠ 602 → a ≠ 606 → M' a i = M0 a i) → Q (some (.int (Int32.ofInt r))) M') : ∀ (nM : Nat) (M : jm) (k : Int) (w : Int) (g : Int), RI M → RH M → RF M → (∀ (a : Nat) (i : Int), a ≠ 600 → a ≠ 601 → a ≠ 602 → a ≠ 606 → M a i = M0 a i) → 0 ≤ k ∧ k ≤ 360 → 0 ≤ w ∧ w ≤ 1 → 0 ≤ g ∧ g ≤ 7 → RG1 M → M 606 g ≠ 0 → (w = 1 → M 614 g ≠ -1 ∧ M 617 g ≠ -1) → ((M0 614 g = -1 ∨ M0 617 g = -1) ∧ w = 0) ∨ ((M0 614 g ≠ -1 ∧ M0 617 g ≠ -1) ∧ ((w = 1 ∧ k ≤ M0 614 g ∧ rdy (wR M0 g) (M0 614 g).toNat 0 = rdy (wR M0 g) (M0 614 g - k).toNat k) ∨ (w = 0 ∧ rdy (wR M0 g) (M0 614 g).toNat 0 = 0))) → M = M0 → g = g0 → 360 - k ≤ nM → jr A 2 xm_296 28 [(3, .int (Int32.ofInt (k))), (2, .int (Int32.ofInt (w))), (1, .int (Int32.ofInt (g))), (0, .ref (598))] [] M Q := by
  intro nM
  induction nM using Nat.strongRecOn with
  | ind nM ih =>
    intro M k w g hI_M hH_M hS_M hF_M h_k h_w h_g hy0 hy1 hy2 hy3 hy4 hy5 hm
    subst hy5
    have hG1 := hy0
    refine jr.iload_n rfl rfl ?_
    refine jr.if_eq rfl rfl (by omega) (fun h29 => ?_) (fun h29 => ?_)
    · refine jr.iload_n rfl rfl ?_
      refine jr.if_ne rfl rfl (by omega) (fun h62 => ?_) (fun h62 => ?_)
      · exact absurd h62 (by omega)
      · refine jr.iconst rfl ?_
        exact jr.ireturn rfl rfl rfl (q _ _ hI_M hH_M hS_M  (by omega) hG1 (Or.inl ⟨(by unfold NR6; have h3 := hy3; rcases h3 with h3 | ⟨h3, h4 | h4⟩; (rcases h3.1 with u | u; (exact Or.inl u); (exact Or.inr (Or.inl u))); (exfalso; omega); (exact Or.inr (Or.inr h4.2))), by omega, hy4⟩) (fun a i f600 f601 f602 f606 => (hF_M a i f600 f601 f602 f606)))
    · have sx29 : (1 : Int) ≤ w := by omega
      refine jr.iload_n rfl rfl ?_
      refine jr.aload_n rfl rfl ?_
      refine jr.getf (i := 25) (v := .ref 614) rfl rfl (by decide) rfl (by decide) rfl rfl rfl rfl ?_
      refine jr.iload_n rfl rfl ?_
      obtain ⟨v1, e1⟩ : ∃ z, M 614 g = z := ⟨_, rfl⟩
      have b1 : (-1) ≤ v1 ∧ v1 ≤ 360 := by rw [← e1]; exact (by have q := hI_M 614 g (by decide); rw [xri_row rfl rfl] at q; exact q)
      refine jr.iald (i := g) (x := v1) rfl (by decide) rfl (by decide) (by omega) (by omega) e1 ?_
      refine jr.icmp_ge rfl rfl (by omega) (by omega) (fun h39 => ?_) (fun h39 => ?_)
      · refine jr.iload_n rfl rfl ?_
        refine jr.if_ne rfl rfl (by omega) (fun h62 => ?_) (fun h62 => ?_)
        · refine jr.iconst rfl ?_
          refine jr.istore_n rfl (by decide) rfl ?_
          refine jr.bipush rfl (by decide) ?_
          refine jr.istore rfl (by decide) rfl ?_
          obtain ⟨v2, e2⟩ : ∃ z, M 606 g = z := ⟨_, rfl⟩
          have b2 : 0 ≤ v2 ∧ v2 ≤ 1 := by rw [← e2]; exact (by have q := hI_M 606 g (by decide); rw [xri_row rfl rfl] at q; exact q)
          obtain ⟨v3, e3⟩ : ∃ z, M 617 g = z := ⟨_, rfl⟩
          have b3 : (-1) ≤ v3 ∧ v3 ≤ 400 := by rw [← e3]; exact (by have q := hI_M 617 g (by decide); rw [xri_row rfl rfl] at q; exact q)
          refine jr.pick [0, 1, 3, 4] rfl rfl ?_
          exact r_finish_L73_x q 24 M 23 (-1) g hI_M hH_M hS_M  (fun a i f600 f601 f602 f606 => (hF_M a i f600 f601 f602 f606)) (by omega) (by omega) (by omega) hG1 (by rw [e2] <;> omega) (by rw [e3] <;> omega) (by rw [e1] <;> omega) hy4 (by have h3 := hy3; rcases h3 with h3 | ⟨h3, h4 | h4⟩; (exfalso; omega); (rw [h4.2.2, rdy_e (by rw [hy4] at *; omega)]; decide); (exfalso; omega)) rfl (by omega) (by omega)
        · exact absurd (by omega) h62
      · refine jr.aload_n rfl rfl ?_
        refine jr.getf (i := 27) (v := .ref 616) rfl rfl (by decide) rfl (by decide) rfl rfl rfl rfl ?_
        refine jr.sipush rfl (by decide) ?_
        refine jr.iload_n rfl rfl ?_
        refine jr.imul rfl ?_
        refine jr.iload_n rfl rfl ?_
        refine jr.iadd rfl ?_
        obtain ⟨v4, e4⟩ : ∃ z, M 616 ((360 * g) + k) = z := ⟨_, rfl⟩
        have b4 : 0 ≤ v4 ∧ v4 ≤ 1 := by rw [← e4]; exact (by have q := hI_M 616 ((360 * g) + k) (by decide); rw [xri_row rfl rfl] at q; exact q)
        refine jr.zald (i := ((360 * g) + k)) (x := v4) rfl (by decide) rfl (by decide) (by omega) (by omega) e4 ?_
        refine jr.istore_n rfl (by decide) rfl ?_
        refine jr.iinc rfl rfl (by decide) rfl ?_
        refine jr.goto rfl rfl ?_
        obtain ⟨v5, e5⟩ : ∃ z, M 606 g = z := ⟨_, rfl⟩
        have b5 : 0 ≤ v5 ∧ v5 ≤ 1 := by rw [← e5]; exact (by have q := hI_M 606 g (by decide); rw [xri_row rfl rfl] at q; exact q)
        refine jr.pick [0, 1, 2, 3] rfl rfl ?_
        exact ih (nM - 1) (by omega) M (k + 1) v4 g hI_M hH_M hS_M  (fun a i f600 f601 f602 f606 => (hF_M a i f600 f601 f602 f606)) (by omega) (by omega) (by omega) hG1 (by rw [e5] <;> omega) (by omega) (by have h3 := hy3; have f16 : M 616 (360 * g + k) = M0 616 (360 * g + k) := (by rw [hy4]); have f14 : M 614 g = M0 614 g := (by rw [hy4]); have bz : (0 : Int) ≤ M 616 (360 * g + k) ∧ M 616 (360 * g + k) ≤ 1 := (by have q := hI_M 616 (360 * g + k) (by decide); rw [xri_row rfl rfl] at q; exact q); refine Or.inr ?_; rcases h3 with h3 | ⟨h3, h4 | h4⟩; (exfalso; omega); (refine ⟨h3, ?_⟩; have rs := rdy_s (w := wR M0 g) (L := M0 614 g) (i := k) (by omega); by_cases z : v4 = 0; (exact Or.inr ⟨z, by rw [h4.2.2, rs, if_pos (by unfold wR; rw [if_neg (by omega)])]⟩); (exact Or.inl ⟨by omega, by omega, by rw [h4.2.2, rs, if_neg (by unfold wR; rw [if_pos (by omega)]; have bd : (0 : Int) ≤ M0 615 (360 * g + k) := (by rw [← hy4]; have q := hI_M 615 (360 * g + k) (by decide); rw [xri_row rfl rfl] at q; exact q.1); omega)]⟩)); (exfalso; omega)) hy4 (by omega) (by omega)
theorem r_finish_x {A : Nat → Option (Nat × (Nat → Int32))} {Q : Option Value → jm → Prop} {M : jm} (hI_M : RI M) (hH_M : RH M) (hS_M : RF M) {g : Int} (h_g : 0 ≤ g ∧ g ≤ 7) (p0 : RG1 M) (p1 : M 606 g ≠ 0) (q : ∀ (r : Int) (M' : jm), RI M' → RH M' → RF M' → (-5) ≤ r ∧ r ≤ 23 → RG1 M' → FIN M M' g r → (∀ (a : Nat) (i : Int), a ≠ 600 → a ≠ 601 → a ≠ 602 → a ≠ 606 → M' a i = M a i) → Q (some (.int (Int32.ofInt r))) M') : jc A 3 296 [.ref (598), .int (Int32.ofInt (g))] M Q := by
  have hG1 := p0
  refine jc_of (m := xm_296) rfl (Nat.le_of_ble_eq_true rfl) rfl ?_
  refine jr.aload_n rfl rfl ?_
  refine jr.getf (i := 25) (v := .ref 614) rfl rfl (by decide) rfl (by decide) rfl rfl rfl rfl ?_
  refine jr.iload_n rfl rfl ?_
  obtain ⟨v1, e1⟩ : ∃ z, M 614 g = z := ⟨_, rfl⟩
  have b1 : (-1) ≤ v1 ∧ v1 ≤ 360 := by rw [← e1]; exact (by have q := hI_M 614 g (by decide); rw [xri_row rfl rfl] at q; exact q)
  refine jr.iald (i := g) (x := v1) rfl (by decide) rfl (by decide) (by omega) (by omega) e1 ?_
  refine jr.iconst rfl ?_
  refine jr.icmp_eq rfl rfl (by omega) (by omega) (fun h7 => ?_) (fun h7 => ?_)
  · refine jr.iconst rfl ?_
    refine jr.istore_n rfl (by decide) rfl ?_
    refine jr.iconst rfl ?_
    refine jr.istore_n rfl (by decide) rfl ?_
    obtain ⟨v2, e2⟩ : ∃ z, M 606 g = z := ⟨_, rfl⟩
    have b2 : 0 ≤ v2 ∧ v2 ≤ 1 := by rw [← e2]; exact (by have q := hI_M 606 g (by decide); rw [xri_row rfl rfl] at q; exact q)
    refine jr.pick [0, 1, 3, 2] rfl rfl ?_
    exact r_finish_L28_x q 360 M 0 0 g hI_M hH_M hS_M  (fun a i f600 f601 f602 f606 => rfl) (by omega) (by omega) (by omega) hG1 (by rw [e2] <;> omega) (by omega) (by first | exact Or.inl ⟨by omega, rfl⟩ | exact Or.inr ⟨by omega, Or.inl ⟨rfl, by have h9 : (-1 : Int) ≤ M 614 g := (by have q := hI_M 614 g (by decide); rw [xri_row rfl rfl] at q; exact q.1); omega, by rw [show M 614 g - 0 = M 614 g from by omega]⟩⟩) rfl (by omega) (by omega)
  · have sx7 : (0 : Int) ≤ v1 := by omega
    refine jr.aload_n rfl rfl ?_
    refine jr.getf (i := 28) (v := .ref 617) rfl rfl (by decide) rfl (by decide) rfl rfl rfl rfl ?_
    refine jr.iload_n rfl rfl ?_
    obtain ⟨v3, e3⟩ : ∃ z, M 617 g = z := ⟨_, rfl⟩
    have b3 : (-1) ≤ v3 ∧ v3 ≤ 400 := by rw [← e3]; exact (by have q := hI_M 617 g (by decide); rw [xri_row rfl rfl] at q; exact q)
    refine jr.iald (i := g) (x := v3) rfl (by decide) rfl (by decide) (by omega) (by omega) e3 ?_
    refine jr.iconst rfl ?_
    refine jr.icmp_eq rfl rfl (by omega) (by omega) (fun h17 => ?_) (fun h17 => ?_)
    · refine jr.iconst rfl ?_
      refine jr.istore_n rfl (by decide) rfl ?_
      refine jr.iconst rfl ?_
      refine jr.istore_n rfl (by decide) rfl ?_
      obtain ⟨v4, e4⟩ : ∃ z, M 606 g = z := ⟨_, rfl⟩
      have b4 : 0 ≤ v4 ∧ v4 ≤ 1 := by rw [← e4]; exact (by have q := hI_M 606 g (by decide); rw [xri_row rfl rfl] at q; exact q)
      refine jr.pick [0, 1, 3, 2] rfl rfl ?_
      exact r_finish_L28_x q 360 M 0 0 g hI_M hH_M hS_M  (fun a i f600 f601 f602 f606 => rfl) (by omega) (by omega) (by omega) hG1 (by rw [e4] <;> omega) (by omega) (by first | exact Or.inl ⟨by omega, rfl⟩ | exact Or.inr ⟨by omega, Or.inl ⟨rfl, by have h9 : (-1 : Int) ≤ M 614 g := (by have q := hI_M 614 g (by decide); rw [xri_row rfl rfl] at q; exact q.1); omega, by rw [show M 614 g - 0 = M 614 g from by omega]⟩⟩) rfl (by omega) (by omega)
    · have sx17 : (0 : Int) ≤ v3 := by omega
      refine jr.iconst rfl ?_
      refine jr.goto rfl rfl ?_
      refine jr.istore_n rfl (by decide) rfl ?_
      refine jr.iconst rfl ?_
      refine jr.istore_n rfl (by decide) rfl ?_
      obtain ⟨v5, e5⟩ : ∃ z, M 606 g = z := ⟨_, rfl⟩
      have b5 : 0 ≤ v5 ∧ v5 ≤ 1 := by rw [← e5]; exact (by have q := hI_M 606 g (by decide); rw [xri_row rfl rfl] at q; exact q)
      refine jr.pick [0, 1, 3, 2] rfl rfl ?_
      exact r_finish_L28_x q 360 M 0 1 g hI_M hH_M hS_M  (fun a i f600 f601 f602 f606 => rfl) (by omega) (by omega) (by omega) hG1 (by rw [e5] <;> omega) (by omega) (by first | exact Or.inl ⟨by omega, rfl⟩ | exact Or.inr ⟨by omega, Or.inl ⟨rfl, by have h9 : (-1 : Int) ≤ M 614 g := (by have q := hI_M 614 g (by decide); rw [xri_row rfl rfl] at q; exact q.1); omega, by rw [show M 614 g - 0 = M 614 g from by omega]⟩⟩) rfl (by omega) (by omega)
end
section
/-! ===== the reference: gather, what stands at its joints ===== -/
noncomputable def LKO (T M : jm) : Prop := (∀ (b : Nat) (i : Int), b ≠ 598 → b ≠ 603 → b ≠ 604 → b ≠ 605 → M b i = T b i) ∧ ∀ i : Int, i ≠ 6 → i ≠ 10 → i ≠ 11 → i ≠ 12 → M 598 i = T 598 i
noncomputable def PX1 (T M : jm) (x h t k a : Int) : Prop := HT M (rf T x) (T 600 x) (M 598 6) ∧ (HE (rf T x) (T 600 x) (M 598 6) ∧ hX (rf T x) (T 600 x) (M 598 6) = -1) ∧ (h = pcf (rf T x) (T 600 x) (M 598 6) ∧ h ≠ -1) ∧ t = ntf (rf T x) (T 600 x) (M 598 6) ∧ k = hX (rf T x) (T 600 x) h ∧ a = hY (rf T x) (T 600 x) h ∧ rf M x = rf T x ∧ ((0 ≤ x ∧ x ≤ 23) ∧ T 600 x ≠ -1) ∧ LKO T M
theorem hx6_z {M : jm} {f : Int → Int} {N : Int} (h : HQ6 M f N) (h0 : M 598 10 = 0) : hX f N (M 598 6) = -1 := by
  rcases h.2.2 with g | g
  · exact g.1
  · exact absurd (g.2.2.1.symm.trans h0) g.2.1
theorem hx6_n {M : jm} {f : Int → Int} {N : Int} (h : HQ6 M f N) (h0 : M 598 10 ≠ 0) : hX f N (M 598 6) ≠ -1 := by
  rcases h.2.2 with g | g
  · exact absurd g.2.1 h0
  · exact g.1
theorem pcf_3 {f : Int → Int} {N C : Int} (hC : 0 ≤ C) (h : hX f N (pcf f N C) = 6) (h1 : pcf f N C ≠ -1) : hX f N (ntf f N C) = 3 ∧ (0 ≤ ntf f N C ∧ ntf f N C < C) := by
  have hn := ntf_r (f := f) (N := N) hC
  unfold pcf at h h1
  split at h
  · rename_i q; rw [if_pos q] at h1; exact absurd rfl h1
  · rename_i q
    have hn2 := hn.resolve_left q
    split at h
    · rename_i q2
      rw [kA_i hn2.1] at q2
      split at h
      · omega
      · rename_i q3
        rw [if_neg q, if_pos (by rw [kA_i hn2.1]; exact q2), if_neg q3] at h1
        exact absurd rfl h1
    · rename_i q2
      rw [kA_i hn2.1] at q2
      exact ⟨by omega, hn2.1⟩
theorem PX1.c {T M : jm} {x h t k a : Int} (p : PX1 T M x h t k a) : (0 ≤ h ∧ h < M 598 6) ∧ ((k = 2 ∧ t = h) ∨ (k = 6 ∧ hX (rf T x) (T 600 x) t = 3 ∧ (0 ≤ t ∧ t < M 598 6))) := by
  obtain ⟨p1, p2, p3, p4, p5, p6, p7, p8, p9⟩ := p
  have hC := p2.1.1.1
  have q := (pcf_r (f := rf T x) (N := T 600 x) hC).resolve_left (by rw [← p3.1]; exact p3.2)
  rw [← p3.1] at q
  refine ⟨q.1, ?_⟩
  rcases q.2 with u | u
  · exact Or.inl ⟨by rw [p5]; exact u.1, by rw [p4]; exact u.2.symm⟩
  · refine Or.inr ⟨by rw [p5]; exact u, ?_⟩
    have w := pcf_3 hC (by rw [← p3.1]; exact u) (by rw [← p3.1]; exact p3.2)
    rw [p4]
    exact w
theorem PX1.v {T M : jm} {x h t k a : Int} (p : PX1 T M x h t k a) (j : Int) (hj : 0 ≤ j ∧ j < xcv_2 k) : vA (rf T x) (T 600 x) (M 598 6) h j = vof (rf M x) (hZ (rf T x) (T 600 x) h) k a j := by
  rw [vA_k p.c.1 p.2.2.2.2.1.symm hj, p.2.2.2.2.2.2.1, p.2.2.2.2.2.1]
theorem PX1.n {T M : jm} {x h t k a : Int} (p : PX1 T M x h t k a) (hk : k = 6) (j : Int) (hj : 0 ≤ j ∧ j < 7) : vA (rf T x) (T 600 x) (M 598 6) t j = vof (rf M x) (hZ (rf T x) (T 600 x) t) 3 (hY (rf T x) (T 600 x) t) j := by
  rcases p.c.2 with u | u
  · omega
  · rw [vA_k u.2.2 u.2.1 (by rw [show xcv_2 3 = 7 by decide +kernel]; exact hj), p.2.2.2.2.2.2.1]
theorem PX1.k {T M : jm} {x h t k a : Int} (p : PX1 T M x h t k a) : kA (rf T x) (T 600 x) (M 598 6) h = k := by rw [kA_i p.c.1]; exact p.2.2.2.2.1.symm
theorem PX1.kt {T M : jm} {x h t k a : Int} (p : PX1 T M x h t k a) : (k = 2 → kA (rf T x) (T 600 x) (M 598 6) t = 2) ∧ (k = 6 → kA (rf T x) (T 600 x) (M 598 6) t = 3) := by
  refine ⟨fun hk => ?_, fun hk => ?_⟩
  · rcases p.c.2 with u | u
    · rw [u.2, p.k, hk]
    · omega
  · rcases p.c.2 with u | u
    · omega
    · rw [kA_i u.2.2]; exact u.2.1
/-- offset, flag, next, number, sender, getter of the piece, as the reference reads them -/
theorem PX1.o2 {T M : jm} {x h t k a r : Int} (p : PX1 T M x h t k a) (hk : k = 2) (hr : ∀ z : Int, r = vof (rf M x) z 2 a 5) : 8 * r = ofs (rf T x) (T 600 x) (M 598 6) h := by
  unfold ofs
  subst hk
  rw [p.k, if_pos rfl, p.v 5 (by decide +kernel), ← hr]
theorem PX1.o6 {T M : jm} {x h t k a r s : Int} (p : PX1 T M x h t k a) (hk : k = 6) (hr : r = tw (rf M x) (a + 2)) (h0 : 0 ≤ r ∧ r ≤ 65535) (hs : s = r / 8) : 8 * s = ofs (rf T x) (T 600 x) (M 598 6) h := by
  unfold ofs
  subst hk
  rw [p.k, if_neg (by decide), p.v 1 (by decide +kernel), vof_6_1, nbs_2t, ← hr, hs]
  omega
theorem PX1.m2 {T M : jm} {x h t k a r : Int} (p : PX1 T M x h t k a) (hk : k = 2) (hr : ∀ z : Int, r = vof (rf M x) z 2 a 4) : r % 2 = mrf (rf T x) (T 600 x) (M 598 6) h := by
  unfold mrf
  subst hk
  rw [p.k, if_pos rfl, p.v 4 (by decide +kernel), ← hr]
theorem PX1.m6 {T M : jm} {x h t k a r : Int} (p : PX1 T M x h t k a) (hk : k = 6) (hr : r = tw (rf M x) (a + 2)) (h0 : 0 ≤ r ∧ r ≤ 65535) : r % 2 = mrf (rf T x) (T 600 x) (M 598 6) h := by
  unfold mrf
  subst hk
  rw [p.k, if_neg (by decide), p.v 2 (by decide +kernel), vof_6_2, nbs_2t, ← hr]
  omega
theorem PX1.e2 {T M : jm} {x h t k a r : Int} (p : PX1 T M x h t k a) (hk : k = 2) (hr : r = M 601 (400 * x + (a + 9))) (h0 : 0 ≤ r ∧ r ≤ 255) : r = vA (rf T x) (T 600 x) (M 598 6) h (if kA (rf T x) (T 600 x) (M 598 6) h = 2 then 7 else 0) := by
  subst hk
  rw [p.k, if_pos rfl, p.v 7 (by decide +kernel), vof_2_7, nbs_1, rf_a, ← hr]
  omega
theorem PX1.e6 {T M : jm} {x h t k a r : Int} (p : PX1 T M x h t k a) (hk : k = 6) (hr : r = M 601 (400 * x + a)) (h0 : 0 ≤ r ∧ r ≤ 255) : r = vA (rf T x) (T 600 x) (M 598 6) h (if kA (rf T x) (T 600 x) (M 598 6) h = 2 then 7 else 0) := by
  subst hk
  rw [p.k, if_neg (by decide), p.v 0 (by decide +kernel), vof_6_0, nbs_1, rf_a, Int.add_zero, ← hr]
  omega
theorem PX1.d2 {T M : jm} {x h t k a r : Int} (p : PX1 T M x h t k a) (hk : k = 2) (hr : r = tw (rf M x) (a + 4)) (h0 : 0 ≤ r ∧ r ≤ 65535) : r = vA (rf T x) (T 600 x) (M 598 6) h 3 := by
  subst hk
  rw [p.v 3 (by decide +kernel), vof_2_3, nbs_2t, ← hr]
  omega
theorem PX1.d6 {T M : jm} {x h t k a r : Int} (p : PX1 T M x h t k a) (hk : k = 6) (hr : r = nbs (rf M x) (a + 4) 4) (h0 : 0 ≤ r ∧ r ≤ 4294967295) : r = vA (rf T x) (T 600 x) (M 598 6) h 3 := by
  subst hk
  rw [p.v 3 (by decide +kernel), vof_6_3, ← hr]
  omega
theorem PX1.a2 {T M : jm} {x h t k a r s j : Int} (p : PX1 T M x h t k a) (hk : k = 2) (hj : j = 9 + s) (hs : s = 0 ∨ s = 1) (hr : ∀ z : Int, r = vof (rf M x) z 2 a j) : r = adf (rf T x) (T 600 x) (M 598 6) t s := by
  have e : t = h := by
    rcases p.c.2 with u | u
    · exact u.2
    · omega
  subst hk
  subst hj
  unfold adf
  rw [p.kt.1 rfl, if_pos rfl, e, p.v (9 + s) (by rw [show xcv_2 2 = 11 by decide +kernel]; omega), ← hr]
theorem PX1.a6 {T M : jm} {x h t k a r s j y : Int} (p : PX1 T M x h t k a) (hk : k = 6) (hj : j = 5 + s) (hs : s = 0 ∨ s = 1) (hy : y = hY (rf T x) (T 600 x) t) (hr : ∀ z : Int, r = vof (rf M x) z 3 y j) : r = adf (rf T x) (T 600 x) (M 598 6) t s := by
  subst hj
  unfold adf
  rw [p.kt.2 hk, if_neg (by decide), p.n hk (5 + s) (by omega), ← hy, ← hr]
end
section
/-! ===== the reference: gather ===== -/
noncomputable def g6 (M : jm) (f : Int → Int) (N C y : Int) : Int := gL M (hX f N y) (adf f N C (ntf f N C) 0) (adf f N C (ntf f N C) 1) (vA f N C y 3) (vA f N C y (if kA f N C y = 2 then 7 else 0)) 8
noncomputable def fst6 (M : jm) (f : Int → Int) (N C y : Int) : Int := if g6 M f N C y = -1 ∨ M 614 (g6 M f N C y) = -1 then 1 else 0
noncomputable def BG6 (M1 M : jm) (g k a b c o : Int) : Prop := (M 606 g = 1 ∧ M 607 g = k ∧ M 614 g = -1 ∧ M 617 g = -1 ∧ M 613 g = 64 ∧ M 608 g = a ∧ M 609 g = b ∧ M 610 g = c ∧ M 611 g = o) ∧ M 612 g = M1 598 2 + 30 ∧ (∀ (b0 : Nat) (j : Int), b0 ≠ 616 → j ≠ g → M b0 j = M1 b0 j) ∧ (∀ j : Int, (j < 360 * g ∨ 360 * g + 360 ≤ j) → M 616 j = M1 616 j) ∧ (∀ k : Int, 0 ≤ k → k < 360 → M 616 (360 * g + k) = 0) ∧ ∀ (b0 : Nat) (j : Int), b0 < 606 ∨ 617 < b0 ∨ b0 = 615 → M b0 j = M1 b0 j
noncomputable def GB6 (M1 M : jm) (f : Int → Int) (N C y g : Int) : Prop := (g6 M1 f N C y ≠ -1 ∧ g = g6 M1 f N C y ∧ M = M1) ∨ (g6 M1 f N C y = -1 ∧ g = gE M1 8 0 ∧ g ≠ -1 ∧ BG6 M1 M g (hX f N y) (adf f N C (ntf f N C) 0) (adf f N C (ntf f N C) 1) (vA f N C y 3) (vA f N C y (if kA f N C y = 2 then 7 else 0)))
noncomputable def WH6 (M2 M : jm) (g i w : Int) : Prop := (i = 1 ∧ (M 614 g = w ∧ M 613 g = w) ∧ (∀ j : Int, j ≠ g → M 614 j = M2 614 j ∧ M 613 j = M2 613 j) ∧ (∀ j : Int, ¬ (360 * g + w ≤ j ∧ j < 360 * g + 360) → M 616 j = M2 616 j) ∧ ∀ (b : Nat) (j : Int), b ≠ 613 → b ≠ 614 → b ≠ 616 → M b j = M2 b j) ∨ (i = 0 ∧ M2 614 g = -1 ∧ M 613 g = (if szf w ≤ M2 613 g then M2 613 g else szf w) ∧ (∀ j : Int, j ≠ g → M 613 j = M2 613 j) ∧ ∀ (b : Nat) (j : Int), b ≠ 613 → M b j = M2 b j) ∨ (i = 0 ∧ M2 614 g ≠ -1 ∧ M = M2)
noncomputable def LY6 (M M' : jm) (g x f c o : Int) : Prop := (((∀ j : Int, 0 ≤ j → j < 360 → wR M' g j = glay (wR M g) (rf M x) o f (mlf c o (lpf (M 614 g))) j) ∧ (∀ j : Int, (j < 360 * g ∨ 360 * g + 360 ≤ j) → M' 616 j = M 616 j ∧ M' 615 j = M 615 j)) ∧ M' 598 34 = 1 ∧ M' 622 0 = mlf c o (lpf (M 614 g)) - gov (wR M g) o (mlf c o (lpf (M 614 g))).toNat ∧ M' 622 1 = gov (wR M g) o (mlf c o (lpf (M 614 g))).toNat ∧ M' 622 2 = c - mlf c o (lpf (M 614 g)) ∧ M' 622 3 = M 613 g ∧ M' 622 4 = M 614 g) ∧ (∀ (b : Nat) (i : Int), b ≠ 598 → b ≠ 615 → b ≠ 616 → b ≠ 622 → M' b i = M b i) ∧ ∀ i : Int, i ≠ 34 → M' 598 i = M 598 i
noncomputable def KH6 (M M' : jm) (g x h t : Int) : Prop := ((M' 617 g = M 604 h + M 605 h ∧ M' 619 g = M 604 h ∧ M' 621 g = M 604 t ∧ M' 620 g = (if h = 0 then 0 else M 604 (h - 1) + (if M 603 (h - 1) = 3 then 4 else 0))) ∧ (∀ i : Int, 0 ≤ i → i < M 604 h + M 605 h → M' 618 (400 * g + i) = rf M x i) ∧ (∀ (b : Nat) (j : Int), b ≠ 618 → j ≠ g → M' b j = M b j) ∧ (∀ j : Int, (j < 400 * g ∨ 400 * g + 400 ≤ j) → M' 618 j = M 618 j)) ∧ ∀ (b : Nat) (i : Int), b ≠ 617 → b ≠ 618 → b ≠ 619 → b ≠ 620 → b ≠ 621 → M' b i = M b i
noncomputable def PX2 (T M : jm) (x h t k g i o c f : Int) : Prop := ∃ M1 : jm, PX1 T M1 x h t k (hY (rf T x) (T 600 x) h) ∧ (o = ofs (rf T x) (T 600 x) (M1 598 6) h ∧ c = T 600 x - enf (rf T x) (T 600 x) (M1 598 6) h ∧ f = enf (rf T x) (T 600 x) (M1 598 6) h) ∧ ¬ rfq (rf T x) (T 600 x) (M1 598 6) h (fst6 M1 (rf T x) (T 600 x) (M1 598 6) h) ∧ ((i = 1 ∧ mrf (rf T x) (T 600 x) (M1 598 6) h ≠ 1 ∧ fst6 M1 (rf T x) (T 600 x) (M1 598 6) h = 1) ∨ (i = 0 ∧ ¬ (mrf (rf T x) (T 600 x) (M1 598 6) h ≠ 1 ∧ fst6 M1 (rf T x) (T 600 x) (M1 598 6) h = 1))) ∧ GB6 M1 M (rf T x) (T 600 x) (M1 598 6) h g
noncomputable def PX3 (T M : jm) (x h t k g o c f : Int) : Prop := ∃ (M2 : jm) (i : Int), PX2 T M2 x h t k g i o c f ∧ WH6 M2 M g i (o + c)
/-- what gather of the reference does -/
noncomputable def GAR (T M : jm) (x r : Int) : Prop := ((x < 0 ∨ 23 < x ∨ T 600 x = -1) ∧ r = -2 ∧ M = T) ∨ (((0 ≤ x ∧ x ≤ 23) ∧ T 600 x ≠ -1) ∧ ∃ M1 : jm, LKO T M1 ∧ HE (rf T x) (T 600 x) (M1 598 6) ∧ (((hX (rf T x) (T 600 x) (M1 598 6) ≠ -1 ∨ pcf (rf T x) (T 600 x) (M1 598 6) = -1) ∧ r = -4 ∧ M = M1) ∨ ((hX (rf T x) (T 600 x) (M1 598 6) = -1 ∧ pcf (rf T x) (T 600 x) (M1 598 6) ≠ -1) ∧ ((rfq (rf T x) (T 600 x) (M1 598 6) (pcf (rf T x) (T 600 x) (M1 598 6)) (fst6 M1 (rf T x) (T 600 x) (M1 598 6) (pcf (rf T x) (T 600 x) (M1 598 6))) ∧ r = -4 ∧ M = M1) ∨ (¬ rfq (rf T x) (T 600 x) (M1 598 6) (pcf (rf T x) (T 600 x) (M1 598 6)) (fst6 M1 (rf T x) (T 600 x) (M1 598 6) (pcf (rf T x) (T 600 x) (M1 598 6))) ∧ (g6 M1 (rf T x) (T 600 x) (M1 598 6) (pcf (rf T x) (T 600 x) (M1 598 6)) = -1 ∧ gE M1 8 0 = -1) ∧ r = -5 ∧ M = M1))))) ∨ ∃ (h t k g o c f : Int) (M3 M4 M5 : jm), PX3 T M3 x h t k g o c f ∧ LY6 M3 M4 g x f c o ∧ ((o = 0 ∧ M4 617 g = -1 ∧ KH6 M4 M5 g x h t) ∨ (¬ (o = 0 ∧ M4 617 g = -1) ∧ M5 = M4)) ∧ FIN M5 M g r ∧ ∀ (b : Nat) (i : Int), b ≠ 600 → b ≠ 601 → b ≠ 602 → b ≠ 606 → M b i = M5 b i
/-- sizes of the gatherings' rows -/
noncomputable def GQ6 (M : jm) : Prop := ∀ g : Int, 0 ≤ g → g < 8 → M 606 g ≠ 0 → (M 614 g = -1 ∧ (M 613 g = 64 ∨ M 613 g = 128 ∨ M 613 g = 256 ∨ M 613 g = 360)) ∨ (0 ≤ M 614 g ∧ M 614 g ≤ 360)
theorem PX1.r {T M : jm} {x h t k a : Int} (p : PX1 T M x h t k a) {r : Int} (hq : rfq (rf T x) (T 600 x) (M 598 6) h (fst6 M (rf T x) (T 600 x) (M 598 6) h)) (hr : r = -4) : GAR T M x r := by
  obtain ⟨p1, p2, p3, p4, p5, p6, p7, p8, p9⟩ := p
  rw [p3.1] at hq
  refine Or.inr (Or.inl ⟨p8, M, p9, p2.1, Or.inr ⟨⟨p2.2, by rw [← p3.1]; exact p3.2⟩, Or.inl ⟨hq, hr, rfl⟩⟩⟩)
theorem PX1.f {T M : jm} {x h t k a : Int} (p : PX1 T M x h t k a) {r : Int} (hq : ¬ rfq (rf T x) (T 600 x) (M 598 6) h (fst6 M (rf T x) (T 600 x) (M 598 6) h)) (hg : g6 M (rf T x) (T 600 x) (M 598 6) h = -1) (he : gE M 8 0 = -1) (hr : r = -5) : GAR T M x r := by
  obtain ⟨p1, p2, p3, p4, p5, p6, p7, p8, p9⟩ := p
  rw [p3.1] at hq hg
  refine Or.inr (Or.inl ⟨p8, M, p9, p2.1, Or.inr ⟨⟨p2.2, by rw [← p3.1]; exact p3.2⟩, Or.inr ⟨hq, ⟨hg, he⟩, hr, rfl⟩⟩⟩)
end
section
/-! ===== the reference: gather, the walk ===== -/
theorem r_gather_L459_x {A : Nat → Option (Nat × (Nat → Int32))} {Q : Option Value → jm → Prop} {M0 : jm} {x0 : Int} (q : ∀ (r : Int) (M' : jm), RI M' → RH M' → RF M' → (-5) ≤ r ∧ r ≤ 23 → RG1 M' → GAR M0 M' x0 r → (∀ (a : Nat) (i : Int), a ≠ 598 → a ≠ 600 → a ≠ 601 → a ≠ 602 → a ≠ 603 → a ≠ 604 → a ≠ 605 → a ≠ 606 → a ≠ 607 → a ≠ 608 → a ≠ 609 → a ≠ 610 → a ≠ 611 → a ≠ 612 → a ≠ 613 → a ≠ 614 → a ≠ 615 → a ≠ 616 → a ≠ 617 → a ≠ 618 → a ≠ 619 → a ≠ 620 → a ≠ 621 → a ≠ 622 → M' a i = M0 a i) → (∀ (i : Int), i ≠ 6 → i ≠ 10 → i ≠ 11 → i ≠ 12 → i ≠ 34 → M' 598 i = M0 598 i) → Q (some (.int (Int32.ofInt r))) M') : ∀ (M : jm) (g : Int) (o : Int) (c : Int) (f : Int) (t : Int) (k : Int) (h : Int) (x : Int), RI M → RH M → RF M → (∀ (a : Nat) (i : Int), a ≠ 598 → a ≠ 600 → a ≠ 601 → a ≠ 602 → a ≠ 603 → a ≠ 604 → a ≠ 605 → a ≠ 606 → a ≠ 607 → a ≠ 608 → a ≠ 609 → a ≠ 610 → a ≠ 611 → a ≠ 612 → a ≠ 613 → a ≠ 614 → a ≠ 615 → a ≠ 616 → a ≠ 617 → a ≠ 618 → a ≠ 619 → a ≠ 620 → a ≠ 621 → a ≠ 622 → M a i = M0 a i) → (∀ (i : Int), i ≠ 6 → i ≠ 10 → i ≠ 11 → i ≠ 12 → i ≠ 34 → M 598 i = M0 598 i) → 0 ≤ g ∧ g ≤ 7 → 0 ≤ o ∧ o ≤ 65528 → 1 ≤ c ∧ c ≤ 400 → 0 ≤ f ∧ f ≤ 400 → 0 ≤ t ∧ t ≤ 11 → 0 ≤ k ∧ k ≤ 11 → 0 ≤ h ∧ h ≤ 11 → 0 ≤ x ∧ x ≤ 23 → RG1 M → KT M o c f t k h x → (M 606 g ≠ 0 ∧ M 607 g = k) → PX3 M0 M x h t k g o c f → (M 614 g = -1 ∨ (0 ≤ M 614 g ∧ M 614 g ≤ 360)) → x = x0 → jr A 5 xm_292 459 [(18, .int (Int32.ofInt (g))), (9, .int (Int32.ofInt (o))), (8, .int (Int32.ofInt (c))), (7, .int (Int32.ofInt (f))), (5, .int (Int32.ofInt (t))), (3, .int (Int32.ofInt (k))), (2, .int (Int32.ofInt (h))), (1, .int (Int32.ofInt (x))), (0, .ref (598))] [] M Q := by
    intro M g o c f t k h x hI_M hH_M hS_M hF_M hG_M h_g h_o h_c h_f h_t h_k h_h h_x hy0 hy1 hy2 hy3 hy4 hy5
    subst hy5
    have hG1 := hy0
    have kt := hy1
    obtain ⟨t1, t2, t3, t4, t5, t6⟩ := hy1
    have gs := hG1 g (by omega) hy2.1
    refine jr.aload_n rfl rfl ?_
    refine jr.iload rfl rfl ?_
    refine jr.iload_n rfl rfl ?_
    refine jr.iload rfl rfl ?_
    refine jr.iload rfl rfl ?_
    refine jr.iload rfl rfl ?_
    refine jr_v rfl rfl (Or.inl rfl) rfl rfl (by decide) rfl ⟨rfl, Nat.le_of_ble_eq_true rfl, Nat.le_of_ble_eq_true rfl⟩ rfl (jc.deep (r_layData_x hI_M hH_M hS_M  (by omega) (by omega) (by omega) (by omega) (by omega) (by omega) hy4 (fun M1 hI_M1 hH_M1 hS_M1  w1_0 w1_1 w1_2 => ?_)) (by decide))
    refine jr.iload rfl rfl ?_
    refine jr.if_ne rfl rfl (by omega) (fun h474 => ?_) (fun h474 => ?_)
    · have sx474 : (1 : Int) ≤ o := by omega
      refine jr.aload_n rfl rfl ?_
      refine jr.iload rfl rfl ?_
      obtain ⟨v3, e3⟩ : ∃ z, M 606 g = z := ⟨_, rfl⟩
      have b3 : 0 ≤ v3 ∧ v3 ≤ 1 := by rw [← e3]; exact (by have q := hI_M 606 g (by decide); rw [xri_row rfl rfl] at q; exact q)
      have e4 : M1 606 g = v3 := ((w1_1 606 g (by decide) (by decide) (by decide) (by decide)).trans e3)
      refine jr_v rfl rfl (Or.inl rfl) rfl rfl (by decide) rfl ⟨rfl, Nat.le_of_ble_eq_true rfl, Nat.le_of_ble_eq_true rfl⟩ rfl (jc.deep (r_finish_x hI_M1 hH_M1 hS_M1  (by omega) (RG1.fr hG1 (fun a i ha => w1_1 a i (fun e => absurd ha (by rw [e]; decide)) (fun e => absurd ha (by rw [e]; decide)) (fun e => absurd ha (by rw [e]; decide)) (fun e => absurd ha (by rw [e]; decide)))) (by rw [e4]; omega) (fun r2 M2 hI_M2 hH_M2 hS_M2  z2 w2_0 w2_1 w2_2 => ?_)) (by decide))
      obtain ⟨v5, e5⟩ : ∃ z, M 617 g = z := ⟨_, rfl⟩
      have b5 : (-1) ≤ v5 ∧ v5 ≤ 400 := by rw [← e5]; exact (by have q := hI_M 617 g (by decide); rw [xri_row rfl rfl] at q; exact q)
      have e6 : M1 617 g = v5 := ((w1_1 617 g (by decide) (by decide) (by decide) (by decide)).trans e5)
      exact jr.ireturn rfl rfl rfl (q _ _ hI_M2 hH_M2 hS_M2  (by omega) w2_0 (Or.inr (Or.inr ⟨h, t, k, g, o, c, f, M, M1, M1, hy3, ⟨w1_0, fun b i a1 a2 a3 a4 => w1_1 b i a1 a2 a3 a4, fun i a1 => w1_2 i a1⟩, Or.inr ⟨(by first | (intro u; omega) | (rw [e6]; omega)), rfl⟩, w2_1, fun b i a1 a2 a3 a4 => w2_2 b i a1 a2 a3 a4⟩)) (fun a i f598 f600 f601 f602 f603 f604 f605 f606 f607 f608 f609 f610 f611 f612 f613 f614 f615 f616 f617 f618 f619 f620 f621 f622 => ((w2_2 a i f600 f601 f602 f606).trans ((w1_1 a i f598 f615 f616 f622).trans (hF_M a i f598 f600 f601 f602 f603 f604 f605 f606 f607 f608 f609 f610 f611 f612 f613 f614 f615 f616 f617 f618 f619 f620 f621 f622)))) (fun i g6 g10 g11 g12 g34 => ((w2_2 598 i (by decide) (by decide) (by decide) (by decide)).trans ((w1_2 i g34).trans (hG_M i g6 g10 g11 g12 g34)))))
    · refine jr.aload_n rfl rfl ?_
      refine jr.getf (i := 28) (v := .ref 617) rfl rfl (by decide) rfl (by decide) rfl rfl rfl rfl ?_
      refine jr.iload rfl rfl ?_
      obtain ⟨v7, e7⟩ : ∃ z, M 617 g = z := ⟨_, rfl⟩
      have b7 : (-1) ≤ v7 ∧ v7 ≤ 400 := by rw [← e7]; exact (by have q := hI_M 617 g (by decide); rw [xri_row rfl rfl] at q; exact q)
      have e8 : M1 617 g = v7 := ((w1_1 617 g (by decide) (by decide) (by decide) (by decide)).trans e7)
      refine jr.iald (i := g) (x := v7) rfl (by decide) rfl (by decide) (by omega) (by omega) e8 ?_
      refine jr.iconst rfl ?_
      refine jr.icmp_ne rfl rfl (by omega) (by omega) (fun h485 => ?_) (fun h485 => ?_)
      · have sx485 : (0 : Int) ≤ v7 := by omega
        refine jr.aload_n rfl rfl ?_
        refine jr.iload rfl rfl ?_
        obtain ⟨v10, e10⟩ : ∃ z, M 606 g = z := ⟨_, rfl⟩
        have b10 : 0 ≤ v10 ∧ v10 ≤ 1 := by rw [← e10]; exact (by have q := hI_M 606 g (by decide); rw [xri_row rfl rfl] at q; exact q)
        have e11 : M1 606 g = v10 := ((w1_1 606 g (by decide) (by decide) (by decide) (by decide)).trans e10)
        refine jr_v rfl rfl (Or.inl rfl) rfl rfl (by decide) rfl ⟨rfl, Nat.le_of_ble_eq_true rfl, Nat.le_of_ble_eq_true rfl⟩ rfl (jc.deep (r_finish_x hI_M1 hH_M1 hS_M1  (by omega) (RG1.fr hG1 (fun a i ha => w1_1 a i (fun e => absurd ha (by rw [e]; decide)) (fun e => absurd ha (by rw [e]; decide)) (fun e => absurd ha (by rw [e]; decide)) (fun e => absurd ha (by rw [e]; decide)))) (by rw [e11]; omega) (fun r9 M9 hI_M9 hH_M9 hS_M9  z9 w9_0 w9_1 w9_2 => ?_)) (by decide))
        exact jr.ireturn rfl rfl rfl (q _ _ hI_M9 hH_M9 hS_M9  (by omega) w9_0 (Or.inr (Or.inr ⟨h, t, k, g, o, c, f, M, M1, M1, hy3, ⟨w1_0, fun b i a1 a2 a3 a4 => w1_1 b i a1 a2 a3 a4, fun i a1 => w1_2 i a1⟩, Or.inr ⟨(by first | (intro u; omega) | (rw [e8]; omega)), rfl⟩, w9_1, fun b i a1 a2 a3 a4 => w9_2 b i a1 a2 a3 a4⟩)) (fun a i f598 f600 f601 f602 f603 f604 f605 f606 f607 f608 f609 f610 f611 f612 f613 f614 f615 f616 f617 f618 f619 f620 f621 f622 => ((w9_2 a i f600 f601 f602 f606).trans ((w1_1 a i f598 f615 f616 f622).trans (hF_M a i f598 f600 f601 f602 f603 f604 f605 f606 f607 f608 f609 f610 f611 f612 f613 f614 f615 f616 f617 f618 f619 f620 f621 f622)))) (fun i g6 g10 g11 g12 g34 => ((w9_2 598 i (by decide) (by decide) (by decide) (by decide)).trans ((w1_2 i g34).trans (hG_M i g6 g10 g11 g12 g34)))))
      · refine jr.aload_n rfl rfl ?_
        refine jr.iload rfl rfl ?_
        refine jr.iload_n rfl rfl ?_
        refine jr.iload_n rfl rfl ?_
        refine jr.iload rfl rfl ?_
        obtain ⟨v13, e13⟩ : ∃ z, M 604 h = z := ⟨_, rfl⟩
        have b13 : 0 ≤ v13 ∧ v13 ≤ 400 := by rw [← e13]; exact (by have q := hI_M 604 h (by decide); rw [xri_row rfl rfl] at q; exact q)
        have e14 : M1 604 h = v13 := ((w1_1 604 h (by decide) (by decide) (by decide) (by decide)).trans e13)
        obtain ⟨v15, e15⟩ : ∃ z, M 605 h = z := ⟨_, rfl⟩
        have b15 : 0 ≤ v15 ∧ v15 ≤ 400 := by rw [← e15]; exact (by have q := hI_M 605 h (by decide); rw [xri_row rfl rfl] at q; exact q)
        have e16 : M1 605 h = v15 := ((w1_1 605 h (by decide) (by decide) (by decide) (by decide)).trans e15)
        obtain ⟨v17, e17⟩ : ∃ z, M 604 t = z := ⟨_, rfl⟩
        have b17 : 0 ≤ v17 ∧ v17 ≤ 400 := by rw [← e17]; exact (by have q := hI_M 604 t (by decide); rw [xri_row rfl rfl] at q; exact q)
        have e18 : M1 604 t = v17 := ((w1_1 604 t (by decide) (by decide) (by decide) (by decide)).trans e17)
        obtain ⟨v19, e19⟩ : ∃ z, M 607 g = z := ⟨_, rfl⟩
        have b19 : 0 ≤ v19 ∧ v19 ≤ 11 := by rw [← e19]; exact (by have q := hI_M 607 g (by decide); rw [xri_row rfl rfl] at q; exact q)
        have e20 : M1 607 g = v19 := ((w1_1 607 g (by decide) (by decide) (by decide) (by decide)).trans e19)
        obtain ⟨v21, e21⟩ : ∃ z, M 613 g = z := ⟨_, rfl⟩
        have b21 : 0 ≤ v21 ∧ v21 ≤ 720 := by rw [← e21]; exact (by have q := hI_M 613 g (by decide); rw [xri_row rfl rfl] at q; exact q)
        have e22 : M1 613 g = v21 := ((w1_1 613 g (by decide) (by decide) (by decide) (by decide)).trans e21)
        refine jr_v rfl rfl (Or.inl rfl) rfl rfl (by decide) rfl ⟨rfl, Nat.le_of_ble_eq_true rfl, Nat.le_of_ble_eq_true rfl⟩ rfl (jc.deep (r_keepHeaders_x hI_M1 hH_M1 hS_M1  (by omega) (by omega) (by omega) (by omega) (by rw [e14, e16]; omega) (by rw [e18]; omega) (by rw [e14]; omega) (fun q => (KT.fr kt (fun i => (w1_1 601 i (by decide) (by decide) (by decide) (by decide)).trans ((fun i => rfl) i)) (fun i => (w1_1 604 i (by decide) (by decide) (by decide) (by decide)).trans ((fun i => rfl) i)) (fun i => (w1_1 605 i (by decide) (by decide) (by decide) (by decide)).trans ((fun i => rfl) i))).2.2.2.2.2 (by rw [e20] at q; omega)) (by rw [e22]; omega) (RG1.fr hG1 (fun a i ha => w1_1 a i (fun e => absurd ha (by rw [e]; decide)) (fun e => absurd ha (by rw [e]; decide)) (fun e => absurd ha (by rw [e]; decide)) (fun e => absurd ha (by rw [e]; decide)))) (fun M12 hI_M12 hH_M12 hS_M12  w12_0 w12_1 w12_2 => ?_)) (by decide))
        refine jr.aload_n rfl rfl ?_
        refine jr.iload rfl rfl ?_
        obtain ⟨v24, e24⟩ : ∃ z, M 606 g = z := ⟨_, rfl⟩
        have b24 : 0 ≤ v24 ∧ v24 ≤ 1 := by rw [← e24]; exact (by have q := hI_M 606 g (by decide); rw [xri_row rfl rfl] at q; exact q)
        have e25 : M1 606 g = v24 := ((w1_1 606 g (by decide) (by decide) (by decide) (by decide)).trans e24)
        have e26 : M12 606 g = v24 := ((w12_2 606 g (by decide) (by decide) (by decide) (by decide) (by decide)).trans e25)
        refine jr_v rfl rfl (Or.inl rfl) rfl rfl (by decide) rfl ⟨rfl, Nat.le_of_ble_eq_true rfl, Nat.le_of_ble_eq_true rfl⟩ rfl (jc.deep (r_finish_x hI_M12 hH_M12 hS_M12  (by omega) w12_0 (by rw [e26]; omega) (fun r23 M23 hI_M23 hH_M23 hS_M23  z23 w23_0 w23_1 w23_2 => ?_)) (by decide))
        exact jr.ireturn rfl rfl rfl (q _ _ hI_M23 hH_M23 hS_M23  (by omega) w23_0 (Or.inr (Or.inr ⟨h, t, k, g, o, c, f, M, M1, M12, hy3, ⟨w1_0, fun b i a1 a2 a3 a4 => w1_1 b i a1 a2 a3 a4, fun i a1 => w1_2 i a1⟩, Or.inl ⟨by omega, by rw [e8]; omega, w12_1, fun b i a1 a2 a3 a4 a5 => w12_2 b i a1 a2 a3 a4 a5⟩, w23_1, fun b i a1 a2 a3 a4 => w23_2 b i a1 a2 a3 a4⟩)) (fun a i f598 f600 f601 f602 f603 f604 f605 f606 f607 f608 f609 f610 f611 f612 f613 f614 f615 f616 f617 f618 f619 f620 f621 f622 => ((w23_2 a i f600 f601 f602 f606).trans ((w12_2 a i f617 f618 f619 f620 f621).trans ((w1_1 a i f598 f615 f616 f622).trans (hF_M a i f598 f600 f601 f602 f603 f604 f605 f606 f607 f608 f609 f610 f611 f612 f613 f614 f615 f616 f617 f618 f619 f620 f621 f622))))) (fun i g6 g10 g11 g12 g34 => ((w23_2 598 i (by decide) (by decide) (by decide) (by decide)).trans ((w12_2 598 i (by decide) (by decide) (by decide) (by decide) (by decide)).trans ((w1_2 i g34).trans (hG_M i g6 g10 g11 g12 g34))))))
theorem r_gather_L418_x {A : Nat → Option (Nat × (Nat → Int32))} {Q : Option Value → jm → Prop} {M0 : jm} {x0 : Int} (q : ∀ (r : Int) (M' : jm), RI M' → RH M' → RF M' → (-5) ≤ r ∧ r ≤ 23 → RG1 M' → GAR M0 M' x0 r → (∀ (a : Nat) (i : Int), a ≠ 598 → a ≠ 600 → a ≠ 601 → a ≠ 602 → a ≠ 603 → a ≠ 604 → a ≠ 605 → a ≠ 606 → a ≠ 607 → a ≠ 608 → a ≠ 609 → a ≠ 610 → a ≠ 611 → a ≠ 612 → a ≠ 613 → a ≠ 614 → a ≠ 615 → a ≠ 616 → a ≠ 617 → a ≠ 618 → a ≠ 619 → a ≠ 620 → a ≠ 621 → a ≠ 622 → M' a i = M0 a i) → (∀ (i : Int), i ≠ 6 → i ≠ 10 → i ≠ 11 → i ≠ 12 → i ≠ 34 → M' 598 i = M0 598 i) → Q (some (.int (Int32.ofInt r))) M') : ∀ (M : jm) (i : Int) (g : Int) (o : Int) (c : Int) (f : Int) (t : Int) (k : Int) (h : Int) (x : Int), RI M → RH M → RF M → (∀ (a : Nat) (i : Int), a ≠ 598 → a ≠ 600 → a ≠ 601 → a ≠ 602 → a ≠ 603 → a ≠ 604 → a ≠ 605 → a ≠ 606 → a ≠ 607 → a ≠ 608 → a ≠ 609 → a ≠ 610 → a ≠ 611 → a ≠ 612 → a ≠ 613 → a ≠ 614 → a ≠ 615 → a ≠ 616 → a ≠ 617 → a ≠ 618 → a ≠ 619 → a ≠ 620 → a ≠ 621 → a ≠ 622 → M a i = M0 a i) → (∀ (i : Int), i ≠ 6 → i ≠ 10 → i ≠ 11 → i ≠ 12 → i ≠ 34 → M 598 i = M0 598 i) → 0 ≤ i ∧ i ≤ 1 → 0 ≤ g ∧ g ≤ 7 → 0 ≤ o ∧ o ≤ 65528 → 1 ≤ c ∧ c ≤ 400 → 0 ≤ f ∧ f ≤ 400 → 0 ≤ t ∧ t ≤ 11 → 0 ≤ k ∧ k ≤ 11 → 0 ≤ h ∧ h ≤ 11 → 0 ≤ x ∧ x ≤ 23 → RG1 M → KT M o c f t k h x → (M 606 g ≠ 0 ∧ M 607 g = k) → (i = 1 → o + c ≤ 360) → PX2 M0 M x h t k g i o c f → ((M 614 g = -1 ∧ (M 613 g = 64 ∨ M 613 g = 128 ∨ M 613 g = 256 ∨ M 613 g = 360)) ∨ (0 ≤ M 614 g ∧ M 614 g ≤ 360)) → x = x0 → jr A 5 xm_292 418 [(19, .int (Int32.ofInt (i))), (18, .int (Int32.ofInt (g))), (9, .int (Int32.ofInt (o))), (8, .int (Int32.ofInt (c))), (7, .int (Int32.ofInt (f))), (5, .int (Int32.ofInt (t))), (3, .int (Int32.ofInt (k))), (2, .int (Int32.ofInt (h))), (1, .int (Int32.ofInt (x))), (0, .ref (598))] [] M Q := by
    intro M i g o c f t k h x hI_M hH_M hS_M hF_M hG_M h_i h_g h_o h_c h_f h_t h_k h_h h_x hy0 hy1 hy2 hy3 hy4 hy5 hy6
    subst hy6
    have hG1 := hy0
    have kt := hy1
    obtain ⟨t1, t2, t3, t4, t5, t6⟩ := hy1
    have gs := hG1 g (by omega) hy2.1
    refine jr.iload rfl rfl ?_
    refine jr.if_eq rfl rfl (by omega) (fun h420 => ?_) (fun h420 => ?_)
    · refine jr.aload_n rfl rfl ?_
      refine jr.getf (i := 25) (v := .ref 614) rfl rfl (by decide) rfl (by decide) rfl rfl rfl rfl ?_
      refine jr.iload rfl rfl ?_
      obtain ⟨v1, e1⟩ : ∃ z, M 614 g = z := ⟨_, rfl⟩
      have b1 : (-1) ≤ v1 ∧ v1 ≤ 360 := by rw [← e1]; exact (by have q := hI_M 614 g (by decide); rw [xri_row rfl rfl] at q; exact q)
      refine jr.iald (i := g) (x := v1) rfl (by decide) rfl (by decide) (by omega) (by omega) e1 ?_
      refine jr.iconst rfl ?_
      refine jr.icmp_ne rfl rfl (by omega) (by omega) (fun h445 => ?_) (fun h445 => ?_)
      · have sx445 : (0 : Int) ≤ v1 := by omega
        obtain ⟨v2, e2⟩ : ∃ z, M 606 g = z := ⟨_, rfl⟩
        have b2 : 0 ≤ v2 ∧ v2 ≤ 1 := by rw [← e2]; exact (by have q := hI_M 606 g (by decide); rw [xri_row rfl rfl] at q; exact q)
        obtain ⟨v3, e3⟩ : ∃ z, M 607 g = z := ⟨_, rfl⟩
        have b3 : 0 ≤ v3 ∧ v3 ≤ 11 := by rw [← e3]; exact (by have q := hI_M 607 g (by decide); rw [xri_row rfl rfl] at q; exact q)
        refine jr.pick [1, 2, 3, 4, 5, 6, 7, 8, 9] rfl rfl ?_
        exact r_gather_L459_x q M g o c f t k h x hI_M hH_M hS_M  (fun a i f598 f600 f601 f602 f603 f604 f605 f606 f607 f608 f609 f610 f611 f612 f613 f614 f615 f616 f617 f618 f619 f620 f621 f622 => (hF_M a i f598 f600 f601 f602 f603 f604 f605 f606 f607 f608 f609 f610 f611 f612 f613 f614 f615 f616 f617 f618 f619 f620 f621 f622)) (fun i g6 g10 g11 g12 g34 => (hG_M i g6 g10 g11 g12 g34)) (by omega) (by omega) (by omega) (by omega) (by omega) (by omega) (by omega) (by omega) hG1 (KT.fr kt (fun i => rfl) (fun i => rfl) (fun i => rfl)) (by rw [e2, e3] <;> omega) ⟨M, i, hy4, Or.inr (Or.inr ⟨by omega, by omega, rfl⟩)⟩ (by have h9 := hy5; omega) (by omega)
      · refine jr.aload_n rfl rfl ?_
        refine jr.iload rfl rfl ?_
        refine jr.iload rfl rfl ?_
        refine jr.iload rfl rfl ?_
        refine jr.iadd rfl ?_
        refine jr_v rfl rfl (Or.inl rfl) rfl rfl (by decide) rfl ⟨rfl, Nat.le_of_ble_eq_true rfl, Nat.le_of_ble_eq_true rfl⟩ rfl (jc.deep (r_growRow_x hI_M hH_M hS_M  (by omega) (by omega) (by have h9 := hy5; omega) hG1 (fun M4 hI_M4 hH_M4 hS_M4  w4_0 w4_1 w4_2 w4_3 => ?_)) (by decide))
        obtain ⟨v5, e5⟩ : ∃ z, M 606 g = z := ⟨_, rfl⟩
        have b5 : 0 ≤ v5 ∧ v5 ≤ 1 := by rw [← e5]; exact (by have q := hI_M 606 g (by decide); rw [xri_row rfl rfl] at q; exact q)
        have e6 : M4 606 g = v5 := ((w4_3 606 g (by decide)).trans e5)
        obtain ⟨v7, e7⟩ : ∃ z, M 607 g = z := ⟨_, rfl⟩
        have b7 : 0 ≤ v7 ∧ v7 ≤ 11 := by rw [← e7]; exact (by have q := hI_M 607 g (by decide); rw [xri_row rfl rfl] at q; exact q)
        have e8 : M4 607 g = v7 := ((w4_3 607 g (by decide)).trans e7)
        refine jr.pick [1, 2, 3, 4, 5, 6, 7, 8, 9] rfl rfl ?_
        exact r_gather_L459_x q M4 g o c f t k h x hI_M4 hH_M4 hS_M4  (fun a i f598 f600 f601 f602 f603 f604 f605 f606 f607 f608 f609 f610 f611 f612 f613 f614 f615 f616 f617 f618 f619 f620 f621 f622 => ((w4_3 a i f613).trans (hF_M a i f598 f600 f601 f602 f603 f604 f605 f606 f607 f608 f609 f610 f611 f612 f613 f614 f615 f616 f617 f618 f619 f620 f621 f622))) (fun i g6 g10 g11 g12 g34 => ((w4_3 598 i (by decide)).trans (hG_M i g6 g10 g11 g12 g34))) (by omega) (by omega) (by omega) (by omega) (by omega) (by omega) (by omega) (by omega) w4_0 (KT.fr kt (fun i => (w4_3 601 i (by decide)).trans ((fun i => rfl) i)) (fun i => (w4_3 604 i (by decide)).trans ((fun i => rfl) i)) (fun i => (w4_3 605 i (by decide)).trans ((fun i => rfl) i))) (by rw [e6, e8] <;> omega) ⟨M, i, hy4, Or.inr (Or.inl ⟨by omega, by omega, w4_1, w4_2, fun b j a1 => w4_3 b j a1⟩)⟩ (by rw [w4_3 614 g (by decide)]; have h9 := hy5; omega) (by omega)
    · have sx420 : (1 : Int) ≤ i := by omega
      refine jr.aload_n rfl rfl ?_
      refine jr.iload rfl rfl ?_
      refine jr.iload rfl rfl ?_
      refine jr.iload rfl rfl ?_
      refine jr.iadd rfl ?_
      refine jr_v rfl rfl (Or.inl rfl) rfl rfl (by decide) rfl ⟨rfl, Nat.le_of_ble_eq_true rfl, Nat.le_of_ble_eq_true rfl⟩ rfl (jc.deep (r_tellWhole_x hI_M hH_M hS_M  (by omega) (by omega) hG1 (fun M9 hI_M9 hH_M9 hS_M9  w9_0 w9_1 w9_2 w9_3 w9_4 => ?_)) (by decide))
      refine jr.goto rfl rfl ?_
      obtain ⟨v10, e10⟩ : ∃ z, M 606 g = z := ⟨_, rfl⟩
      have b10 : 0 ≤ v10 ∧ v10 ≤ 1 := by rw [← e10]; exact (by have q := hI_M 606 g (by decide); rw [xri_row rfl rfl] at q; exact q)
      have e11 : M9 606 g = v10 := ((w9_4 606 g (by decide) (by decide) (by decide)).trans e10)
      obtain ⟨v12, e12⟩ : ∃ z, M 607 g = z := ⟨_, rfl⟩
      have b12 : 0 ≤ v12 ∧ v12 ≤ 11 := by rw [← e12]; exact (by have q := hI_M 607 g (by decide); rw [xri_row rfl rfl] at q; exact q)
      have e13 : M9 607 g = v12 := ((w9_4 607 g (by decide) (by decide) (by decide)).trans e12)
      refine jr.pick [1, 2, 3, 4, 5, 6, 7, 8, 9] rfl rfl ?_
      exact r_gather_L459_x q M9 g o c f t k h x hI_M9 hH_M9 hS_M9  (fun a i f598 f600 f601 f602 f603 f604 f605 f606 f607 f608 f609 f610 f611 f612 f613 f614 f615 f616 f617 f618 f619 f620 f621 f622 => ((w9_4 a i f613 f614 f616).trans (hF_M a i f598 f600 f601 f602 f603 f604 f605 f606 f607 f608 f609 f610 f611 f612 f613 f614 f615 f616 f617 f618 f619 f620 f621 f622))) (fun i g6 g10 g11 g12 g34 => ((w9_4 598 i (by decide) (by decide) (by decide)).trans (hG_M i g6 g10 g11 g12 g34))) (by omega) (by omega) (by omega) (by omega) (by omega) (by omega) (by omega) (by omega) w9_0 (KT.fr kt (fun i => (w9_4 601 i (by decide) (by decide) (by decide)).trans ((fun i => rfl) i)) (fun i => (w9_4 604 i (by decide) (by decide) (by decide)).trans ((fun i => rfl) i)) (fun i => (w9_4 605 i (by decide) (by decide) (by decide)).trans ((fun i => rfl) i))) (by rw [e11, e13] <;> omega) ⟨M, i, hy4, Or.inl ⟨by omega, w9_1, w9_2, w9_3, fun b j a1 a2 a3 => w9_4 b j a1 a2 a3⟩⟩ (by have h9 := w9_1.1; omega) (by omega)
theorem r_gather_L345_x {A : Nat → Option (Nat × (Nat → Int32))} {Q : Option Value → jm → Prop} {M0 : jm} {x0 : Int} (q : ∀ (r : Int) (M' : jm), RI M' → RH M' → RF M' → (-5) ≤ r ∧ r ≤ 23 → RG1 M' → GAR M0 M' x0 r → (∀ (a : Nat) (i : Int), a ≠ 598 → a ≠ 600 → a ≠ 601 → a ≠ 602 → a ≠ 603 → a ≠ 604 → a ≠ 605 → a ≠ 606 → a ≠ 607 → a ≠ 608 → a ≠ 609 → a ≠ 610 → a ≠ 611 → a ≠ 612 → a ≠ 613 → a ≠ 614 → a ≠ 615 → a ≠ 616 → a ≠ 617 → a ≠ 618 → a ≠ 619 → a ≠ 620 → a ≠ 621 → a ≠ 622 → M' a i = M0 a i) → (∀ (i : Int), i ≠ 6 → i ≠ 10 → i ≠ 11 → i ≠ 12 → i ≠ 34 → M' 598 i = M0 598 i) → Q (some (.int (Int32.ofInt r))) M') : ∀ (M : jm) (i : Int) (g : Int) (a : Int) (b : Int) (d : Int) (e : Int) (m : Int) (o : Int) (c : Int) (f : Int) (t : Int) (k : Int) (h : Int) (x : Int), RI M → RH M → RF M → (∀ (a : Nat) (i : Int), a ≠ 598 → a ≠ 600 → a ≠ 601 → a ≠ 602 → a ≠ 603 → a ≠ 604 → a ≠ 605 → a ≠ 606 → a ≠ 607 → a ≠ 608 → a ≠ 609 → a ≠ 610 → a ≠ 611 → a ≠ 612 → a ≠ 613 → a ≠ 614 → a ≠ 615 → a ≠ 616 → a ≠ 617 → a ≠ 618 → a ≠ 619 → a ≠ 620 → a ≠ 621 → a ≠ 622 → M a i = M0 a i) → (∀ (i : Int), i ≠ 6 → i ≠ 10 → i ≠ 11 → i ≠ 12 → i ≠ 34 → M 598 i = M0 598 i) → 0 ≤ i ∧ i ≤ 1 → (-1) ≤ g ∧ g ≤ 7 → (-9223372036854775808) ≤ a ∧ a ≤ 9223372036854775807 → (-9223372036854775808) ≤ b ∧ b ≤ 9223372036854775807 → (-9223372036854775808) ≤ d ∧ d ≤ 9223372036854775807 → 0 ≤ e ∧ e ≤ 255 → 0 ≤ m ∧ m ≤ 1 → 0 ≤ o ∧ o ≤ 65528 → 0 ≤ c ∧ c ≤ 400 → 0 ≤ f ∧ f ≤ 400 → 0 ≤ t ∧ t ≤ 11 → 0 ≤ k ∧ k ≤ 11 → 0 ≤ h ∧ h ≤ 11 → 0 ≤ x ∧ x ≤ 23 → RG1 M → KT M o c f t k h x → (g = -1 ∨ (0 ≤ g ∧ M 606 g ≠ 0 ∧ M 607 g = k)) → PX1 M0 M x h t k (hY (rf M0 x) (M0 600 x) h) → (o = ofs (rf M0 x) (M0 600 x) (M 598 6) h ∧ c = M0 600 x - enf (rf M0 x) (M0 600 x) (M 598 6) h ∧ f = enf (rf M0 x) (M0 600 x) (M 598 6) h) → GQ6 M → (m = mrf (rf M0 x) (M0 600 x) (M 598 6) h ∧ e = vA (rf M0 x) (M0 600 x) (M 598 6) h (if kA (rf M0 x) (M0 600 x) (M 598 6) h = 2 then 7 else 0)) → (b = adf (rf M0 x) (M0 600 x) (M 598 6) t 0 ∧ d = vA (rf M0 x) (M0 600 x) (M 598 6) h 3 ∧ a = adf (rf M0 x) (M0 600 x) (M 598 6) t 1) → g = g6 M (rf M0 x) (M0 600 x) (M 598 6) h → ((i = 1 ∧ m ≠ 1 ∧ fst6 M (rf M0 x) (M0 600 x) (M 598 6) h = 1) ∨ (i = 0 ∧ ¬ (m ≠ 1 ∧ fst6 M (rf M0 x) (M0 600 x) (M 598 6) h = 1))) → x = x0 → jr A 5 xm_292 345 [(19, .int (Int32.ofInt (i))), (18, .int (Int32.ofInt (g))), (16, .long (Int64.ofInt (a))), (14, .long (Int64.ofInt (b))), (12, .long (Int64.ofInt (d))), (11, .int (Int32.ofInt (e))), (10, .int (Int32.ofInt (m))), (9, .int (Int32.ofInt (o))), (8, .int (Int32.ofInt (c))), (7, .int (Int32.ofInt (f))), (5, .int (Int32.ofInt (t))), (3, .int (Int32.ofInt (k))), (2, .int (Int32.ofInt (h))), (1, .int (Int32.ofInt (x))), (0, .ref (598))] [] M Q := by
    intro M i g a b d e m o c f t k h x hI_M hH_M hS_M hF_M hG_M h_i h_g h_a h_b h_d h_e h_m h_o h_c h_f h_t h_k h_h h_x hy0 hy1 hy2 hy3 hy4 hy5 hy6 hy7 hy8 hy9 hy10
    subst hy10
    have hG1 := hy0
    have kt := hy1
    obtain ⟨t1, t2, t3, t4, t5, t6⟩ := hy1
    refine jr.iload rfl rfl ?_
    refine jr.if_eq rfl rfl (by omega) (fun h347 => ?_) (fun h347 => ?_)
    · refine jr.bipush rfl (by decide) ?_
      exact jr.ireturn rfl rfl rfl (q _ _ hI_M hH_M hS_M  (by omega) hG1 (hy3.r (by have h9 := hy9; have h41 := hy4.1; have h42 := hy4.2.1; have h61 := hy6.1; unfold rfq; rw [← h42, ← h61, ← h41]; omega) (by omega)) (fun a i f598 f600 f601 f602 f603 f604 f605 f606 f607 f608 f609 f610 f611 f612 f613 f614 f615 f616 f617 f618 f619 f620 f621 f622 => (hF_M a i f598 f600 f601 f602 f603 f604 f605 f606 f607 f608 f609 f610 f611 f612 f613 f614 f615 f616 f617 f618 f619 f620 f621 f622)) (fun i g6 g10 g11 g12 g34 => (hG_M i g6 g10 g11 g12 g34)))
    · have sx347 : (1 : Int) ≤ c := by omega
      refine jr.iload rfl rfl ?_
      refine jr.if_eq rfl rfl (by omega) (fun h352 => ?_) (fun h352 => ?_)
      · refine jr.iload rfl rfl ?_
        refine jr.if_eq rfl rfl (by omega) (fun h365 => ?_) (fun h365 => ?_)
        · refine jr.iload rfl rfl ?_
          refine jr.iconst rfl ?_
          refine jr.icmp_ne rfl rfl (by omega) (by omega) (fun h385 => ?_) (fun h385 => ?_)
          · have sx385 : (0 : Int) ≤ g := by omega
            obtain ⟨v1, e1⟩ : ∃ z, M 606 g = z := ⟨_, rfl⟩
            have b1 : 0 ≤ v1 ∧ v1 ≤ 1 := by rw [← e1]; exact (by have q := hI_M 606 g (by decide); rw [xri_row rfl rfl] at q; exact q)
            obtain ⟨v2, e2⟩ : ∃ z, M 607 g = z := ⟨_, rfl⟩
            have b2 : 0 ≤ v2 ∧ v2 ≤ 11 := by rw [← e2]; exact (by have q := hI_M 607 g (by decide); rw [xri_row rfl rfl] at q; exact q)
            refine jr.pick [0, 1, 7, 8, 9, 10, 11, 12, 13, 14] rfl rfl ?_
            exact r_gather_L418_x q M i g o c f t k h x hI_M hH_M hS_M  (fun a i f598 f600 f601 f602 f603 f604 f605 f606 f607 f608 f609 f610 f611 f612 f613 f614 f615 f616 f617 f618 f619 f620 f621 f622 => (hF_M a i f598 f600 f601 f602 f603 f604 f605 f606 f607 f608 f609 f610 f611 f612 f613 f614 f615 f616 f617 f618 f619 f620 f621 f622)) (fun i g6 g10 g11 g12 g34 => (hG_M i g6 g10 g11 g12 g34)) (by omega) (by omega) (by omega) (by omega) (by omega) (by omega) (by omega) (by omega) (by omega) hG1 (KT.fr kt (fun i => rfl) (fun i => rfl) (fun i => rfl)) (by rw [e1, e2] <;> omega) (by omega) ⟨M, hy3, hy4, (show ¬ rfq (rf M0 x) (M0 600 x) (M 598 6) h (fst6 M (rf M0 x) (M0 600 x) (M 598 6) h) from by have h9 := hy9; have h41 := hy4.1; have h42 := hy4.2.1; have h61 := hy6.1; unfold rfq; rw [← h42, ← h61, ← h41]; omega), (by rw [← hy6.1]; exact hy9), Or.inl ⟨by rw [← hy8]; omega, hy8, rfl⟩⟩ (hy5 g (by omega) (by omega) ((hy2.resolve_left (by omega)).2.1)) (by omega)
          · refine jr.aload_n rfl rfl ?_
            refine jr_v rfl rfl (Or.inl rfl) rfl rfl (by decide) rfl ⟨rfl, Nat.le_of_ble_eq_true rfl, Nat.le_of_ble_eq_true rfl⟩ rfl (jc.deep (r_freeGathering_x hI_M hH_M hS_M    (fun r3 z3 w3_0 => ?_)) (by decide))
            refine jr.istore rfl (by decide) rfl ?_
            refine jr.iload rfl rfl ?_
            refine jr.iconst rfl ?_
            refine jr.icmp_ne rfl rfl (by omega) (by omega) (fun h397 => ?_) (fun h397 => ?_)
            · have sx397 : (0 : Int) ≤ r3 := by omega
              refine jr.aload_n rfl rfl ?_
              refine jr.iload rfl rfl ?_
              refine jr.iload_n rfl rfl ?_
              refine jr.lload rfl rfl ?_
              refine jr.lload rfl rfl ?_
              refine jr.lload rfl rfl ?_
              refine jr.iload rfl rfl ?_
              refine jr_v rfl rfl (Or.inl rfl) rfl rfl (by decide) rfl ⟨rfl, Nat.le_of_ble_eq_true rfl, Nat.le_of_ble_eq_true rfl⟩ rfl (jc.deep (r_beginGathering_x hI_M hH_M hS_M  (by omega) (by omega) (by omega) (by omega) (by omega) (by omega) hG1 (fun M4 hI_M4 hH_M4 hS_M4  w4_0 w4_1 w4_2 w4_3 w4_4 w4_5 w4_6 w4_7 w4_8 w4_9 w4_10 w4_11 w4_12 w4_13 w4_14 => ?_)) (by decide))
              obtain ⟨v5, e5⟩ : ∃ z, M4 606 r3 = z := ⟨_, rfl⟩
              have b5 : 0 ≤ v5 ∧ v5 ≤ 1 := by rw [← e5]; exact (by have q := hI_M4 606 r3 (by decide); rw [xri_row rfl rfl] at q; exact q)
              obtain ⟨v6, e6⟩ : ∃ z, M4 607 r3 = z := ⟨_, rfl⟩
              have b6 : 0 ≤ v6 ∧ v6 ≤ 11 := by rw [← e6]; exact (by have q := hI_M4 607 r3 (by decide); rw [xri_row rfl rfl] at q; exact q)
              refine jr.pick [1, 0, 7, 8, 9, 10, 11, 12, 13, 14] rfl rfl ?_
              exact r_gather_L418_x q M4 i r3 o c f t k h x hI_M4 hH_M4 hS_M4  (fun a i f598 f600 f601 f602 f603 f604 f605 f606 f607 f608 f609 f610 f611 f612 f613 f614 f615 f616 f617 f618 f619 f620 f621 f622 => ((w4_14 a i f606 f607 f608 f609 f610 f611 f612 f613 f614 f616 f617).trans (hF_M a i f598 f600 f601 f602 f603 f604 f605 f606 f607 f608 f609 f610 f611 f612 f613 f614 f615 f616 f617 f618 f619 f620 f621 f622))) (fun i g6 g10 g11 g12 g34 => ((w4_14 598 i (by decide) (by decide) (by decide) (by decide) (by decide) (by decide) (by decide) (by decide) (by decide) (by decide) (by decide)).trans (hG_M i g6 g10 g11 g12 g34))) (by omega) (by omega) (by omega) (by omega) (by omega) (by omega) (by omega) (by omega) (by omega) w4_0 (KT.fr kt (fun i => (w4_14 601 i (by decide) (by decide) (by decide) (by decide) (by decide) (by decide) (by decide) (by decide) (by decide) (by decide) (by decide)).trans ((fun i => rfl) i)) (fun i => (w4_14 604 i (by decide) (by decide) (by decide) (by decide) (by decide) (by decide) (by decide) (by decide) (by decide) (by decide) (by decide)).trans ((fun i => rfl) i)) (fun i => (w4_14 605 i (by decide) (by decide) (by decide) (by decide) (by decide) (by decide) (by decide) (by decide) (by decide) (by decide) (by decide)).trans ((fun i => rfl) i))) (by rw [e5, e6] <;> omega) (by omega) ⟨M, hy3, hy4, (show ¬ rfq (rf M0 x) (M0 600 x) (M 598 6) h (fst6 M (rf M0 x) (M0 600 x) (M 598 6) h) from by have h9 := hy9; have h41 := hy4.1; have h42 := hy4.2.1; have h61 := hy6.1; unfold rfq; rw [← h42, ← h61, ← h41]; omega), (by rw [← hy6.1]; exact hy9), Or.inr ⟨by rw [← hy8]; omega, w3_0, by omega, (by rw [← hy3.2.2.2.1, ← hy3.2.2.2.2.1, ← hy7.1, ← hy7.2.2, ← hy7.2.1, ← hy6.2]; exact ⟨⟨w4_1, w4_2, w4_3, w4_4, w4_5, w4_6, w4_7, w4_8, w4_9⟩, w4_10, w4_11, w4_12, w4_13, fun b0 j hb => w4_14 b0 j (by omega) (by omega) (by omega) (by omega) (by omega) (by omega) (by omega) (by omega) (by omega) (by omega) (by omega)⟩)⟩⟩ (Or.inl ⟨w4_3, Or.inl w4_5⟩) (by omega)
            · refine jr.bipush rfl (by decide) ?_
              exact jr.ireturn rfl rfl rfl (q _ _ hI_M hH_M hS_M  (by omega) hG1 (hy3.f (show ¬ rfq (rf M0 x) (M0 600 x) (M 598 6) h (fst6 M (rf M0 x) (M0 600 x) (M 598 6) h) from by have h9 := hy9; have h41 := hy4.1; have h42 := hy4.2.1; have h61 := hy6.1; unfold rfq; rw [← h42, ← h61, ← h41]; omega) (by rw [← hy8]; omega) (by rw [← w3_0]; omega) (by omega)) (fun a i f598 f600 f601 f602 f603 f604 f605 f606 f607 f608 f609 f610 f611 f612 f613 f614 f615 f616 f617 f618 f619 f620 f621 f622 => (hF_M a i f598 f600 f601 f602 f603 f604 f605 f606 f607 f608 f609 f610 f611 f612 f613 f614 f615 f616 f617 f618 f619 f620 f621 f622)) (fun i g6 g10 g11 g12 g34 => (hG_M i g6 g10 g11 g12 g34)))
        · have sx365 : (1 : Int) ≤ i := by omega
          refine jr.iload rfl rfl ?_
          refine jr.iload rfl rfl ?_
          refine jr.iadd rfl ?_
          refine jr.sipush rfl (by decide) ?_
          refine jr.icmp_le rfl rfl (by omega) (by omega) (fun h376 => ?_) (fun h376 => ?_)
          · refine jr.iload rfl rfl ?_
            refine jr.iconst rfl ?_
            refine jr.icmp_ne rfl rfl (by omega) (by omega) (fun h385 => ?_) (fun h385 => ?_)
            · have sx385 : (0 : Int) ≤ g := by omega
              obtain ⟨v7, e7⟩ : ∃ z, M 606 g = z := ⟨_, rfl⟩
              have b7 : 0 ≤ v7 ∧ v7 ≤ 1 := by rw [← e7]; exact (by have q := hI_M 606 g (by decide); rw [xri_row rfl rfl] at q; exact q)
              obtain ⟨v8, e8⟩ : ∃ z, M 607 g = z := ⟨_, rfl⟩
              have b8 : 0 ≤ v8 ∧ v8 ≤ 11 := by rw [← e8]; exact (by have q := hI_M 607 g (by decide); rw [xri_row rfl rfl] at q; exact q)
              refine jr.pick [0, 1, 7, 8, 9, 10, 11, 12, 13, 14] rfl rfl ?_
              exact r_gather_L418_x q M i g o c f t k h x hI_M hH_M hS_M  (fun a i f598 f600 f601 f602 f603 f604 f605 f606 f607 f608 f609 f610 f611 f612 f613 f614 f615 f616 f617 f618 f619 f620 f621 f622 => (hF_M a i f598 f600 f601 f602 f603 f604 f605 f606 f607 f608 f609 f610 f611 f612 f613 f614 f615 f616 f617 f618 f619 f620 f621 f622)) (fun i g6 g10 g11 g12 g34 => (hG_M i g6 g10 g11 g12 g34)) (by omega) (by omega) (by omega) (by omega) (by omega) (by omega) (by omega) (by omega) (by omega) hG1 (KT.fr kt (fun i => rfl) (fun i => rfl) (fun i => rfl)) (by rw [e7, e8] <;> omega) (by omega) ⟨M, hy3, hy4, (show ¬ rfq (rf M0 x) (M0 600 x) (M 598 6) h (fst6 M (rf M0 x) (M0 600 x) (M 598 6) h) from by have h9 := hy9; have h41 := hy4.1; have h42 := hy4.2.1; have h61 := hy6.1; unfold rfq; rw [← h42, ← h61, ← h41]; omega), (by rw [← hy6.1]; exact hy9), Or.inl ⟨by rw [← hy8]; omega, hy8, rfl⟩⟩ (hy5 g (by omega) (by omega) ((hy2.resolve_left (by omega)).2.1)) (by omega)
            · refine jr.aload_n rfl rfl ?_
              refine jr_v rfl rfl (Or.inl rfl) rfl rfl (by decide) rfl ⟨rfl, Nat.le_of_ble_eq_true rfl, Nat.le_of_ble_eq_true rfl⟩ rfl (jc.deep (r_freeGathering_x hI_M hH_M hS_M    (fun r9 z9 w9_0 => ?_)) (by decide))
              refine jr.istore rfl (by decide) rfl ?_
              refine jr.iload rfl rfl ?_
              refine jr.iconst rfl ?_
              refine jr.icmp_ne rfl rfl (by omega) (by omega) (fun h397 => ?_) (fun h397 => ?_)
              · have sx397 : (0 : Int) ≤ r9 := by omega
                refine jr.aload_n rfl rfl ?_
                refine jr.iload rfl rfl ?_
                refine jr.iload_n rfl rfl ?_
                refine jr.lload rfl rfl ?_
                refine jr.lload rfl rfl ?_
                refine jr.lload rfl rfl ?_
                refine jr.iload rfl rfl ?_
                refine jr_v rfl rfl (Or.inl rfl) rfl rfl (by decide) rfl ⟨rfl, Nat.le_of_ble_eq_true rfl, Nat.le_of_ble_eq_true rfl⟩ rfl (jc.deep (r_beginGathering_x hI_M hH_M hS_M  (by omega) (by omega) (by omega) (by omega) (by omega) (by omega) hG1 (fun M10 hI_M10 hH_M10 hS_M10  w10_0 w10_1 w10_2 w10_3 w10_4 w10_5 w10_6 w10_7 w10_8 w10_9 w10_10 w10_11 w10_12 w10_13 w10_14 => ?_)) (by decide))
                obtain ⟨v11, e11⟩ : ∃ z, M10 606 r9 = z := ⟨_, rfl⟩
                have b11 : 0 ≤ v11 ∧ v11 ≤ 1 := by rw [← e11]; exact (by have q := hI_M10 606 r9 (by decide); rw [xri_row rfl rfl] at q; exact q)
                obtain ⟨v12, e12⟩ : ∃ z, M10 607 r9 = z := ⟨_, rfl⟩
                have b12 : 0 ≤ v12 ∧ v12 ≤ 11 := by rw [← e12]; exact (by have q := hI_M10 607 r9 (by decide); rw [xri_row rfl rfl] at q; exact q)
                refine jr.pick [1, 0, 7, 8, 9, 10, 11, 12, 13, 14] rfl rfl ?_
                exact r_gather_L418_x q M10 i r9 o c f t k h x hI_M10 hH_M10 hS_M10  (fun a i f598 f600 f601 f602 f603 f604 f605 f606 f607 f608 f609 f610 f611 f612 f613 f614 f615 f616 f617 f618 f619 f620 f621 f622 => ((w10_14 a i f606 f607 f608 f609 f610 f611 f612 f613 f614 f616 f617).trans (hF_M a i f598 f600 f601 f602 f603 f604 f605 f606 f607 f608 f609 f610 f611 f612 f613 f614 f615 f616 f617 f618 f619 f620 f621 f622))) (fun i g6 g10 g11 g12 g34 => ((w10_14 598 i (by decide) (by decide) (by decide) (by decide) (by decide) (by decide) (by decide) (by decide) (by decide) (by decide) (by decide)).trans (hG_M i g6 g10 g11 g12 g34))) (by omega) (by omega) (by omega) (by omega) (by omega) (by omega) (by omega) (by omega) (by omega) w10_0 (KT.fr kt (fun i => (w10_14 601 i (by decide) (by decide) (by decide) (by decide) (by decide) (by decide) (by decide) (by decide) (by decide) (by decide) (by decide)).trans ((fun i => rfl) i)) (fun i => (w10_14 604 i (by decide) (by decide) (by decide) (by decide) (by decide) (by decide) (by decide) (by decide) (by decide) (by decide) (by decide)).trans ((fun i => rfl) i)) (fun i => (w10_14 605 i (by decide) (by decide) (by decide) (by decide) (by decide) (by decide) (by decide) (by decide) (by decide) (by decide) (by decide)).trans ((fun i => rfl) i))) (by rw [e11, e12] <;> omega) (by omega) ⟨M, hy3, hy4, (show ¬ rfq (rf M0 x) (M0 600 x) (M 598 6) h (fst6 M (rf M0 x) (M0 600 x) (M 598 6) h) from by have h9 := hy9; have h41 := hy4.1; have h42 := hy4.2.1; have h61 := hy6.1; unfold rfq; rw [← h42, ← h61, ← h41]; omega), (by rw [← hy6.1]; exact hy9), Or.inr ⟨by rw [← hy8]; omega, w9_0, by omega, (by rw [← hy3.2.2.2.1, ← hy3.2.2.2.2.1, ← hy7.1, ← hy7.2.2, ← hy7.2.1, ← hy6.2]; exact ⟨⟨w10_1, w10_2, w10_3, w10_4, w10_5, w10_6, w10_7, w10_8, w10_9⟩, w10_10, w10_11, w10_12, w10_13, fun b0 j hb => w10_14 b0 j (by omega) (by omega) (by omega) (by omega) (by omega) (by omega) (by omega) (by omega) (by omega) (by omega) (by omega)⟩)⟩⟩ (Or.inl ⟨w10_3, Or.inl w10_5⟩) (by omega)
              · refine jr.bipush rfl (by decide) ?_
                exact jr.ireturn rfl rfl rfl (q _ _ hI_M hH_M hS_M  (by omega) hG1 (hy3.f (show ¬ rfq (rf M0 x) (M0 600 x) (M 598 6) h (fst6 M (rf M0 x) (M0 600 x) (M 598 6) h) from by have h9 := hy9; have h41 := hy4.1; have h42 := hy4.2.1; have h61 := hy6.1; unfold rfq; rw [← h42, ← h61, ← h41]; omega) (by rw [← hy8]; omega) (by rw [← w9_0]; omega) (by omega)) (fun a i f598 f600 f601 f602 f603 f604 f605 f606 f607 f608 f609 f610 f611 f612 f613 f614 f615 f616 f617 f618 f619 f620 f621 f622 => (hF_M a i f598 f600 f601 f602 f603 f604 f605 f606 f607 f608 f609 f610 f611 f612 f613 f614 f615 f616 f617 f618 f619 f620 f621 f622)) (fun i g6 g10 g11 g12 g34 => (hG_M i g6 g10 g11 g12 g34)))
          · refine jr.bipush rfl (by decide) ?_
            exact jr.ireturn rfl rfl rfl (q _ _ hI_M hH_M hS_M  (by omega) hG1 (hy3.r (by have h9 := hy9; have h41 := hy4.1; have h42 := hy4.2.1; have h61 := hy6.1; unfold rfq; rw [← h42, ← h61, ← h41]; omega) (by omega)) (fun a i f598 f600 f601 f602 f603 f604 f605 f606 f607 f608 f609 f610 f611 f612 f613 f614 f615 f616 f617 f618 f619 f620 f621 f622 => (hF_M a i f598 f600 f601 f602 f603 f604 f605 f606 f607 f608 f609 f610 f611 f612 f613 f614 f615 f616 f617 f618 f619 f620 f621 f622)) (fun i g6 g10 g11 g12 g34 => (hG_M i g6 g10 g11 g12 g34)))
      · have sx352 : (1 : Int) ≤ m := by omega
        refine jr.iload rfl rfl ?_
        refine jr.bipush rfl (by decide) ?_
        refine jr.irem rfl (by decide) ?_
        have b13 : j_rem c 8 = c % 8 := j_rem_ex (by omega) (by omega)
        generalize j_rem c 8 = v13 at b13 ⊢
        refine jr.if_ne rfl rfl (by omega) (fun h360 => ?_) (fun h360 => ?_)
        · have sx360 : (1 : Int) ≤ v13 := by omega
          refine jr.bipush rfl (by decide) ?_
          exact jr.ireturn rfl rfl rfl (q _ _ hI_M hH_M hS_M  (by omega) hG1 (hy3.r (by have h9 := hy9; have h41 := hy4.1; have h42 := hy4.2.1; have h61 := hy6.1; unfold rfq; rw [← h42, ← h61, ← h41]; omega) (by omega)) (fun a i f598 f600 f601 f602 f603 f604 f605 f606 f607 f608 f609 f610 f611 f612 f613 f614 f615 f616 f617 f618 f619 f620 f621 f622 => (hF_M a i f598 f600 f601 f602 f603 f604 f605 f606 f607 f608 f609 f610 f611 f612 f613 f614 f615 f616 f617 f618 f619 f620 f621 f622)) (fun i g6 g10 g11 g12 g34 => (hG_M i g6 g10 g11 g12 g34)))
        · refine jr.iload rfl rfl ?_
          refine jr.if_eq rfl rfl (by omega) (fun h365 => ?_) (fun h365 => ?_)
          · refine jr.iload rfl rfl ?_
            refine jr.iconst rfl ?_
            refine jr.icmp_ne rfl rfl (by omega) (by omega) (fun h385 => ?_) (fun h385 => ?_)
            · have sx385 : (0 : Int) ≤ g := by omega
              obtain ⟨v14, e14⟩ : ∃ z, M 606 g = z := ⟨_, rfl⟩
              have b14 : 0 ≤ v14 ∧ v14 ≤ 1 := by rw [← e14]; exact (by have q := hI_M 606 g (by decide); rw [xri_row rfl rfl] at q; exact q)
              obtain ⟨v15, e15⟩ : ∃ z, M 607 g = z := ⟨_, rfl⟩
              have b15 : 0 ≤ v15 ∧ v15 ≤ 11 := by rw [← e15]; exact (by have q := hI_M 607 g (by decide); rw [xri_row rfl rfl] at q; exact q)
              refine jr.pick [0, 1, 7, 8, 9, 10, 11, 12, 13, 14] rfl rfl ?_
              exact r_gather_L418_x q M i g o c f t k h x hI_M hH_M hS_M  (fun a i f598 f600 f601 f602 f603 f604 f605 f606 f607 f608 f609 f610 f611 f612 f613 f614 f615 f616 f617 f618 f619 f620 f621 f622 => (hF_M a i f598 f600 f601 f602 f603 f604 f605 f606 f607 f608 f609 f610 f611 f612 f613 f614 f615 f616 f617 f618 f619 f620 f621 f622)) (fun i g6 g10 g11 g12 g34 => (hG_M i g6 g10 g11 g12 g34)) (by omega) (by omega) (by omega) (by omega) (by omega) (by omega) (by omega) (by omega) (by omega) hG1 (KT.fr kt (fun i => rfl) (fun i => rfl) (fun i => rfl)) (by rw [e14, e15] <;> omega) (by omega) ⟨M, hy3, hy4, (show ¬ rfq (rf M0 x) (M0 600 x) (M 598 6) h (fst6 M (rf M0 x) (M0 600 x) (M 598 6) h) from by have h9 := hy9; have h41 := hy4.1; have h42 := hy4.2.1; have h61 := hy6.1; unfold rfq; rw [← h42, ← h61, ← h41]; omega), (by rw [← hy6.1]; exact hy9), Or.inl ⟨by rw [← hy8]; omega, hy8, rfl⟩⟩ (hy5 g (by omega) (by omega) ((hy2.resolve_left (by omega)).2.1)) (by omega)
            · refine jr.aload_n rfl rfl ?_
              refine jr_v rfl rfl (Or.inl rfl) rfl rfl (by decide) rfl ⟨rfl, Nat.le_of_ble_eq_true rfl, Nat.le_of_ble_eq_true rfl⟩ rfl (jc.deep (r_freeGathering_x hI_M hH_M hS_M    (fun r16 z16 w16_0 => ?_)) (by decide))
              refine jr.istore rfl (by decide) rfl ?_
              refine jr.iload rfl rfl ?_
              refine jr.iconst rfl ?_
              refine jr.icmp_ne rfl rfl (by omega) (by omega) (fun h397 => ?_) (fun h397 => ?_)
              · have sx397 : (0 : Int) ≤ r16 := by omega
                refine jr.aload_n rfl rfl ?_
                refine jr.iload rfl rfl ?_
                refine jr.iload_n rfl rfl ?_
                refine jr.lload rfl rfl ?_
                refine jr.lload rfl rfl ?_
                refine jr.lload rfl rfl ?_
                refine jr.iload rfl rfl ?_
                refine jr_v rfl rfl (Or.inl rfl) rfl rfl (by decide) rfl ⟨rfl, Nat.le_of_ble_eq_true rfl, Nat.le_of_ble_eq_true rfl⟩ rfl (jc.deep (r_beginGathering_x hI_M hH_M hS_M  (by omega) (by omega) (by omega) (by omega) (by omega) (by omega) hG1 (fun M17 hI_M17 hH_M17 hS_M17  w17_0 w17_1 w17_2 w17_3 w17_4 w17_5 w17_6 w17_7 w17_8 w17_9 w17_10 w17_11 w17_12 w17_13 w17_14 => ?_)) (by decide))
                obtain ⟨v18, e18⟩ : ∃ z, M17 606 r16 = z := ⟨_, rfl⟩
                have b18 : 0 ≤ v18 ∧ v18 ≤ 1 := by rw [← e18]; exact (by have q := hI_M17 606 r16 (by decide); rw [xri_row rfl rfl] at q; exact q)
                obtain ⟨v19, e19⟩ : ∃ z, M17 607 r16 = z := ⟨_, rfl⟩
                have b19 : 0 ≤ v19 ∧ v19 ≤ 11 := by rw [← e19]; exact (by have q := hI_M17 607 r16 (by decide); rw [xri_row rfl rfl] at q; exact q)
                refine jr.pick [1, 0, 7, 8, 9, 10, 11, 12, 13, 14] rfl rfl ?_
                exact r_gather_L418_x q M17 i r16 o c f t k h x hI_M17 hH_M17 hS_M17  (fun a i f598 f600 f601 f602 f603 f604 f605 f606 f607 f608 f609 f610 f611 f612 f613 f614 f615 f616 f617 f618 f619 f620 f621 f622 => ((w17_14 a i f606 f607 f608 f609 f610 f611 f612 f613 f614 f616 f617).trans (hF_M a i f598 f600 f601 f602 f603 f604 f605 f606 f607 f608 f609 f610 f611 f612 f613 f614 f615 f616 f617 f618 f619 f620 f621 f622))) (fun i g6 g10 g11 g12 g34 => ((w17_14 598 i (by decide) (by decide) (by decide) (by decide) (by decide) (by decide) (by decide) (by decide) (by decide) (by decide) (by decide)).trans (hG_M i g6 g10 g11 g12 g34))) (by omega) (by omega) (by omega) (by omega) (by omega) (by omega) (by omega) (by omega) (by omega) w17_0 (KT.fr kt (fun i => (w17_14 601 i (by decide) (by decide) (by decide) (by decide) (by decide) (by decide) (by decide) (by decide) (by decide) (by decide) (by decide)).trans ((fun i => rfl) i)) (fun i => (w17_14 604 i (by decide) (by decide) (by decide) (by decide) (by decide) (by decide) (by decide) (by decide) (by decide) (by decide) (by decide)).trans ((fun i => rfl) i)) (fun i => (w17_14 605 i (by decide) (by decide) (by decide) (by decide) (by decide) (by decide) (by decide) (by decide) (by decide) (by decide) (by decide)).trans ((fun i => rfl) i))) (by rw [e18, e19] <;> omega) (by omega) ⟨M, hy3, hy4, (show ¬ rfq (rf M0 x) (M0 600 x) (M 598 6) h (fst6 M (rf M0 x) (M0 600 x) (M 598 6) h) from by have h9 := hy9; have h41 := hy4.1; have h42 := hy4.2.1; have h61 := hy6.1; unfold rfq; rw [← h42, ← h61, ← h41]; omega), (by rw [← hy6.1]; exact hy9), Or.inr ⟨by rw [← hy8]; omega, w16_0, by omega, (by rw [← hy3.2.2.2.1, ← hy3.2.2.2.2.1, ← hy7.1, ← hy7.2.2, ← hy7.2.1, ← hy6.2]; exact ⟨⟨w17_1, w17_2, w17_3, w17_4, w17_5, w17_6, w17_7, w17_8, w17_9⟩, w17_10, w17_11, w17_12, w17_13, fun b0 j hb => w17_14 b0 j (by omega) (by omega) (by omega) (by omega) (by omega) (by omega) (by omega) (by omega) (by omega) (by omega) (by omega)⟩)⟩⟩ (Or.inl ⟨w17_3, Or.inl w17_5⟩) (by omega)
              · refine jr.bipush rfl (by decide) ?_
                exact jr.ireturn rfl rfl rfl (q _ _ hI_M hH_M hS_M  (by omega) hG1 (hy3.f (show ¬ rfq (rf M0 x) (M0 600 x) (M 598 6) h (fst6 M (rf M0 x) (M0 600 x) (M 598 6) h) from by have h9 := hy9; have h41 := hy4.1; have h42 := hy4.2.1; have h61 := hy6.1; unfold rfq; rw [← h42, ← h61, ← h41]; omega) (by rw [← hy8]; omega) (by rw [← w16_0]; omega) (by omega)) (fun a i f598 f600 f601 f602 f603 f604 f605 f606 f607 f608 f609 f610 f611 f612 f613 f614 f615 f616 f617 f618 f619 f620 f621 f622 => (hF_M a i f598 f600 f601 f602 f603 f604 f605 f606 f607 f608 f609 f610 f611 f612 f613 f614 f615 f616 f617 f618 f619 f620 f621 f622)) (fun i g6 g10 g11 g12 g34 => (hG_M i g6 g10 g11 g12 g34)))
          · have sx365 : (1 : Int) ≤ i := by omega
            refine jr.iload rfl rfl ?_
            refine jr.iload rfl rfl ?_
            refine jr.iadd rfl ?_
            refine jr.sipush rfl (by decide) ?_
            refine jr.icmp_le rfl rfl (by omega) (by omega) (fun h376 => ?_) (fun h376 => ?_)
            · refine jr.iload rfl rfl ?_
              refine jr.iconst rfl ?_
              refine jr.icmp_ne rfl rfl (by omega) (by omega) (fun h385 => ?_) (fun h385 => ?_)
              · have sx385 : (0 : Int) ≤ g := by omega
                obtain ⟨v20, e20⟩ : ∃ z, M 606 g = z := ⟨_, rfl⟩
                have b20 : 0 ≤ v20 ∧ v20 ≤ 1 := by rw [← e20]; exact (by have q := hI_M 606 g (by decide); rw [xri_row rfl rfl] at q; exact q)
                obtain ⟨v21, e21⟩ : ∃ z, M 607 g = z := ⟨_, rfl⟩
                have b21 : 0 ≤ v21 ∧ v21 ≤ 11 := by rw [← e21]; exact (by have q := hI_M 607 g (by decide); rw [xri_row rfl rfl] at q; exact q)
                refine jr.pick [0, 1, 7, 8, 9, 10, 11, 12, 13, 14] rfl rfl ?_
                exact r_gather_L418_x q M i g o c f t k h x hI_M hH_M hS_M  (fun a i f598 f600 f601 f602 f603 f604 f605 f606 f607 f608 f609 f610 f611 f612 f613 f614 f615 f616 f617 f618 f619 f620 f621 f622 => (hF_M a i f598 f600 f601 f602 f603 f604 f605 f606 f607 f608 f609 f610 f611 f612 f613 f614 f615 f616 f617 f618 f619 f620 f621 f622)) (fun i g6 g10 g11 g12 g34 => (hG_M i g6 g10 g11 g12 g34)) (by omega) (by omega) (by omega) (by omega) (by omega) (by omega) (by omega) (by omega) (by omega) hG1 (KT.fr kt (fun i => rfl) (fun i => rfl) (fun i => rfl)) (by rw [e20, e21] <;> omega) (by omega) ⟨M, hy3, hy4, (show ¬ rfq (rf M0 x) (M0 600 x) (M 598 6) h (fst6 M (rf M0 x) (M0 600 x) (M 598 6) h) from by have h9 := hy9; have h41 := hy4.1; have h42 := hy4.2.1; have h61 := hy6.1; unfold rfq; rw [← h42, ← h61, ← h41]; omega), (by rw [← hy6.1]; exact hy9), Or.inl ⟨by rw [← hy8]; omega, hy8, rfl⟩⟩ (hy5 g (by omega) (by omega) ((hy2.resolve_left (by omega)).2.1)) (by omega)
              · refine jr.aload_n rfl rfl ?_
                refine jr_v rfl rfl (Or.inl rfl) rfl rfl (by decide) rfl ⟨rfl, Nat.le_of_ble_eq_true rfl, Nat.le_of_ble_eq_true rfl⟩ rfl (jc.deep (r_freeGathering_x hI_M hH_M hS_M    (fun r22 z22 w22_0 => ?_)) (by decide))
                refine jr.istore rfl (by decide) rfl ?_
                refine jr.iload rfl rfl ?_
                refine jr.iconst rfl ?_
                refine jr.icmp_ne rfl rfl (by omega) (by omega) (fun h397 => ?_) (fun h397 => ?_)
                · have sx397 : (0 : Int) ≤ r22 := by omega
                  refine jr.aload_n rfl rfl ?_
                  refine jr.iload rfl rfl ?_
                  refine jr.iload_n rfl rfl ?_
                  refine jr.lload rfl rfl ?_
                  refine jr.lload rfl rfl ?_
                  refine jr.lload rfl rfl ?_
                  refine jr.iload rfl rfl ?_
                  refine jr_v rfl rfl (Or.inl rfl) rfl rfl (by decide) rfl ⟨rfl, Nat.le_of_ble_eq_true rfl, Nat.le_of_ble_eq_true rfl⟩ rfl (jc.deep (r_beginGathering_x hI_M hH_M hS_M  (by omega) (by omega) (by omega) (by omega) (by omega) (by omega) hG1 (fun M23 hI_M23 hH_M23 hS_M23  w23_0 w23_1 w23_2 w23_3 w23_4 w23_5 w23_6 w23_7 w23_8 w23_9 w23_10 w23_11 w23_12 w23_13 w23_14 => ?_)) (by decide))
                  obtain ⟨v24, e24⟩ : ∃ z, M23 606 r22 = z := ⟨_, rfl⟩
                  have b24 : 0 ≤ v24 ∧ v24 ≤ 1 := by rw [← e24]; exact (by have q := hI_M23 606 r22 (by decide); rw [xri_row rfl rfl] at q; exact q)
                  obtain ⟨v25, e25⟩ : ∃ z, M23 607 r22 = z := ⟨_, rfl⟩
                  have b25 : 0 ≤ v25 ∧ v25 ≤ 11 := by rw [← e25]; exact (by have q := hI_M23 607 r22 (by decide); rw [xri_row rfl rfl] at q; exact q)
                  refine jr.pick [1, 0, 7, 8, 9, 10, 11, 12, 13, 14] rfl rfl ?_
                  exact r_gather_L418_x q M23 i r22 o c f t k h x hI_M23 hH_M23 hS_M23  (fun a i f598 f600 f601 f602 f603 f604 f605 f606 f607 f608 f609 f610 f611 f612 f613 f614 f615 f616 f617 f618 f619 f620 f621 f622 => ((w23_14 a i f606 f607 f608 f609 f610 f611 f612 f613 f614 f616 f617).trans (hF_M a i f598 f600 f601 f602 f603 f604 f605 f606 f607 f608 f609 f610 f611 f612 f613 f614 f615 f616 f617 f618 f619 f620 f621 f622))) (fun i g6 g10 g11 g12 g34 => ((w23_14 598 i (by decide) (by decide) (by decide) (by decide) (by decide) (by decide) (by decide) (by decide) (by decide) (by decide) (by decide)).trans (hG_M i g6 g10 g11 g12 g34))) (by omega) (by omega) (by omega) (by omega) (by omega) (by omega) (by omega) (by omega) (by omega) w23_0 (KT.fr kt (fun i => (w23_14 601 i (by decide) (by decide) (by decide) (by decide) (by decide) (by decide) (by decide) (by decide) (by decide) (by decide) (by decide)).trans ((fun i => rfl) i)) (fun i => (w23_14 604 i (by decide) (by decide) (by decide) (by decide) (by decide) (by decide) (by decide) (by decide) (by decide) (by decide) (by decide)).trans ((fun i => rfl) i)) (fun i => (w23_14 605 i (by decide) (by decide) (by decide) (by decide) (by decide) (by decide) (by decide) (by decide) (by decide) (by decide) (by decide)).trans ((fun i => rfl) i))) (by rw [e24, e25] <;> omega) (by omega) ⟨M, hy3, hy4, (show ¬ rfq (rf M0 x) (M0 600 x) (M 598 6) h (fst6 M (rf M0 x) (M0 600 x) (M 598 6) h) from by have h9 := hy9; have h41 := hy4.1; have h42 := hy4.2.1; have h61 := hy6.1; unfold rfq; rw [← h42, ← h61, ← h41]; omega), (by rw [← hy6.1]; exact hy9), Or.inr ⟨by rw [← hy8]; omega, w22_0, by omega, (by rw [← hy3.2.2.2.1, ← hy3.2.2.2.2.1, ← hy7.1, ← hy7.2.2, ← hy7.2.1, ← hy6.2]; exact ⟨⟨w23_1, w23_2, w23_3, w23_4, w23_5, w23_6, w23_7, w23_8, w23_9⟩, w23_10, w23_11, w23_12, w23_13, fun b0 j hb => w23_14 b0 j (by omega) (by omega) (by omega) (by omega) (by omega) (by omega) (by omega) (by omega) (by omega) (by omega) (by omega)⟩)⟩⟩ (Or.inl ⟨w23_3, Or.inl w23_5⟩) (by omega)
                · refine jr.bipush rfl (by decide) ?_
                  exact jr.ireturn rfl rfl rfl (q _ _ hI_M hH_M hS_M  (by omega) hG1 (hy3.f (show ¬ rfq (rf M0 x) (M0 600 x) (M 598 6) h (fst6 M (rf M0 x) (M0 600 x) (M 598 6) h) from by have h9 := hy9; have h41 := hy4.1; have h42 := hy4.2.1; have h61 := hy6.1; unfold rfq; rw [← h42, ← h61, ← h41]; omega) (by rw [← hy8]; omega) (by rw [← w22_0]; omega) (by omega)) (fun a i f598 f600 f601 f602 f603 f604 f605 f606 f607 f608 f609 f610 f611 f612 f613 f614 f615 f616 f617 f618 f619 f620 f621 f622 => (hF_M a i f598 f600 f601 f602 f603 f604 f605 f606 f607 f608 f609 f610 f611 f612 f613 f614 f615 f616 f617 f618 f619 f620 f621 f622)) (fun i g6 g10 g11 g12 g34 => (hG_M i g6 g10 g11 g12 g34)))
            · refine jr.bipush rfl (by decide) ?_
              exact jr.ireturn rfl rfl rfl (q _ _ hI_M hH_M hS_M  (by omega) hG1 (hy3.r (by have h9 := hy9; have h41 := hy4.1; have h42 := hy4.2.1; have h61 := hy6.1; unfold rfq; rw [← h42, ← h61, ← h41]; omega) (by omega)) (fun a i f598 f600 f601 f602 f603 f604 f605 f606 f607 f608 f609 f610 f611 f612 f613 f614 f615 f616 f617 f618 f619 f620 f621 f622 => (hF_M a i f598 f600 f601 f602 f603 f604 f605 f606 f607 f608 f609 f610 f611 f612 f613 f614 f615 f616 f617 f618 f619 f620 f621 f622)) (fun i g6 g10 g11 g12 g34 => (hG_M i g6 g10 g11 g12 g34)))
theorem r_gather_L301_x {A : Nat → Option (Nat × (Nat → Int32))} {Q : Option Value → jm → Prop} {M0 : jm} {x0 : Int} (q : ∀ (r : Int) (M' : jm), RI M' → RH M' → RF M' → (-5) ≤ r ∧ r ≤ 23 → RG1 M' → GAR M0 M' x0 r → (∀ (a : Nat) (i : Int), a ≠ 598 → a ≠ 600 → a ≠ 601 → a ≠ 602 → a ≠ 603 → a ≠ 604 → a ≠ 605 → a ≠ 606 → a ≠ 607 → a ≠ 608 → a ≠ 609 → a ≠ 610 → a ≠ 611 → a ≠ 612 → a ≠ 613 → a ≠ 614 → a ≠ 615 → a ≠ 616 → a ≠ 617 → a ≠ 618 → a ≠ 619 → a ≠ 620 → a ≠ 621 → a ≠ 622 → M' a i = M0 a i) → (∀ (i : Int), i ≠ 6 → i ≠ 10 → i ≠ 11 → i ≠ 12 → i ≠ 34 → M' 598 i = M0 598 i) → Q (some (.int (Int32.ofInt r))) M') : ∀ (M : jm) (u : Int) (b : Int) (d : Int) (e : Int) (m : Int) (o : Int) (c : Int) (f : Int) (t : Int) (a : Int) (k : Int) (h : Int) (x : Int), RI M → RH M → RF M → (∀ (a : Nat) (i : Int), a ≠ 598 → a ≠ 600 → a ≠ 601 → a ≠ 602 → a ≠ 603 → a ≠ 604 → a ≠ 605 → a ≠ 606 → a ≠ 607 → a ≠ 608 → a ≠ 609 → a ≠ 610 → a ≠ 611 → a ≠ 612 → a ≠ 613 → a ≠ 614 → a ≠ 615 → a ≠ 616 → a ≠ 617 → a ≠ 618 → a ≠ 619 → a ≠ 620 → a ≠ 621 → a ≠ 622 → M a i = M0 a i) → (∀ (i : Int), i ≠ 6 → i ≠ 10 → i ≠ 11 → i ≠ 12 → i ≠ 34 → M 598 i = M0 598 i) → (-9223372036854775808) ≤ u ∧ u ≤ 9223372036854775807 → (-9223372036854775808) ≤ b ∧ b ≤ 9223372036854775807 → (-9223372036854775808) ≤ d ∧ d ≤ 9223372036854775807 → 0 ≤ e ∧ e ≤ 255 → 0 ≤ m ∧ m ≤ 1 → 0 ≤ o ∧ o ≤ 65528 → 0 ≤ c ∧ c ≤ 400 → 0 ≤ f ∧ f ≤ 400 → 0 ≤ t ∧ t ≤ 11 → 0 ≤ a ∧ a ≤ 400 → 0 ≤ k ∧ k ≤ 11 → 0 ≤ h ∧ h ≤ 11 → 0 ≤ x ∧ x ≤ 23 → RG1 M → HK M x h t k a → f + c ≤ 400 → PX1 M0 M x h t k a → (o = ofs (rf M0 x) (M0 600 x) (M 598 6) h ∧ c = M0 600 x - enf (rf M0 x) (M0 600 x) (M 598 6) h ∧ f = enf (rf M0 x) (M0 600 x) (M 598 6) h) → GQ6 M → (m = mrf (rf M0 x) (M0 600 x) (M 598 6) h ∧ e = vA (rf M0 x) (M0 600 x) (M 598 6) h (if kA (rf M0 x) (M0 600 x) (M 598 6) h = 2 then 7 else 0)) → (b = adf (rf M0 x) (M0 600 x) (M 598 6) t 0 ∧ d = vA (rf M0 x) (M0 600 x) (M 598 6) h 3) → u = adf (rf M0 x) (M0 600 x) (M 598 6) t 1 → x = x0 → jr A 5 xm_292 301 [(16, .long (Int64.ofInt (u))), (14, .long (Int64.ofInt (b))), (12, .long (Int64.ofInt (d))), (11, .int (Int32.ofInt (e))), (10, .int (Int32.ofInt (m))), (9, .int (Int32.ofInt (o))), (8, .int (Int32.ofInt (c))), (7, .int (Int32.ofInt (f))), (5, .int (Int32.ofInt (t))), (4, .int (Int32.ofInt (a))), (3, .int (Int32.ofInt (k))), (2, .int (Int32.ofInt (h))), (1, .int (Int32.ofInt (x))), (0, .ref (598))] [] M Q := by
    intro M u b d e m o c f t a k h x hI_M hH_M hS_M hF_M hG_M h_u h_b h_d h_e h_m h_o h_c h_f h_t h_a h_k h_h h_x hy0 hy1 hy2 hy3 hy4 hy5 hy6 hy7 hy8 hy9
    subst hy9
    have hG1 := hy0
    have hk := hy1
    obtain ⟨k1, k2, k3, k4, k5⟩ := hy1
    refine jr.aload_n rfl rfl ?_
    refine jr.iload_n rfl rfl ?_
    refine jr.lload rfl rfl ?_
    refine jr.lload rfl rfl ?_
    refine jr.lload rfl rfl ?_
    refine jr.iload rfl rfl ?_
    refine jr_v rfl rfl (Or.inl rfl) rfl rfl (by decide) rfl ⟨rfl, Nat.le_of_ble_eq_true rfl, Nat.le_of_ble_eq_true rfl⟩ rfl (jc.deep (r_gathering_x hI_M hH_M hS_M  (by omega) (by omega) (by omega) (by omega) (by omega)  (fun r1 z1 w1_0 w1_1 => ?_)) (by decide))
    refine jr.istore rfl (by decide) rfl ?_
    refine jr.iload rfl rfl ?_
    refine jr.if_ne rfl rfl (by omega) (fun h318 => ?_) (fun h318 => ?_)
    · have sx318 : (1 : Int) ≤ m := by omega
      refine jr.iconst rfl ?_
      refine jr.istore rfl (by decide) rfl ?_
      refine jr.pick [0, 1, 2, 3, 4, 5, 6, 7, 8, 9, 10, 12, 13, 14, 15] rfl rfl ?_
      exact r_gather_L345_x q M 0 r1 u b d e m o c f t k h x hI_M hH_M hS_M  (fun a i f598 f600 f601 f602 f603 f604 f605 f606 f607 f608 f609 f610 f611 f612 f613 f614 f615 f616 f617 f618 f619 f620 f621 f622 => (hF_M a i f598 f600 f601 f602 f603 f604 f605 f606 f607 f608 f609 f610 f611 f612 f613 f614 f615 f616 f617 f618 f619 f620 f621 f622)) (fun i g6 g10 g11 g12 g34 => (hG_M i g6 g10 g11 g12 g34)) (by omega) (by omega) (by omega) (by omega) (by omega) (by omega) (by omega) (by omega) (by omega) (by omega) (by omega) (by omega) (by omega) (by omega) hG1 ⟨by omega, by omega, by omega, by omega, by omega, fun q => by rcases k5 with z | z; (exact ⟨z.2.2.1, z.2.2.2.1, z.2.2.2.2⟩); (exact absurd q (by omega))⟩ (by omega) (by have h9 := hy3; rw [hy3.2.2.2.2.2.1] at h9; exact h9) hy4 hy5 hy6 ⟨hy7.1, hy7.2, hy8⟩ (by unfold g6; rw [← hy3.2.2.2.1, ← hy3.2.2.2.2.1, ← hy7.1, ← hy8, ← hy7.2, ← hy6.2]; exact w1_1) (by have hg : r1 = g6 M (rf M0 x) (M0 600 x) (M 598 6) h := (by unfold g6; rw [← hy3.2.2.2.1, ← hy3.2.2.2.2.1, ← hy7.1, ← hy8, ← hy7.2, ← hy6.2]; exact w1_1); have hf : fst6 M (rf M0 x) (M0 600 x) (M 598 6) h = (if r1 = -1 ∨ M 614 r1 = -1 then 1 else 0) := (by unfold fst6; rw [← hg]); first | exact Or.inr ⟨rfl, fun u => by omega⟩ | exact Or.inl ⟨rfl, by omega, by rw [hf]; exact if_pos (by omega)⟩ | exact Or.inr ⟨rfl, fun u => by rw [hf, if_neg (by omega)] at u; omega⟩) (by omega)
    · refine jr.iload rfl rfl ?_
      refine jr.iconst rfl ?_
      refine jr.icmp_eq rfl rfl (by omega) (by omega) (fun h324 => ?_) (fun h324 => ?_)
      · refine jr.iconst rfl ?_
        refine jr.goto rfl rfl ?_
        refine jr.istore rfl (by decide) rfl ?_
        refine jr.pick [0, 1, 2, 3, 4, 5, 6, 7, 8, 9, 10, 12, 13, 14, 15] rfl rfl ?_
        exact r_gather_L345_x q M 1 r1 u b d e m o c f t k h x hI_M hH_M hS_M  (fun a i f598 f600 f601 f602 f603 f604 f605 f606 f607 f608 f609 f610 f611 f612 f613 f614 f615 f616 f617 f618 f619 f620 f621 f622 => (hF_M a i f598 f600 f601 f602 f603 f604 f605 f606 f607 f608 f609 f610 f611 f612 f613 f614 f615 f616 f617 f618 f619 f620 f621 f622)) (fun i g6 g10 g11 g12 g34 => (hG_M i g6 g10 g11 g12 g34)) (by omega) (by omega) (by omega) (by omega) (by omega) (by omega) (by omega) (by omega) (by omega) (by omega) (by omega) (by omega) (by omega) (by omega) hG1 ⟨by omega, by omega, by omega, by omega, by omega, fun q => by rcases k5 with z | z; (exact ⟨z.2.2.1, z.2.2.2.1, z.2.2.2.2⟩); (exact absurd q (by omega))⟩ (by omega) (by have h9 := hy3; rw [hy3.2.2.2.2.2.1] at h9; exact h9) hy4 hy5 hy6 ⟨hy7.1, hy7.2, hy8⟩ (by unfold g6; rw [← hy3.2.2.2.1, ← hy3.2.2.2.2.1, ← hy7.1, ← hy8, ← hy7.2, ← hy6.2]; exact w1_1) (by have hg : r1 = g6 M (rf M0 x) (M0 600 x) (M 598 6) h := (by unfold g6; rw [← hy3.2.2.2.1, ← hy3.2.2.2.2.1, ← hy7.1, ← hy8, ← hy7.2, ← hy6.2]; exact w1_1); have hf : fst6 M (rf M0 x) (M0 600 x) (M 598 6) h = (if r1 = -1 ∨ M 614 r1 = -1 then 1 else 0) := (by unfold fst6; rw [← hg]); first | exact Or.inr ⟨rfl, fun u => by omega⟩ | exact Or.inl ⟨rfl, by omega, by rw [hf]; exact if_pos (by omega)⟩ | exact Or.inr ⟨rfl, fun u => by rw [hf, if_neg (by omega)] at u; omega⟩) (by omega)
      · have sx324 : (0 : Int) ≤ r1 := by omega
        refine jr.aload_n rfl rfl ?_
        refine jr.getf (i := 25) (v := .ref 614) rfl rfl (by decide) rfl (by decide) rfl rfl rfl rfl ?_
        refine jr.iload rfl rfl ?_
        obtain ⟨v2, e2⟩ : ∃ z, M 614 r1 = z := ⟨_, rfl⟩
        have b2 : (-1) ≤ v2 ∧ v2 ≤ 360 := by rw [← e2]; exact (by have q := hI_M 614 r1 (by decide); rw [xri_row rfl rfl] at q; exact q)
        refine jr.iald (i := r1) (x := v2) rfl (by decide) rfl (by decide) (by omega) (by omega) e2 ?_
        refine jr.iconst rfl ?_
        refine jr.icmp_ne rfl rfl (by omega) (by omega) (fun h335 => ?_) (fun h335 => ?_)
        · have sx335 : (0 : Int) ≤ v2 := by omega
          refine jr.iconst rfl ?_
          refine jr.istore rfl (by decide) rfl ?_
          refine jr.pick [0, 1, 2, 3, 4, 5, 6, 7, 8, 9, 10, 12, 13, 14, 15] rfl rfl ?_
          exact r_gather_L345_x q M 0 r1 u b d e m o c f t k h x hI_M hH_M hS_M  (fun a i f598 f600 f601 f602 f603 f604 f605 f606 f607 f608 f609 f610 f611 f612 f613 f614 f615 f616 f617 f618 f619 f620 f621 f622 => (hF_M a i f598 f600 f601 f602 f603 f604 f605 f606 f607 f608 f609 f610 f611 f612 f613 f614 f615 f616 f617 f618 f619 f620 f621 f622)) (fun i g6 g10 g11 g12 g34 => (hG_M i g6 g10 g11 g12 g34)) (by omega) (by omega) (by omega) (by omega) (by omega) (by omega) (by omega) (by omega) (by omega) (by omega) (by omega) (by omega) (by omega) (by omega) hG1 ⟨by omega, by omega, by omega, by omega, by omega, fun q => by rcases k5 with z | z; (exact ⟨z.2.2.1, z.2.2.2.1, z.2.2.2.2⟩); (exact absurd q (by omega))⟩ (by omega) (by have h9 := hy3; rw [hy3.2.2.2.2.2.1] at h9; exact h9) hy4 hy5 hy6 ⟨hy7.1, hy7.2, hy8⟩ (by unfold g6; rw [← hy3.2.2.2.1, ← hy3.2.2.2.2.1, ← hy7.1, ← hy8, ← hy7.2, ← hy6.2]; exact w1_1) (by have hg : r1 = g6 M (rf M0 x) (M0 600 x) (M 598 6) h := (by unfold g6; rw [← hy3.2.2.2.1, ← hy3.2.2.2.2.1, ← hy7.1, ← hy8, ← hy7.2, ← hy6.2]; exact w1_1); have hf : fst6 M (rf M0 x) (M0 600 x) (M 598 6) h = (if r1 = -1 ∨ M 614 r1 = -1 then 1 else 0) := (by unfold fst6; rw [← hg]); first | exact Or.inr ⟨rfl, fun u => by omega⟩ | exact Or.inl ⟨rfl, by omega, by rw [hf]; exact if_pos (by omega)⟩ | exact Or.inr ⟨rfl, fun u => by rw [hf, if_neg (by omega)] at u; omega⟩) (by omega)
        · refine jr.iconst rfl ?_
          refine jr.goto rfl rfl ?_
          refine jr.istore rfl (by decide) rfl ?_
          refine jr.pick [0, 1, 2, 3, 4, 5, 6, 7, 8, 9, 10, 12, 13, 14, 15] rfl rfl ?_
          exact r_gather_L345_x q M 1 r1 u b d e m o c f t k h x hI_M hH_M hS_M  (fun a i f598 f600 f601 f602 f603 f604 f605 f606 f607 f608 f609 f610 f611 f612 f613 f614 f615 f616 f617 f618 f619 f620 f621 f622 => (hF_M a i f598 f600 f601 f602 f603 f604 f605 f606 f607 f608 f609 f610 f611 f612 f613 f614 f615 f616 f617 f618 f619 f620 f621 f622)) (fun i g6 g10 g11 g12 g34 => (hG_M i g6 g10 g11 g12 g34)) (by omega) (by omega) (by omega) (by omega) (by omega) (by omega) (by omega) (by omega) (by omega) (by omega) (by omega) (by omega) (by omega) (by omega) hG1 ⟨by omega, by omega, by omega, by omega, by omega, fun q => by rcases k5 with z | z; (exact ⟨z.2.2.1, z.2.2.2.1, z.2.2.2.2⟩); (exact absurd q (by omega))⟩ (by omega) (by have h9 := hy3; rw [hy3.2.2.2.2.2.1] at h9; exact h9) hy4 hy5 hy6 ⟨hy7.1, hy7.2, hy8⟩ (by unfold g6; rw [← hy3.2.2.2.1, ← hy3.2.2.2.2.1, ← hy7.1, ← hy8, ← hy7.2, ← hy6.2]; exact w1_1) (by have hg : r1 = g6 M (rf M0 x) (M0 600 x) (M 598 6) h := (by unfold g6; rw [← hy3.2.2.2.1, ← hy3.2.2.2.2.1, ← hy7.1, ← hy8, ← hy7.2, ← hy6.2]; exact w1_1); have hf : fst6 M (rf M0 x) (M0 600 x) (M 598 6) h = (if r1 = -1 ∨ M 614 r1 = -1 then 1 else 0) := (by unfold fst6; rw [← hg]); first | exact Or.inr ⟨rfl, fun u => by omega⟩ | exact Or.inl ⟨rfl, by omega, by rw [hf]; exact if_pos (by omega)⟩ | exact Or.inr ⟨rfl, fun u => by rw [hf, if_neg (by omega)] at u; omega⟩) (by omega)
theorem r_gather_L268_x {A : Nat → Option (Nat × (Nat → Int32))} {Q : Option Value → jm → Prop} {M0 : jm} {x0 : Int} (q : ∀ (r : Int) (M' : jm), RI M' → RH M' → RF M' → (-5) ≤ r ∧ r ≤ 23 → RG1 M' → GAR M0 M' x0 r → (∀ (a : Nat) (i : Int), a ≠ 598 → a ≠ 600 → a ≠ 601 → a ≠ 602 → a ≠ 603 → a ≠ 604 → a ≠ 605 → a ≠ 606 → a ≠ 607 → a ≠ 608 → a ≠ 609 → a ≠ 610 → a ≠ 611 → a ≠ 612 → a ≠ 613 → a ≠ 614 → a ≠ 615 → a ≠ 616 → a ≠ 617 → a ≠ 618 → a ≠ 619 → a ≠ 620 → a ≠ 621 → a ≠ 622 → M' a i = M0 a i) → (∀ (i : Int), i ≠ 6 → i ≠ 10 → i ≠ 11 → i ≠ 12 → i ≠ 34 → M' 598 i = M0 598 i) → Q (some (.int (Int32.ofInt r))) M') : ∀ (M : jm) (b : Int) (d : Int) (e : Int) (m : Int) (o : Int) (c : Int) (f : Int) (z : Int) (t : Int) (a : Int) (k : Int) (h : Int) (x : Int), RI M → RH M → RF M → (∀ (a : Nat) (i : Int), a ≠ 598 → a ≠ 600 → a ≠ 601 → a ≠ 602 → a ≠ 603 → a ≠ 604 → a ≠ 605 → a ≠ 606 → a ≠ 607 → a ≠ 608 → a ≠ 609 → a ≠ 610 → a ≠ 611 → a ≠ 612 → a ≠ 613 → a ≠ 614 → a ≠ 615 → a ≠ 616 → a ≠ 617 → a ≠ 618 → a ≠ 619 → a ≠ 620 → a ≠ 621 → a ≠ 622 → M a i = M0 a i) → (∀ (i : Int), i ≠ 6 → i ≠ 10 → i ≠ 11 → i ≠ 12 → i ≠ 34 → M 598 i = M0 598 i) → (-9223372036854775808) ≤ b ∧ b ≤ 9223372036854775807 → (-9223372036854775808) ≤ d ∧ d ≤ 9223372036854775807 → 0 ≤ e ∧ e ≤ 255 → 0 ≤ m ∧ m ≤ 1 → 0 ≤ o ∧ o ≤ 65528 → 0 ≤ c ∧ c ≤ 400 → 0 ≤ f ∧ f ≤ 400 → 0 ≤ z ∧ z ≤ 1 → 0 ≤ t ∧ t ≤ 11 → 0 ≤ a ∧ a ≤ 400 → 0 ≤ k ∧ k ≤ 11 → 0 ≤ h ∧ h ≤ 11 → 0 ≤ x ∧ x ≤ 23 → RG1 M → HK M x h t k a → ((z = 1 ∧ k = 2) ∨ (z = 0 ∧ k ≠ 2)) → f + c ≤ 400 → PX1 M0 M x h t k a → (o = ofs (rf M0 x) (M0 600 x) (M 598 6) h ∧ c = M0 600 x - enf (rf M0 x) (M0 600 x) (M 598 6) h ∧ f = enf (rf M0 x) (M0 600 x) (M 598 6) h) → GQ6 M → (m = mrf (rf M0 x) (M0 600 x) (M 598 6) h ∧ e = vA (rf M0 x) (M0 600 x) (M 598 6) h (if kA (rf M0 x) (M0 600 x) (M 598 6) h = 2 then 7 else 0)) → (b = adf (rf M0 x) (M0 600 x) (M 598 6) t 0 ∧ d = vA (rf M0 x) (M0 600 x) (M 598 6) h 3) → x = x0 → jr A 5 xm_292 268 [(14, .long (Int64.ofInt (b))), (12, .long (Int64.ofInt (d))), (11, .int (Int32.ofInt (e))), (10, .int (Int32.ofInt (m))), (9, .int (Int32.ofInt (o))), (8, .int (Int32.ofInt (c))), (7, .int (Int32.ofInt (f))), (6, .int (Int32.ofInt (z))), (5, .int (Int32.ofInt (t))), (4, .int (Int32.ofInt (a))), (3, .int (Int32.ofInt (k))), (2, .int (Int32.ofInt (h))), (1, .int (Int32.ofInt (x))), (0, .ref (598))] [] M Q := by
    intro M b d e m o c f z t a k h x hI_M hH_M hS_M hF_M hG_M h_b h_d h_e h_m h_o h_c h_f h_z h_t h_a h_k h_h h_x hy0 hy1 hy2 hy3 hy4 hy5 hy6 hy7 hy8 hy9
    subst hy9
    have hG1 := hy0
    have hk := hy1
    obtain ⟨k1, k2, k3, k4, k5⟩ := hy1
    refine jr.iload rfl rfl ?_
    refine jr.if_eq rfl rfl (by omega) (fun h270 => ?_) (fun h270 => ?_)
    · refine jr.aload_n rfl rfl ?_
      refine jr.iload_n rfl rfl ?_
      refine jr.aload_n rfl rfl ?_
      refine jr.getf (i := 8) (v := .ref 604) rfl rfl (by decide) rfl (by decide) rfl rfl rfl rfl ?_
      refine jr.iload rfl rfl ?_
      obtain ⟨v1, e1⟩ : ∃ z, M 604 t = z := ⟨_, rfl⟩
      have b1 : 0 ≤ v1 ∧ v1 ≤ 400 := by rw [← e1]; exact (by have q := hI_M 604 t (by decide); rw [xri_row rfl rfl] at q; exact q)
      refine jr.iald (i := t) (x := v1) rfl (by decide) rfl (by decide) (by omega) (by omega) e1 ?_
      refine jr.bipush rfl (by decide) ?_
      refine jr_v rfl rfl (Or.inl rfl) rfl rfl (by decide) rfl ⟨rfl, Nat.le_of_ble_eq_true rfl, Nat.le_of_ble_eq_true rfl⟩ rfl (jc.deep (r_ofSix_x hI_M hH_M hS_M  (by omega) (by omega) (by omega)  (fun r2 z2 w2_0 => ?_)) (by decide))
      refine jr.lstore rfl (by decide) rfl ?_
      refine jr.pick [0, 1, 2, 3, 4, 5, 6, 7, 9, 10, 11, 12, 13, 14] rfl rfl ?_
      exact r_gather_L301_x q M r2 b d e m o c f t a k h x hI_M hH_M hS_M  (fun a i f598 f600 f601 f602 f603 f604 f605 f606 f607 f608 f609 f610 f611 f612 f613 f614 f615 f616 f617 f618 f619 f620 f621 f622 => (hF_M a i f598 f600 f601 f602 f603 f604 f605 f606 f607 f608 f609 f610 f611 f612 f613 f614 f615 f616 f617 f618 f619 f620 f621 f622)) (fun i g6 g10 g11 g12 g34 => (hG_M i g6 g10 g11 g12 g34)) (by omega) (by omega) (by omega) (by omega) (by omega) (by omega) (by omega) (by omega) (by omega) (by omega) (by omega) (by omega) (by omega) hG1 hk (by omega) hy4 hy5 hy6 hy7 hy8 (hy4.a6 (s := 1) (by omega) rfl (by omega) (have hh := HT.f hy4.1 (hy4.c.2.resolve_left (fun u => by omega)).2.2; by omega) w2_0) (by omega)
    · have sx270 : (1 : Int) ≤ z := by omega
      refine jr.aload_n rfl rfl ?_
      refine jr.iload_n rfl rfl ?_
      refine jr.iload rfl rfl ?_
      refine jr.bipush rfl (by decide) ?_
      refine jr_v rfl rfl (Or.inl rfl) rfl rfl (by decide) rfl ⟨rfl, Nat.le_of_ble_eq_true rfl, Nat.le_of_ble_eq_true rfl⟩ rfl (jc.deep (r_ofFour_x hI_M hH_M hS_M  (by omega) (by omega) (by omega)  (fun r3 z3 w3_0 => ?_)) (by decide))
      refine jr.goto rfl rfl ?_
      refine jr.lstore rfl (by decide) rfl ?_
      refine jr.pick [0, 1, 2, 3, 4, 5, 6, 7, 9, 10, 11, 12, 13, 14] rfl rfl ?_
      exact r_gather_L301_x q M r3 b d e m o c f t a k h x hI_M hH_M hS_M  (fun a i f598 f600 f601 f602 f603 f604 f605 f606 f607 f608 f609 f610 f611 f612 f613 f614 f615 f616 f617 f618 f619 f620 f621 f622 => (hF_M a i f598 f600 f601 f602 f603 f604 f605 f606 f607 f608 f609 f610 f611 f612 f613 f614 f615 f616 f617 f618 f619 f620 f621 f622)) (fun i g6 g10 g11 g12 g34 => (hG_M i g6 g10 g11 g12 g34)) (by omega) (by omega) (by omega) (by omega) (by omega) (by omega) (by omega) (by omega) (by omega) (by omega) (by omega) (by omega) (by omega) hG1 hk (by omega) hy4 hy5 hy6 hy7 hy8 (hy4.a2 (s := 1) (by omega) rfl (by omega) w3_0) (by omega)
theorem r_gather_L207_x {A : Nat → Option (Nat × (Nat → Int32))} {Q : Option Value → jm → Prop} {M0 : jm} {x0 : Int} (q : ∀ (r : Int) (M' : jm), RI M' → RH M' → RF M' → (-5) ≤ r ∧ r ≤ 23 → RG1 M' → GAR M0 M' x0 r → (∀ (a : Nat) (i : Int), a ≠ 598 → a ≠ 600 → a ≠ 601 → a ≠ 602 → a ≠ 603 → a ≠ 604 → a ≠ 605 → a ≠ 606 → a ≠ 607 → a ≠ 608 → a ≠ 609 → a ≠ 610 → a ≠ 611 → a ≠ 612 → a ≠ 613 → a ≠ 614 → a ≠ 615 → a ≠ 616 → a ≠ 617 → a ≠ 618 → a ≠ 619 → a ≠ 620 → a ≠ 621 → a ≠ 622 → M' a i = M0 a i) → (∀ (i : Int), i ≠ 6 → i ≠ 10 → i ≠ 11 → i ≠ 12 → i ≠ 34 → M' 598 i = M0 598 i) → Q (some (.int (Int32.ofInt r))) M') : ∀ (M : jm) (e : Int) (m : Int) (o : Int) (c : Int) (f : Int) (z : Int) (t : Int) (a : Int) (k : Int) (h : Int) (x : Int), RI M → RH M → RF M → (∀ (a : Nat) (i : Int), a ≠ 598 → a ≠ 600 → a ≠ 601 → a ≠ 602 → a ≠ 603 → a ≠ 604 → a ≠ 605 → a ≠ 606 → a ≠ 607 → a ≠ 608 → a ≠ 609 → a ≠ 610 → a ≠ 611 → a ≠ 612 → a ≠ 613 → a ≠ 614 → a ≠ 615 → a ≠ 616 → a ≠ 617 → a ≠ 618 → a ≠ 619 → a ≠ 620 → a ≠ 621 → a ≠ 622 → M a i = M0 a i) → (∀ (i : Int), i ≠ 6 → i ≠ 10 → i ≠ 11 → i ≠ 12 → i ≠ 34 → M 598 i = M0 598 i) → 0 ≤ e ∧ e ≤ 255 → 0 ≤ m ∧ m ≤ 1 → 0 ≤ o ∧ o ≤ 65528 → 0 ≤ c ∧ c ≤ 400 → 0 ≤ f ∧ f ≤ 400 → 0 ≤ z ∧ z ≤ 1 → 0 ≤ t ∧ t ≤ 11 → 0 ≤ a ∧ a ≤ 400 → 0 ≤ k ∧ k ≤ 11 → 0 ≤ h ∧ h ≤ 11 → 0 ≤ x ∧ x ≤ 23 → RG1 M → HK M x h t k a → ((z = 1 ∧ k = 2) ∨ (z = 0 ∧ k ≠ 2)) → f + c ≤ 400 → PX1 M0 M x h t k a → (o = ofs (rf M0 x) (M0 600 x) (M 598 6) h ∧ c = M0 600 x - enf (rf M0 x) (M0 600 x) (M 598 6) h ∧ f = enf (rf M0 x) (M0 600 x) (M 598 6) h) → GQ6 M → (m = mrf (rf M0 x) (M0 600 x) (M 598 6) h ∧ e = vA (rf M0 x) (M0 600 x) (M 598 6) h (if kA (rf M0 x) (M0 600 x) (M 598 6) h = 2 then 7 else 0)) → x = x0 → jr A 5 xm_292 207 [(11, .int (Int32.ofInt (e))), (10, .int (Int32.ofInt (m))), (9, .int (Int32.ofInt (o))), (8, .int (Int32.ofInt (c))), (7, .int (Int32.ofInt (f))), (6, .int (Int32.ofInt (z))), (5, .int (Int32.ofInt (t))), (4, .int (Int32.ofInt (a))), (3, .int (Int32.ofInt (k))), (2, .int (Int32.ofInt (h))), (1, .int (Int32.ofInt (x))), (0, .ref (598))] [] M Q := by
    intro M e m o c f z t a k h x hI_M hH_M hS_M hF_M hG_M h_e h_m h_o h_c h_f h_z h_t h_a h_k h_h h_x hy0 hy1 hy2 hy3 hy4 hy5 hy6 hy7 hy8
    subst hy8
    have hG1 := hy0
    have hk := hy1
    obtain ⟨k1, k2, k3, k4, k5⟩ := hy1
    refine jr.iload rfl rfl ?_
    refine jr.if_eq rfl rfl (by omega) (fun h209 => ?_) (fun h209 => ?_)
    · refine jr.aload_n rfl rfl ?_
      refine jr.iload_n rfl rfl ?_
      refine jr.iload rfl rfl ?_
      refine jr.iconst rfl ?_
      refine jr.iadd rfl ?_
      refine jr_v rfl rfl (Or.inl rfl) rfl rfl (by decide) rfl ⟨rfl, Nat.le_of_ble_eq_true rfl, Nat.le_of_ble_eq_true rfl⟩ rfl (jc.deep (r_four_x hI_M hH_M hS_M  (by omega) (by omega)  (fun r1 z1 w1_0 => ?_)) (by decide))
      refine jr.lstore rfl (by decide) rfl ?_
      refine jr.iload rfl rfl ?_
      refine jr.if_eq rfl rfl (by omega) (fun h238 => ?_) (fun h238 => ?_)
      · refine jr.aload_n rfl rfl ?_
        refine jr.iload_n rfl rfl ?_
        refine jr.aload_n rfl rfl ?_
        refine jr.getf (i := 8) (v := .ref 604) rfl rfl (by decide) rfl (by decide) rfl rfl rfl rfl ?_
        refine jr.iload rfl rfl ?_
        obtain ⟨v2, e2⟩ : ∃ z, M 604 t = z := ⟨_, rfl⟩
        have b2 : 0 ≤ v2 ∧ v2 ≤ 400 := by rw [← e2]; exact (by have q := hI_M 604 t (by decide); rw [xri_row rfl rfl] at q; exact q)
        refine jr.iald (i := t) (x := v2) rfl (by decide) rfl (by decide) (by omega) (by omega) e2 ?_
        refine jr.iconst rfl ?_
        refine jr_v rfl rfl (Or.inl rfl) rfl rfl (by decide) rfl ⟨rfl, Nat.le_of_ble_eq_true rfl, Nat.le_of_ble_eq_true rfl⟩ rfl (jc.deep (r_ofSix_x hI_M hH_M hS_M  (by omega) (by omega) (by omega)  (fun r3 z3 w3_0 => ?_)) (by decide))
        refine jr.lstore rfl (by decide) rfl ?_
        refine jr.pick [0, 1, 2, 3, 4, 5, 6, 7, 8, 9, 10, 11, 12, 13] rfl rfl ?_
        exact r_gather_L268_x q M r3 r1 e m o c f z t a k h x hI_M hH_M hS_M  (fun a i f598 f600 f601 f602 f603 f604 f605 f606 f607 f608 f609 f610 f611 f612 f613 f614 f615 f616 f617 f618 f619 f620 f621 f622 => (hF_M a i f598 f600 f601 f602 f603 f604 f605 f606 f607 f608 f609 f610 f611 f612 f613 f614 f615 f616 f617 f618 f619 f620 f621 f622)) (fun i g6 g10 g11 g12 g34 => (hG_M i g6 g10 g11 g12 g34)) (by omega) (by omega) (by omega) (by omega) (by omega) (by omega) (by omega) (by omega) (by omega) (by omega) (by omega) (by omega) (by omega) hG1 hk (by omega) (by omega) hy4 hy5 hy6 hy7 ⟨hy4.a6 (s := 0) (by omega) rfl (by omega) (have hh := HT.f hy4.1 (hy4.c.2.resolve_left (fun u => by omega)).2.2; by omega) w3_0, hy4.d6 (by omega) w1_0 (by omega)⟩ (by omega)
      · exact absurd (by omega) h238
    · have sx209 : (1 : Int) ≤ z := by omega
      refine jr.aload_n rfl rfl ?_
      refine jr.iload_n rfl rfl ?_
      refine jr.iload rfl rfl ?_
      refine jr.iconst rfl ?_
      refine jr.iadd rfl ?_
      refine jr_v rfl rfl (Or.inl rfl) rfl rfl (by decide) rfl ⟨rfl, Nat.le_of_ble_eq_true rfl, Nat.le_of_ble_eq_true rfl⟩ rfl (jc.deep (r_two_x hI_M hH_M hS_M  (by omega) (by omega)  (fun r4 z4 w4_0 => ?_)) (by decide))
      refine jr.i2l rfl (by omega) ?_
      refine jr.goto rfl rfl ?_
      refine jr.lstore rfl (by decide) rfl ?_
      refine jr.iload rfl rfl ?_
      refine jr.if_eq rfl rfl (by omega) (fun h238 => ?_) (fun h238 => ?_)
      · exact absurd h238 (by omega)
      · refine jr.aload_n rfl rfl ?_
        refine jr.iload_n rfl rfl ?_
        refine jr.iload rfl rfl ?_
        refine jr.bipush rfl (by decide) ?_
        refine jr_v rfl rfl (Or.inl rfl) rfl rfl (by decide) rfl ⟨rfl, Nat.le_of_ble_eq_true rfl, Nat.le_of_ble_eq_true rfl⟩ rfl (jc.deep (r_ofFour_x hI_M hH_M hS_M  (by omega) (by omega) (by omega)  (fun r5 z5 w5_0 => ?_)) (by decide))
        refine jr.goto rfl rfl ?_
        refine jr.lstore rfl (by decide) rfl ?_
        refine jr.pick [0, 1, 2, 3, 4, 5, 6, 7, 8, 9, 10, 11, 12, 13] rfl rfl ?_
        exact r_gather_L268_x q M r5 r4 e m o c f z t a k h x hI_M hH_M hS_M  (fun a i f598 f600 f601 f602 f603 f604 f605 f606 f607 f608 f609 f610 f611 f612 f613 f614 f615 f616 f617 f618 f619 f620 f621 f622 => (hF_M a i f598 f600 f601 f602 f603 f604 f605 f606 f607 f608 f609 f610 f611 f612 f613 f614 f615 f616 f617 f618 f619 f620 f621 f622)) (fun i g6 g10 g11 g12 g34 => (hG_M i g6 g10 g11 g12 g34)) (by omega) (by omega) (by omega) (by omega) (by omega) (by omega) (by omega) (by omega) (by omega) (by omega) (by omega) (by omega) (by omega) hG1 hk (by omega) (by omega) hy4 hy5 hy6 hy7 ⟨hy4.a2 (s := 0) (by omega) rfl (by omega) w5_0, hy4.d2 (by omega) w4_0 (by omega)⟩ (by omega)
theorem r_gather_L130_x {A : Nat → Option (Nat × (Nat → Int32))} {Q : Option Value → jm → Prop} {M0 : jm} {x0 : Int} (q : ∀ (r : Int) (M' : jm), RI M' → RH M' → RF M' → (-5) ≤ r ∧ r ≤ 23 → RG1 M' → GAR M0 M' x0 r → (∀ (a : Nat) (i : Int), a ≠ 598 → a ≠ 600 → a ≠ 601 → a ≠ 602 → a ≠ 603 → a ≠ 604 → a ≠ 605 → a ≠ 606 → a ≠ 607 → a ≠ 608 → a ≠ 609 → a ≠ 610 → a ≠ 611 → a ≠ 612 → a ≠ 613 → a ≠ 614 → a ≠ 615 → a ≠ 616 → a ≠ 617 → a ≠ 618 → a ≠ 619 → a ≠ 620 → a ≠ 621 → a ≠ 622 → M' a i = M0 a i) → (∀ (i : Int), i ≠ 6 → i ≠ 10 → i ≠ 11 → i ≠ 12 → i ≠ 34 → M' 598 i = M0 598 i) → Q (some (.int (Int32.ofInt r))) M') : ∀ (M : jm) (o : Int) (c : Int) (f : Int) (z : Int) (t : Int) (a : Int) (k : Int) (h : Int) (x : Int), RI M → RH M → RF M → (∀ (a : Nat) (i : Int), a ≠ 598 → a ≠ 600 → a ≠ 601 → a ≠ 602 → a ≠ 603 → a ≠ 604 → a ≠ 605 → a ≠ 606 → a ≠ 607 → a ≠ 608 → a ≠ 609 → a ≠ 610 → a ≠ 611 → a ≠ 612 → a ≠ 613 → a ≠ 614 → a ≠ 615 → a ≠ 616 → a ≠ 617 → a ≠ 618 → a ≠ 619 → a ≠ 620 → a ≠ 621 → a ≠ 622 → M a i = M0 a i) → (∀ (i : Int), i ≠ 6 → i ≠ 10 → i ≠ 11 → i ≠ 12 → i ≠ 34 → M 598 i = M0 598 i) → 0 ≤ o ∧ o ≤ 65528 → 0 ≤ c ∧ c ≤ 400 → 0 ≤ f ∧ f ≤ 400 → 0 ≤ z ∧ z ≤ 1 → 0 ≤ t ∧ t ≤ 11 → 0 ≤ a ∧ a ≤ 400 → 0 ≤ k ∧ k ≤ 11 → 0 ≤ h ∧ h ≤ 11 → 0 ≤ x ∧ x ≤ 23 → RG1 M → HK M x h t k a → ((z = 1 ∧ k = 2) ∨ (z = 0 ∧ k ≠ 2)) → f + c ≤ 400 → PX1 M0 M x h t k a → (o = ofs (rf M0 x) (M0 600 x) (M 598 6) h ∧ c = M0 600 x - enf (rf M0 x) (M0 600 x) (M 598 6) h ∧ f = enf (rf M0 x) (M0 600 x) (M 598 6) h) → GQ6 M → x = x0 → jr A 5 xm_292 130 [(9, .int (Int32.ofInt (o))), (8, .int (Int32.ofInt (c))), (7, .int (Int32.ofInt (f))), (6, .int (Int32.ofInt (z))), (5, .int (Int32.ofInt (t))), (4, .int (Int32.ofInt (a))), (3, .int (Int32.ofInt (k))), (2, .int (Int32.ofInt (h))), (1, .int (Int32.ofInt (x))), (0, .ref (598))] [] M Q := by
    intro M o c f z t a k h x hI_M hH_M hS_M hF_M hG_M h_o h_c h_f h_z h_t h_a h_k h_h h_x hy0 hy1 hy2 hy3 hy4 hy5 hy6 hy7
    subst hy7
    have hG1 := hy0
    have hk := hy1
    obtain ⟨k1, k2, k3, k4, k5⟩ := hy1
    refine jr.iload rfl rfl ?_
    refine jr.if_eq rfl rfl (by omega) (fun h132 => ?_) (fun h132 => ?_)
    · refine jr.aload_n rfl rfl ?_
      refine jr.iload_n rfl rfl ?_
      refine jr.iload rfl rfl ?_
      refine jr.iconst rfl ?_
      refine jr.iadd rfl ?_
      refine jr_v rfl rfl (Or.inl rfl) rfl rfl (by decide) rfl ⟨rfl, Nat.le_of_ble_eq_true rfl, Nat.le_of_ble_eq_true rfl⟩ rfl (jc.deep (r_two_x hI_M hH_M hS_M  (by omega) (by omega)  (fun r1 z1 w1_0 => ?_)) (by decide))
      refine jr.iconst rfl ?_
      refine jr.iand rfl ?_
      have b2 : j_and r1 1 = r1 % 2 := j_and_m 1 (by decide) _
      generalize j_and r1 1 = v2 at b2 ⊢
      refine jr.iconst rfl ?_
      refine jr.icmp_ne rfl rfl (by omega) (by omega) (fun h170 => ?_) (fun h170 => ?_)
      · refine jr.iconst rfl ?_
        refine jr.istore rfl (by decide) rfl ?_
        refine jr.iload rfl rfl ?_
        refine jr.if_eq rfl rfl (by omega) (fun h182 => ?_) (fun h182 => ?_)
        · refine jr.aload_n rfl rfl ?_
          refine jr.iload_n rfl rfl ?_
          refine jr.iload rfl rfl ?_
          refine jr_v rfl rfl (Or.inl rfl) rfl rfl (by decide) rfl ⟨rfl, Nat.le_of_ble_eq_true rfl, Nat.le_of_ble_eq_true rfl⟩ rfl (jc.deep (r_one hI_M hH_M hS_M (Kp.rfl _) (by omega) (by omega)  (fun r3 z3 w3_0 => ?_)) (by decide))
          refine jr.istore rfl (by decide) rfl ?_
          refine jr.pick [0, 1, 2, 3, 4, 5, 6, 7, 8, 9, 10, 11] rfl rfl ?_
          exact r_gather_L207_x q M r3 0 o c f z t a k h x hI_M hH_M hS_M  (fun a i f598 f600 f601 f602 f603 f604 f605 f606 f607 f608 f609 f610 f611 f612 f613 f614 f615 f616 f617 f618 f619 f620 f621 f622 => (hF_M a i f598 f600 f601 f602 f603 f604 f605 f606 f607 f608 f609 f610 f611 f612 f613 f614 f615 f616 f617 f618 f619 f620 f621 f622)) (fun i g6 g10 g11 g12 g34 => (hG_M i g6 g10 g11 g12 g34)) (by omega) (by omega) (by omega) (by omega) (by omega) (by omega) (by omega) (by omega) (by omega) (by omega) (by omega) hG1 hk (by omega) (by omega) hy4 hy5 hy6 ⟨by have h9 := hy4.m6 (by omega) w1_0 (by omega); omega, hy4.e6 (by omega) w3_0 (by omega)⟩ (by omega)
        · exact absurd (by omega) h182
      · refine jr.iconst rfl ?_
        refine jr.goto rfl rfl ?_
        refine jr.istore rfl (by decide) rfl ?_
        refine jr.iload rfl rfl ?_
        refine jr.if_eq rfl rfl (by omega) (fun h182 => ?_) (fun h182 => ?_)
        · refine jr.aload_n rfl rfl ?_
          refine jr.iload_n rfl rfl ?_
          refine jr.iload rfl rfl ?_
          refine jr_v rfl rfl (Or.inl rfl) rfl rfl (by decide) rfl ⟨rfl, Nat.le_of_ble_eq_true rfl, Nat.le_of_ble_eq_true rfl⟩ rfl (jc.deep (r_one hI_M hH_M hS_M (Kp.rfl _) (by omega) (by omega)  (fun r4 z4 w4_0 => ?_)) (by decide))
          refine jr.istore rfl (by decide) rfl ?_
          refine jr.pick [0, 1, 2, 3, 4, 5, 6, 7, 8, 9, 10, 11] rfl rfl ?_
          exact r_gather_L207_x q M r4 1 o c f z t a k h x hI_M hH_M hS_M  (fun a i f598 f600 f601 f602 f603 f604 f605 f606 f607 f608 f609 f610 f611 f612 f613 f614 f615 f616 f617 f618 f619 f620 f621 f622 => (hF_M a i f598 f600 f601 f602 f603 f604 f605 f606 f607 f608 f609 f610 f611 f612 f613 f614 f615 f616 f617 f618 f619 f620 f621 f622)) (fun i g6 g10 g11 g12 g34 => (hG_M i g6 g10 g11 g12 g34)) (by omega) (by omega) (by omega) (by omega) (by omega) (by omega) (by omega) (by omega) (by omega) (by omega) (by omega) hG1 hk (by omega) (by omega) hy4 hy5 hy6 ⟨by have h9 := hy4.m6 (by omega) w1_0 (by omega); omega, hy4.e6 (by omega) w4_0 (by omega)⟩ (by omega)
        · exact absurd (by omega) h182
    · refine jr.aload_n rfl rfl ?_
      refine jr.iload_n rfl rfl ?_
      refine jr.iload rfl rfl ?_
      refine jr.iconst rfl ?_
      refine jr_v rfl rfl (Or.inl rfl) rfl rfl (by decide) rfl ⟨rfl, Nat.le_of_ble_eq_true rfl, Nat.le_of_ble_eq_true rfl⟩ rfl (jc.deep (r_ofFour_x hI_M hH_M hS_M  (by omega) (by omega) (by omega)  (fun r5 z5 w5_0 => ?_)) (by decide))
      refine jr.lconst (x := 1) rfl (by decide) ?_
      refine jr.land rfl ?_
      have b6 : jl_and r5 1 = r5 % 2 ∧ 0 ≤ jl_and r5 1 ∧ jl_and r5 1 ≤ 1 := ⟨jl_and_1 _, by rw [jl_and_1]; omega⟩
      generalize jl_and r5 1 = v6 at b6 ⊢
      refine jr.lconst (x := 1) rfl (by decide) ?_
      refine jr.lcmp_ne rfl rfl rfl (by omega) (by omega) (fun h146 => ?_) (fun h146 => ?_)
      · refine jr.iconst rfl ?_
        refine jr.goto rfl rfl ?_
        refine jr.istore rfl (by decide) rfl ?_
        refine jr.iload rfl rfl ?_
        refine jr.if_eq rfl rfl (by omega) (fun h182 => ?_) (fun h182 => ?_)
        · exact absurd h182 (by omega)
        · refine jr.aload_n rfl rfl ?_
          refine jr.iload_n rfl rfl ?_
          refine jr.iload rfl rfl ?_
          refine jr.bipush rfl (by decide) ?_
          refine jr.iadd rfl ?_
          refine jr_v rfl rfl (Or.inl rfl) rfl rfl (by decide) rfl ⟨rfl, Nat.le_of_ble_eq_true rfl, Nat.le_of_ble_eq_true rfl⟩ rfl (jc.deep (r_one hI_M hH_M hS_M (Kp.rfl _) (by omega) (by omega)  (fun r7 z7 w7_0 => ?_)) (by decide))
          refine jr.goto rfl rfl ?_
          refine jr.istore rfl (by decide) rfl ?_
          refine jr.pick [0, 1, 2, 3, 4, 5, 6, 7, 8, 9, 10, 11] rfl rfl ?_
          exact r_gather_L207_x q M r7 0 o c f z t a k h x hI_M hH_M hS_M  (fun a i f598 f600 f601 f602 f603 f604 f605 f606 f607 f608 f609 f610 f611 f612 f613 f614 f615 f616 f617 f618 f619 f620 f621 f622 => (hF_M a i f598 f600 f601 f602 f603 f604 f605 f606 f607 f608 f609 f610 f611 f612 f613 f614 f615 f616 f617 f618 f619 f620 f621 f622)) (fun i g6 g10 g11 g12 g34 => (hG_M i g6 g10 g11 g12 g34)) (by omega) (by omega) (by omega) (by omega) (by omega) (by omega) (by omega) (by omega) (by omega) (by omega) (by omega) hG1 hk (by omega) (by omega) hy4 hy5 hy6 ⟨by have h9 := hy4.m2 (by omega) w5_0; omega, hy4.e2 (by omega) w7_0 (by omega)⟩ (by omega)
      · refine jr.iconst rfl ?_
        refine jr.goto rfl rfl ?_
        refine jr.istore rfl (by decide) rfl ?_
        refine jr.iload rfl rfl ?_
        refine jr.if_eq rfl rfl (by omega) (fun h182 => ?_) (fun h182 => ?_)
        · exact absurd h182 (by omega)
        · refine jr.aload_n rfl rfl ?_
          refine jr.iload_n rfl rfl ?_
          refine jr.iload rfl rfl ?_
          refine jr.bipush rfl (by decide) ?_
          refine jr.iadd rfl ?_
          refine jr_v rfl rfl (Or.inl rfl) rfl rfl (by decide) rfl ⟨rfl, Nat.le_of_ble_eq_true rfl, Nat.le_of_ble_eq_true rfl⟩ rfl (jc.deep (r_one hI_M hH_M hS_M (Kp.rfl _) (by omega) (by omega)  (fun r8 z8 w8_0 => ?_)) (by decide))
          refine jr.goto rfl rfl ?_
          refine jr.istore rfl (by decide) rfl ?_
          refine jr.pick [0, 1, 2, 3, 4, 5, 6, 7, 8, 9, 10, 11] rfl rfl ?_
          exact r_gather_L207_x q M r8 1 o c f z t a k h x hI_M hH_M hS_M  (fun a i f598 f600 f601 f602 f603 f604 f605 f606 f607 f608 f609 f610 f611 f612 f613 f614 f615 f616 f617 f618 f619 f620 f621 f622 => (hF_M a i f598 f600 f601 f602 f603 f604 f605 f606 f607 f608 f609 f610 f611 f612 f613 f614 f615 f616 f617 f618 f619 f620 f621 f622)) (fun i g6 g10 g11 g12 g34 => (hG_M i g6 g10 g11 g12 g34)) (by omega) (by omega) (by omega) (by omega) (by omega) (by omega) (by omega) (by omega) (by omega) (by omega) (by omega) hG1 hk (by omega) (by omega) hy4 hy5 hy6 ⟨by have h9 := hy4.m2 (by omega) w5_0; omega, hy4.e2 (by omega) w8_0 (by omega)⟩ (by omega)
theorem r_gather_L62_x {A : Nat → Option (Nat × (Nat → Int32))} {Q : Option Value → jm → Prop} {M0 : jm} {x0 : Int} (q : ∀ (r : Int) (M' : jm), RI M' → RH M' → RF M' → (-5) ≤ r ∧ r ≤ 23 → RG1 M' → GAR M0 M' x0 r → (∀ (a : Nat) (i : Int), a ≠ 598 → a ≠ 600 → a ≠ 601 → a ≠ 602 → a ≠ 603 → a ≠ 604 → a ≠ 605 → a ≠ 606 → a ≠ 607 → a ≠ 608 → a ≠ 609 → a ≠ 610 → a ≠ 611 → a ≠ 612 → a ≠ 613 → a ≠ 614 → a ≠ 615 → a ≠ 616 → a ≠ 617 → a ≠ 618 → a ≠ 619 → a ≠ 620 → a ≠ 621 → a ≠ 622 → M' a i = M0 a i) → (∀ (i : Int), i ≠ 6 → i ≠ 10 → i ≠ 11 → i ≠ 12 → i ≠ 34 → M' 598 i = M0 598 i) → Q (some (.int (Int32.ofInt r))) M') : ∀ (M : jm) (t : Int) (a : Int) (k : Int) (h : Int) (x : Int), RI M → RH M → RF M → (∀ (a : Nat) (i : Int), a ≠ 598 → a ≠ 600 → a ≠ 601 → a ≠ 602 → a ≠ 603 → a ≠ 604 → a ≠ 605 → a ≠ 606 → a ≠ 607 → a ≠ 608 → a ≠ 609 → a ≠ 610 → a ≠ 611 → a ≠ 612 → a ≠ 613 → a ≠ 614 → a ≠ 615 → a ≠ 616 → a ≠ 617 → a ≠ 618 → a ≠ 619 → a ≠ 620 → a ≠ 621 → a ≠ 622 → M a i = M0 a i) → (∀ (i : Int), i ≠ 6 → i ≠ 10 → i ≠ 11 → i ≠ 12 → i ≠ 34 → M 598 i = M0 598 i) → 0 ≤ t ∧ t ≤ 11 → 0 ≤ a ∧ a ≤ 400 → 0 ≤ k ∧ k ≤ 11 → 0 ≤ h ∧ h ≤ 11 → 0 ≤ x ∧ x ≤ 23 → RG1 M → HK M x h t k a → 0 ≤ M 600 x ∧ M 600 x ≤ 400 → PX1 M0 M x h t k a → GQ6 M → x = x0 → jr A 5 xm_292 62 [(5, .int (Int32.ofInt (t))), (4, .int (Int32.ofInt (a))), (3, .int (Int32.ofInt (k))), (2, .int (Int32.ofInt (h))), (1, .int (Int32.ofInt (x))), (0, .ref (598))] [] M Q := by
    intro M t a k h x hI_M hH_M hS_M hF_M hG_M h_t h_a h_k h_h h_x hy0 hy1 hy2 hy3 hy4 hy5
    subst hy5
    have hG1 := hy0
    have hk := hy1
    obtain ⟨k1, k2, k3, k4, k5⟩ := hy1
    refine jr.iload_n rfl rfl ?_
    refine jr.iconst rfl ?_
    refine jr.icmp_ne rfl rfl (by omega) (by omega) (fun h64 => ?_) (fun h64 => ?_)
    · refine jr.iconst rfl ?_
      refine jr.istore rfl (by decide) rfl ?_
      refine jr.iload rfl rfl ?_
      refine jr.aload_n rfl rfl ?_
      refine jr.getf (i := 9) (v := .ref 605) rfl rfl (by decide) rfl (by decide) rfl rfl rfl rfl ?_
      refine jr.iload_n rfl rfl ?_
      obtain ⟨v1, e1⟩ : ∃ z, M 605 h = z := ⟨_, rfl⟩
      have b1 : 0 ≤ v1 ∧ v1 ≤ 400 := by rw [← e1]; exact (by have q := hI_M 605 h (by decide); rw [xri_row rfl rfl] at q; exact q)
      refine jr.iald (i := h) (x := v1) rfl (by decide) rfl (by decide) (by omega) (by omega) e1 ?_
      refine jr.iadd rfl ?_
      refine jr.istore rfl (by decide) rfl ?_
      refine jr.aload_n rfl rfl ?_
      refine jr.getf (i := 3) (v := .ref 600) rfl rfl (by decide) rfl (by decide) rfl rfl rfl rfl ?_
      refine jr.iload_n rfl rfl ?_
      obtain ⟨v2, e2⟩ : ∃ z, M 600 x = z := ⟨_, rfl⟩
      have b2 : (-1) ≤ v2 ∧ v2 ≤ 400 := by rw [← e2]; exact (by have q := hI_M 600 x (by decide); rw [xri_row rfl rfl] at q; exact q)
      refine jr.iald (i := x) (x := v2) rfl (by decide) rfl (by decide) (by omega) (by omega) e2 ?_
      refine jr.iload rfl rfl ?_
      refine jr.isub rfl ?_
      refine jr.istore rfl (by decide) rfl ?_
      refine jr.bipush rfl (by decide) ?_
      refine jr.iload rfl rfl ?_
      refine jr.if_eq rfl rfl (by omega) (fun _ => ?_) (fun h => absurd (by decide) h)
      refine jr.aload_n rfl rfl ?_
      refine jr.iload_n rfl rfl ?_
      refine jr.iload rfl rfl ?_
      refine jr.iconst rfl ?_
      refine jr.iadd rfl ?_
      refine jr_v rfl rfl (Or.inl rfl) rfl rfl (by decide) rfl ⟨rfl, Nat.le_of_ble_eq_true rfl, Nat.le_of_ble_eq_true rfl⟩ rfl (jc.deep (r_two_x hI_M hH_M hS_M  (by omega) (by omega)  (fun r3 z3 w3_0 => ?_)) (by decide))
      refine jr.iconst rfl ?_
      refine jr.ishr rfl ?_
      have b4 : j_shr r3 3 = r3 / 8 := j_shr_ex 3 (by decide) (by omega) (by omega)
      generalize j_shr r3 3 = v4 at b4 ⊢
      refine jr.i2l rfl (by omega) ?_
      refine jr.l2i rfl ?_
      refine jr.imul rfl ?_
      refine jr.istore rfl (by decide) rfl ?_
      refine jr.pick [0, 1, 2, 3, 4, 5, 6, 7, 8, 9] rfl rfl ?_
      exact r_gather_L130_x q M (8 * v4) (v2 - (a + v1)) (a + v1) 0 t a k h x hI_M hH_M hS_M  (fun a i f598 f600 f601 f602 f603 f604 f605 f606 f607 f608 f609 f610 f611 f612 f613 f614 f615 f616 f617 f618 f619 f620 f621 f622 => (hF_M a i f598 f600 f601 f602 f603 f604 f605 f606 f607 f608 f609 f610 f611 f612 f613 f614 f615 f616 f617 f618 f619 f620 f621 f622)) (fun i g6 g10 g11 g12 g34 => (hG_M i g6 g10 g11 g12 g34)) (by omega) (by omega) (by omega) (by omega) (by omega) (by omega) (by omega) (by omega) (by omega) hG1 hk (by omega) (by omega) hy3 (by have hh := HT.f hy3.1 hy3.c.1; have he := enf_i (f := rf M0 x) (N := M0 600 x) hy3.c.1; have h6 : M 600 x = M0 600 x := hy3.2.2.2.2.2.2.2.2.1 600 x (by decide) (by decide) (by decide) (by decide); have ha := hy3.2.2.2.2.2.1; exact ⟨(hy3.o6 (by omega) w3_0 (by omega) (by omega)), by omega, by omega⟩) hy4 (by omega)
    · refine jr.iconst rfl ?_
      refine jr.goto rfl rfl ?_
      refine jr.istore rfl (by decide) rfl ?_
      refine jr.iload rfl rfl ?_
      refine jr.aload_n rfl rfl ?_
      refine jr.getf (i := 9) (v := .ref 605) rfl rfl (by decide) rfl (by decide) rfl rfl rfl rfl ?_
      refine jr.iload_n rfl rfl ?_
      obtain ⟨v5, e5⟩ : ∃ z, M 605 h = z := ⟨_, rfl⟩
      have b5 : 0 ≤ v5 ∧ v5 ≤ 400 := by rw [← e5]; exact (by have q := hI_M 605 h (by decide); rw [xri_row rfl rfl] at q; exact q)
      refine jr.iald (i := h) (x := v5) rfl (by decide) rfl (by decide) (by omega) (by omega) e5 ?_
      refine jr.iadd rfl ?_
      refine jr.istore rfl (by decide) rfl ?_
      refine jr.aload_n rfl rfl ?_
      refine jr.getf (i := 3) (v := .ref 600) rfl rfl (by decide) rfl (by decide) rfl rfl rfl rfl ?_
      refine jr.iload_n rfl rfl ?_
      obtain ⟨v6, e6⟩ : ∃ z, M 600 x = z := ⟨_, rfl⟩
      have b6 : (-1) ≤ v6 ∧ v6 ≤ 400 := by rw [← e6]; exact (by have q := hI_M 600 x (by decide); rw [xri_row rfl rfl] at q; exact q)
      refine jr.iald (i := x) (x := v6) rfl (by decide) rfl (by decide) (by omega) (by omega) e6 ?_
      refine jr.iload rfl rfl ?_
      refine jr.isub rfl ?_
      refine jr.istore rfl (by decide) rfl ?_
      refine jr.bipush rfl (by decide) ?_
      refine jr.iload rfl rfl ?_
      refine jr.if_eq rfl rfl (by omega) (fun h => absurd h (by decide)) (fun _ => ?_)
      refine jr.aload_n rfl rfl ?_
      refine jr.iload_n rfl rfl ?_
      refine jr.iload rfl rfl ?_
      refine jr.iconst rfl ?_
      refine jr_v rfl rfl (Or.inl rfl) rfl rfl (by decide) rfl ⟨rfl, Nat.le_of_ble_eq_true rfl, Nat.le_of_ble_eq_true rfl⟩ rfl (jc.deep (r_ofFour_x hI_M hH_M hS_M  (by omega) (by omega) (by omega)  (fun r7 z7 w7_0 => ?_)) (by decide))
      have hv5 : 0 ≤ r7 ∧ r7 ≤ 8191 := (by have h9 := w7_0 0; rw [vof_2_5] at h9; omega)
      refine jr.goto rfl rfl ?_
      refine jr.l2i rfl ?_
      refine jr.imul rfl ?_
      refine jr.istore rfl (by decide) rfl ?_
      refine jr.pick [0, 1, 2, 3, 4, 5, 6, 7, 8, 9] rfl rfl ?_
      exact r_gather_L130_x q M (8 * r7) (v6 - (a + v5)) (a + v5) 1 t a k h x hI_M hH_M hS_M  (fun a i f598 f600 f601 f602 f603 f604 f605 f606 f607 f608 f609 f610 f611 f612 f613 f614 f615 f616 f617 f618 f619 f620 f621 f622 => (hF_M a i f598 f600 f601 f602 f603 f604 f605 f606 f607 f608 f609 f610 f611 f612 f613 f614 f615 f616 f617 f618 f619 f620 f621 f622)) (fun i g6 g10 g11 g12 g34 => (hG_M i g6 g10 g11 g12 g34)) (by omega) (by omega) (by omega) (by omega) (by omega) (by omega) (by omega) (by omega) (by omega) hG1 hk (by omega) (by omega) hy3 (by have hh := HT.f hy3.1 hy3.c.1; have he := enf_i (f := rf M0 x) (N := M0 600 x) hy3.c.1; have h6 : M 600 x = M0 600 x := hy3.2.2.2.2.2.2.2.2.1 600 x (by decide) (by decide) (by decide) (by decide); have ha := hy3.2.2.2.2.2.1; exact ⟨(hy3.o2 (by omega) w7_0), by omega, by omega⟩) hy4 (by omega)
theorem r_gather_x {A : Nat → Option (Nat × (Nat → Int32))} {Q : Option Value → jm → Prop} {M : jm} (hI_M : RI M) (hH_M : RH M) (hS_M : RF M) {x : Int} (h_x : (-2147483648) ≤ x ∧ x ≤ 2147483647) (p0 : RG1 M) (p1 : GQ6 M) (q : ∀ (r : Int) (M' : jm), RI M' → RH M' → RF M' → (-5) ≤ r ∧ r ≤ 23 → RG1 M' → GAR M M' x r → (∀ (a : Nat) (i : Int), a ≠ 598 → a ≠ 600 → a ≠ 601 → a ≠ 602 → a ≠ 603 → a ≠ 604 → a ≠ 605 → a ≠ 606 → a ≠ 607 → a ≠ 608 → a ≠ 609 → a ≠ 610 → a ≠ 611 → a ≠ 612 → a ≠ 613 → a ≠ 614 → a ≠ 615 → a ≠ 616 → a ≠ 617 → a ≠ 618 → a ≠ 619 → a ≠ 620 → a ≠ 621 → a ≠ 622 → M' a i = M a i) → (∀ (i : Int), i ≠ 6 → i ≠ 10 → i ≠ 11 → i ≠ 12 → i ≠ 34 → M' 598 i = M 598 i) → Q (some (.int (Int32.ofInt r))) M') : jc A 6 292 [.ref (598), .int (Int32.ofInt (x))] M Q := by
  have hG1 := p0
  refine jc_of (m := xm_292) rfl (Nat.le_of_ble_eq_true rfl) rfl ?_
  refine jr.aload_n rfl rfl ?_
  refine jr.iload_n rfl rfl ?_
  refine jr_v rfl rfl (Or.inl rfl) rfl rfl (by decide) rfl ⟨rfl, Nat.le_of_ble_eq_true rfl, Nat.le_of_ble_eq_true rfl⟩ rfl (jc.deep (c_isThere hI_M (by omega) (fun l2 u2 t2 => ?_) (fun n2 => ?_)) (by decide))
  · refine jr.if_ne rfl rfl (by omega) (fun _ => ?_) (fun h => absurd (by decide) h)
    refine jr.aload_n rfl rfl ?_
    refine jr.iload_n rfl rfl ?_
    obtain ⟨v2, e2⟩ : ∃ z, M 600 x = z := ⟨_, rfl⟩
    have b2 : (-1) ≤ v2 ∧ v2 ≤ 400 := by rw [← e2]; exact (by have q := hI_M 600 x (by decide); rw [xri_row rfl rfl] at q; exact q)
    refine jr_v rfl rfl (Or.inl rfl) rfl rfl (by decide) rfl ⟨rfl, Nat.le_of_ble_eq_true rfl, Nat.le_of_ble_eq_true rfl⟩ rfl (jc.deep (r_look_x hI_M hH_M hS_M  (by omega) (by rw [e2]; omega) (fun M1 hI_M1 hH_M1 hS_M1  w1_0 w1_1 w1_2 w1_3 => ?_)) (by decide))
    refine jr.aload_n rfl rfl ?_
    obtain ⟨v3, e3⟩ : ∃ z, M1 598 10 = z := ⟨_, rfl⟩
    have b3 : 0 ≤ v3 ∧ v3 ≤ 6 := by rw [← e3]; exact hI_M1 598 10 (by decide)
    refine jr.getf (i := 10) (x := v3) (v := .int (Int32.ofInt (v3))) rfl rfl (by decide) rfl (by decide) rfl rfl e3 rfl ?_
    refine jr.if_eq rfl rfl (by omega) (fun h20 => ?_) (fun h20 => ?_)
    · refine jr.aload_n rfl rfl ?_
      refine jr.iload_n rfl rfl ?_
      refine jr_v rfl rfl (Or.inl rfl) rfl rfl (by decide) rfl ⟨rfl, Nat.le_of_ble_eq_true rfl, Nat.le_of_ble_eq_true rfl⟩ rfl (jc.deep (r_piece_x hI_M1 hH_M1 hS_M1  (by omega) (HQ6.t w1_1 (by have hq := hI_M 600 x (by decide); rw [xri_row rfl rfl] at hq; omega) (fun i h0 h1 => rf_r hI_M x i)) (rf_e (fun i => w1_2 601 i (by decide) (by decide) (by decide) (by decide))) (fun r4 z4 w4_0 w4_1 w4_2 => ?_)) (by decide))
      refine jr.istore_n rfl (by decide) rfl ?_
      refine jr.iload_n rfl rfl ?_
      refine jr.iconst rfl ?_
      refine jr.icmp_ne rfl rfl (by omega) (by omega) (fun h35 => ?_) (fun h35 => ?_)
      · have sx35 : (0 : Int) ≤ r4 := by omega
        refine jr.aload_n rfl rfl ?_
        refine jr.getf (i := 7) (v := .ref 603) rfl rfl (by decide) rfl (by decide) rfl rfl rfl rfl ?_
        refine jr.iload_n rfl rfl ?_
        obtain ⟨v5, e5⟩ : ∃ z, M1 603 r4 = z := ⟨_, rfl⟩
        have b5 : 0 ≤ v5 ∧ v5 ≤ 11 := by rw [← e5]; exact (by have q := hI_M1 603 r4 (by decide); rw [xri_row rfl rfl] at q; exact q)
        refine jr.iald (i := r4) (x := v5) rfl (by decide) rfl (by decide) (by omega) (by omega) e5 ?_
        refine jr.istore_n rfl (by decide) rfl ?_
        refine jr.aload_n rfl rfl ?_
        refine jr.getf (i := 8) (v := .ref 604) rfl rfl (by decide) rfl (by decide) rfl rfl rfl rfl ?_
        refine jr.iload_n rfl rfl ?_
        obtain ⟨v6, e6⟩ : ∃ z, M1 604 r4 = z := ⟨_, rfl⟩
        have b6 : 0 ≤ v6 ∧ v6 ≤ 400 := by rw [← e6]; exact (by have q := hI_M1 604 r4 (by decide); rw [xri_row rfl rfl] at q; exact q)
        refine jr.iald (i := r4) (x := v6) rfl (by decide) rfl (by decide) (by omega) (by omega) e6 ?_
        refine jr.istore rfl (by decide) rfl ?_
        refine jr.aload_n rfl rfl ?_
        refine jr_v rfl rfl (Or.inl rfl) rfl rfl (by decide) rfl ⟨rfl, Nat.le_of_ble_eq_true rfl, Nat.le_of_ble_eq_true rfl⟩ rfl (jc.deep (r_net_x hI_M1 hH_M1 hS_M1   (HQ6.t w1_1 (by have hq := hI_M 600 x (by decide); rw [xri_row rfl rfl] at hq; omega) (fun i h0 h1 => rf_r hI_M x i)) (fun r7 z7 w7_0 w7_1 w7_2 w7_3 => ?_)) (by decide))
        have rn4 : r4 ≠ -1 := by clear w4_1; omega
        have hk := HK.mk' (x := x) hH_M1 w1_0 (h := r4) (by clear w4_1; omega) (by clear w4_1; omega) e5 e6 ((w4_0.resolve_left rn4).2.2) w7_0 w7_2 w7_1 (w4_1 rn4)
        clear w4_1
        have t0 := hk.1
        refine jr.istore rfl (by decide) rfl ?_
        have e8 : M1 600 x = v2 := ((w1_2 600 x (by decide) (by decide) (by decide) (by decide)).trans e2)
        refine jr.pick [0, 1, 2, 3, 5, 4] rfl rfl ?_
        exact r_gather_L62_x q M1 r7 v6 v5 r4 x hI_M1 hH_M1 hS_M1  (fun a i f598 f600 f601 f602 f603 f604 f605 f606 f607 f608 f609 f610 f611 f612 f613 f614 f615 f616 f617 f618 f619 f620 f621 f622 => ((w1_2 a i f598 f603 f604 f605).trans rfl)) (fun i g6 g10 g11 g12 g34 => ((w1_3 i g6 g10 g11 g12).trans rfl)) (by omega) (by omega) (by omega) (by omega) (by omega) (RG1.fr hG1 (fun a i ha => w1_2 a i (fun e => absurd ha (by rw [e]; decide)) (fun e => absurd ha (by rw [e]; decide)) (fun e => absurd ha (by rw [e]; decide)) (fun e => absurd ha (by rw [e]; decide)))) hk.2 (by rw [e8] <;> omega) (by have hpc := pcf_r (f := rf M x) (N := M 600 x) (C := M1 598 6) w1_1.1.1; rw [← w4_2] at hpc; have hcc := (hpc.resolve_left rn4).1; have hh := HT.f (HQ6.t w1_1 (by have hq := hI_M 600 x (by decide); rw [xri_row rfl rfl] at hq; omega) (fun i h0 h1 => rf_r hI_M x i)) hcc; exact ⟨(HQ6.t w1_1 (by have hq := hI_M 600 x (by decide); rw [xri_row rfl rfl] at hq; omega) (fun i h0 h1 => rf_r hI_M x i)), ⟨HQ6.e w1_1, (hx6_z w1_1 (by rw [e3]; omega))⟩, ⟨w4_2, rn4⟩, w7_3, (by omega), (by omega), (rf_e (fun i => w1_2 601 i (by decide) (by decide) (by decide) (by decide))), ⟨by omega, by omega⟩, ⟨w1_2, w1_3⟩⟩) (fun g g0 g1 hg => by have h9 := p1 g g0 g1 (by rw [← w1_2 606 g (by decide) (by decide) (by decide) (by decide)]; exact hg); rw [w1_2 614 g (by decide) (by decide) (by decide) (by decide), w1_2 613 g (by decide) (by decide) (by decide) (by decide)]; exact h9) (by omega)
      · refine jr.bipush rfl (by decide) ?_
        exact jr.ireturn rfl rfl rfl (q _ _ hI_M1 hH_M1 hS_M1  (by omega) (RG1.fr hG1 (fun a i ha => w1_2 a i (fun e => absurd ha (by rw [e]; decide)) (fun e => absurd ha (by rw [e]; decide)) (fun e => absurd ha (by rw [e]; decide)) (fun e => absurd ha (by rw [e]; decide)))) (Or.inr (Or.inl ⟨by omega, M1, ⟨w1_2, w1_3⟩, HQ6.e w1_1, Or.inl ⟨(by first | (exact Or.inl (hx6_n w1_1 (by rw [e3]; omega))) | (exact Or.inr (by rw [← w4_2]; omega))), by omega, rfl⟩⟩)) (fun a i f598 f600 f601 f602 f603 f604 f605 f606 f607 f608 f609 f610 f611 f612 f613 f614 f615 f616 f617 f618 f619 f620 f621 f622 => ((w1_2 a i f598 f603 f604 f605).trans rfl)) (fun i g6 g10 g11 g12 g34 => ((w1_3 i g6 g10 g11 g12).trans rfl)))
    · have sx20 : (1 : Int) ≤ v3 := by omega
      refine jr.iconst rfl ?_
      refine jr.goto rfl rfl ?_
      refine jr.istore_n rfl (by decide) rfl ?_
      refine jr.iload_n rfl rfl ?_
      refine jr.iconst rfl ?_
      refine jr.icmp_ne rfl rfl (by omega) (by omega) (fun h => absurd h (by decide)) (fun _ => ?_)
      refine jr.bipush rfl (by decide) ?_
      exact jr.ireturn rfl rfl rfl (q _ _ hI_M1 hH_M1 hS_M1  (by omega) (RG1.fr hG1 (fun a i ha => w1_2 a i (fun e => absurd ha (by rw [e]; decide)) (fun e => absurd ha (by rw [e]; decide)) (fun e => absurd ha (by rw [e]; decide)) (fun e => absurd ha (by rw [e]; decide)))) (Or.inr (Or.inl ⟨by omega, M1, ⟨w1_2, w1_3⟩, HQ6.e w1_1, Or.inl ⟨(by first | (exact Or.inl (hx6_n w1_1 (by rw [e3]; omega))) | (exact Or.inr (by rw [← w4_2]; omega))), by omega, rfl⟩⟩)) (fun a i f598 f600 f601 f602 f603 f604 f605 f606 f607 f608 f609 f610 f611 f612 f613 f614 f615 f616 f617 f618 f619 f620 f621 f622 => ((w1_2 a i f598 f603 f604 f605).trans rfl)) (fun i g6 g10 g11 g12 g34 => ((w1_3 i g6 g10 g11 g12).trans rfl)))
  · refine jr.if_ne rfl rfl (by omega) (fun h => absurd h (by decide)) (fun _ => ?_)
    refine jr.bipush rfl (by decide) ?_
    exact jr.ireturn rfl rfl rfl (q _ _ hI_M hH_M hS_M  (by omega) hG1 (Or.inl ⟨by omega, by omega, rfl⟩) (fun a i f598 f600 f601 f602 f603 f604 f605 f606 f607 f608 f609 f610 f611 f612 f613 f614 f615 f616 f617 f618 f619 f620 f621 f622 => rfl) (fun i g6 g10 g11 g12 g34 => rfl))
end
section
/-! ===== the class: flows: figures, pools, change ===== -/
noncomputable def fgF (M : jm) (t : Nat) (x y : Int) : Int := if x = 0 then M t 2 else if x = 1 then M t 5 else if x = 2 then M (t + 2) 0 else if x = 3 then M (t + 2) 1 else if x = 4 then j_w (M t 6 - y) else if x = 5 then M (t + 3) 0 else if x = 6 then M (t + 3) 1 else if x = 7 then M (t + 5) 0 else if x = 8 then M (t + 5) 1 else if x = 9 then M t 15 else if x = 10 then (if M t 1 = 0 then 0 else 1) else -3
noncomputable def fgL (M : jm) (t : Nat) (x : Int) : Int := if x = 0 then M (t + 1) 0 else if x = 1 then M (t + 1) 1 else if x = 2 then M (t + 6) 0 else if x = 3 then M (t + 6) 1 else if x = 4 then M (t + 7) 0 else if x = 5 then M (t + 7) 1 else -1
theorem c_Flows_isLive_x {A : Nat → Option (Nat × (Nat → Int32))} {Q : Option Value → jm → Prop} {M : jm} (hC_M : CI M) {x : Int} (h_x : (-2147483648) ≤ x ∧ x ≤ 2147483647) {V : Int} (g_V : M 15 0 = V) (q : ∀ (r : Int), 0 ≤ r ∧ r ≤ 1 → (r = 0 ∨ (0 ≤ x ∧ x ≤ 23)) → ((r = 1 ∧ (0 ≤ x ∧ x ≤ 23) ∧ M (xe (V.toNat) x) 0 ≠ 0) ∨ (r = 0 ∧ (x < 0 ∨ 23 < x ∨ M (xe (V.toNat) x) 0 = 0))) → Q (some (.int (Int32.ofInt r))) M) : jc A 1 74 [.ref (15), .int (Int32.ofInt (x))] M Q := by
  refine jc_of (m := xm_74) rfl (Nat.le_of_ble_eq_true rfl) rfl ?_
  have b_V : 16 ≤ V ∧ V ≤ 17 := by rw [← g_V]; exact (CI.r hC_M (show kd 15 = 9 from rfl) (by decide) 0)
  refine jr.iload_n rfl rfl ?_
  refine jr.if_lt rfl rfl (by omega) (fun h1 => ?_) (fun h1 => ?_)
  · refine jr.iconst rfl ?_
    exact jr.ireturn rfl rfl rfl (q _ (by omega) (by omega) (by omega))
  · refine jr.iload_n rfl rfl ?_
    refine jr.bipush rfl (by decide) ?_
    refine jr.icmp_ge rfl rfl (by omega) (by omega) (fun h7 => ?_) (fun h7 => ?_)
    · refine jr.iconst rfl ?_
      exact jr.ireturn rfl rfl rfl (q _ (by omega) (by omega) (by omega))
    · refine jr.aload_n rfl rfl ?_
      have k1 : kd (V).toNat = 13 := by rcases (show V = 16 ∨ V = 17 by omega) with h | h <;> (rw [h]; rfl)
      refine jr.getf (i := 0) (x := V) (v := .ref (V.toNat)) rfl rfl (by decide) rfl (by decide) rfl rfl g_V rfl ?_
      refine jr.iload_n rfl rfl ?_
      have k2 := kxe_13 k1 (i := x) (by omega) (by omega)
      refine jr.aald (c := (xe ((V.toNat)) x)) rfl (Nat.lt_trans (kx_13 k1).1 (by decide)) (kx_13 k1).2 (by decide) (by decide) rfl (by decide) (by omega) (by omega) k2.1 ?_
      obtain ⟨v3, e3⟩ : ∃ z_, M ((xe ((V.toNat)) x)) 0 = z_ := ⟨_, rfl⟩
      have b3 : 0 ≤ v3 ∧ v3 ≤ 1 := by rw [← e3]; exact (CI.r hC_M k2.2 (by decide) 0)
      refine jr.getf (i := 0) (x := v3) (v := .int (Int32.ofInt (v3))) rfl rfl (Nat.lt_trans (kx_1 k2.2).1 (by decide)) (kx_1 k2.2).2 (by decide) rfl rfl e3 rfl ?_
      refine jr.if_eq rfl rfl (by omega) (fun h19 => ?_) (fun h19 => ?_)
      · refine jr.iconst rfl ?_
        exact jr.ireturn rfl rfl rfl (q _ (by omega) (by omega) (by omega))
      · have sx19 : (1 : Int) ≤ v3 := by omega
        refine jr.iconst rfl ?_
        refine jr.goto rfl rfl ?_
        exact jr.ireturn rfl rfl rfl (q _ (by omega) (by omega) (by omega))
theorem c_Flow_figure_x {A : Nat → Option (Nat × (Nat → Int32))} {Q : Option Value → jm → Prop} {M : jm} (hC_M : CI M) {t : Nat} (k_t : kd t = 1) {x : Int} (h_x : (-2147483648) ≤ x ∧ x ≤ 2147483647) {y : Int} (h_y : (-2147483648) ≤ y ∧ y ≤ 2147483647) (q : ∀ (r : Int), (-2147483648) ≤ r ∧ r ≤ 2147483647 → (r = fgF M t x y) → Q (some (.int (Int32.ofInt r))) M) : jc A 1 62 [.ref (t), .int (Int32.ofInt (x)), .int (Int32.ofInt (y))] M Q := by
  refine jc_of (m := xm_62) rfl (Nat.le_of_ble_eq_true rfl) rfl ?_
  refine jr.iload_n rfl rfl ?_
  rcases (show x = 0 ∨ x = 1 ∨ x = 2 ∨ x = 3 ∨ x = 4 ∨ x = 5 ∨ x = 6 ∨ x = 7 ∨ x = 8 ∨ x = 9 ∨ x = 10 ∨ (x ≠ 0 ∧ x ≠ 1 ∧ x ≠ 2 ∧ x ≠ 3 ∧ x ≠ 4 ∧ x ≠ 5 ∧ x ≠ 6 ∧ x ≠ 7 ∧ x ≠ 8 ∧ x ≠ 9 ∧ x ≠ 10) by omega) with h1 | h1 | h1 | h1 | h1 | h1 | h1 | h1 | h1 | h1 | h1 | h1
  · refine jr.tsw_k 0 rfl h1 rfl ?_
    refine jr.aload_n rfl rfl ?_
    obtain ⟨v1, e1⟩ : ∃ z_, M t 2 = z_ := ⟨_, rfl⟩
    have b1 : (-2147483648) ≤ v1 ∧ v1 ≤ 2147483647 := by rw [← e1]; exact (CI.r hC_M k_t (by decide) 2)
    refine jr.getf (i := 2) (x := v1) (v := .int (Int32.ofInt (v1))) rfl rfl (Nat.lt_trans (kx_1 k_t).1 (by decide)) (kx_1 k_t).2 (by decide) rfl rfl e1 rfl ?_
    exact jr.ireturn rfl rfl rfl (q _ (by omega) (by unfold fgF; rw [if_pos (by omega)]; omega))
  · refine jr.tsw_k 1 rfl h1 rfl ?_
    refine jr.aload_n rfl rfl ?_
    obtain ⟨v2, e2⟩ : ∃ z_, M t 5 = z_ := ⟨_, rfl⟩
    have b2 : (-2147483648) ≤ v2 ∧ v2 ≤ 2147483647 := by rw [← e2]; exact (CI.r hC_M k_t (by decide) 5)
    refine jr.getf (i := 5) (x := v2) (v := .int (Int32.ofInt (v2))) rfl rfl (Nat.lt_trans (kx_1 k_t).1 (by decide)) (kx_1 k_t).2 (by decide) rfl rfl e2 rfl ?_
    exact jr.ireturn rfl rfl rfl (q _ (by omega) (by unfold fgF; rw [if_neg (by omega), if_pos (by omega)]; omega))
  · refine jr.tsw_k 2 rfl h1 rfl ?_
    refine jr.aload_n rfl rfl ?_
    have k3 := kf_1_4 k_t
    refine jr.getf (i := 4) (v := .ref (t + 2)) rfl rfl (Nat.lt_trans (kx_1 k_t).1 (by decide)) (kx_1 k_t).2 (by decide) rfl rfl rfl (jval_ref rfl k3.1) ?_
    refine jr.iconst rfl ?_
    obtain ⟨v4, e4⟩ : ∃ z_, M ((t + 2)) 0 = z_ := ⟨_, rfl⟩
    have b4 : (-2147483648) ≤ v4 ∧ v4 ≤ 2147483647 := by rw [← e4]; exact (CI.r hC_M k3.2 (by decide) 0)
    refine jr.iald (i := 0) (x := v4) rfl (Nat.lt_trans (kx_7 k3.2).1 (by decide)) (kx_7 k3.2).2 (by decide) (by omega) (by omega) e4 ?_
    exact jr.ireturn rfl rfl rfl (q _ (by omega) (by unfold fgF; rw [if_neg (by omega), if_neg (by omega), if_pos (by omega)]; omega))
  · refine jr.tsw_k 3 rfl h1 rfl ?_
    refine jr.aload_n rfl rfl ?_
    have k5 := kf_1_4 k_t
    refine jr.getf (i := 4) (v := .ref (t + 2)) rfl rfl (Nat.lt_trans (kx_1 k_t).1 (by decide)) (kx_1 k_t).2 (by decide) rfl rfl rfl (jval_ref rfl k5.1) ?_
    refine jr.iconst rfl ?_
    obtain ⟨v6, e6⟩ : ∃ z_, M ((t + 2)) 1 = z_ := ⟨_, rfl⟩
    have b6 : (-2147483648) ≤ v6 ∧ v6 ≤ 2147483647 := by rw [← e6]; exact (CI.r hC_M k5.2 (by decide) 1)
    refine jr.iald (i := 1) (x := v6) rfl (Nat.lt_trans (kx_7 k5.2).1 (by decide)) (kx_7 k5.2).2 (by decide) (by omega) (by omega) e6 ?_
    exact jr.ireturn rfl rfl rfl (q _ (by omega) (by unfold fgF; rw [if_neg (by omega), if_neg (by omega), if_neg (by omega), if_pos (by omega)]; omega))
  · refine jr.tsw_k 4 rfl h1 rfl ?_
    refine jr.aload_n rfl rfl ?_
    obtain ⟨v7, e7⟩ : ∃ z_, M t 6 = z_ := ⟨_, rfl⟩
    have b7 : (-2147483648) ≤ v7 ∧ v7 ≤ 2147483647 := by rw [← e7]; exact (CI.r hC_M k_t (by decide) 6)
    refine jr.getf (i := 6) (x := v7) (v := .int (Int32.ofInt (v7))) rfl rfl (Nat.lt_trans (kx_1 k_t).1 (by decide)) (kx_1 k_t).2 (by decide) rfl rfl e7 rfl ?_
    refine jr.iload_n rfl rfl ?_
    refine jr.isub rfl ?_
    refine jr.iw (j_w (v7 - y)) (j_w_eq _) ?_
    have b8 : -2147483648 ≤ j_w (v7 - y) ∧ j_w (v7 - y) ≤ 2147483647 := jb_any _
    exact jr.ireturn rfl rfl rfl (q _ (by omega) (by unfold fgF; rw [if_neg (by omega), if_neg (by omega), if_neg (by omega), if_neg (by omega), if_pos (by omega)]; rw [e7]))
  · refine jr.tsw_k 5 rfl h1 rfl ?_
    refine jr.aload_n rfl rfl ?_
    have k9 := kf_1_7 k_t
    refine jr.getf (i := 7) (v := .ref (t + 3)) rfl rfl (Nat.lt_trans (kx_1 k_t).1 (by decide)) (kx_1 k_t).2 (by decide) rfl rfl rfl (jval_ref rfl k9.1) ?_
    refine jr.iconst rfl ?_
    obtain ⟨v10, e10⟩ : ∃ z_, M ((t + 3)) 0 = z_ := ⟨_, rfl⟩
    have b10 : (-2147483648) ≤ v10 ∧ v10 ≤ 2147483647 := by rw [← e10]; exact (CI.r hC_M k9.2 (by decide) 0)
    refine jr.iald (i := 0) (x := v10) rfl (Nat.lt_trans (kx_5 k9.2).1 (by decide)) (kx_5 k9.2).2 (by decide) (by omega) (by omega) e10 ?_
    exact jr.ireturn rfl rfl rfl (q _ (by omega) (by unfold fgF; rw [if_neg (by omega), if_neg (by omega), if_neg (by omega), if_neg (by omega), if_neg (by omega), if_pos (by omega)]; omega))
  · refine jr.tsw_k 6 rfl h1 rfl ?_
    refine jr.aload_n rfl rfl ?_
    have k11 := kf_1_7 k_t
    refine jr.getf (i := 7) (v := .ref (t + 3)) rfl rfl (Nat.lt_trans (kx_1 k_t).1 (by decide)) (kx_1 k_t).2 (by decide) rfl rfl rfl (jval_ref rfl k11.1) ?_
    refine jr.iconst rfl ?_
    obtain ⟨v12, e12⟩ : ∃ z_, M ((t + 3)) 1 = z_ := ⟨_, rfl⟩
    have b12 : (-2147483648) ≤ v12 ∧ v12 ≤ 2147483647 := by rw [← e12]; exact (CI.r hC_M k11.2 (by decide) 1)
    refine jr.iald (i := 1) (x := v12) rfl (Nat.lt_trans (kx_5 k11.2).1 (by decide)) (kx_5 k11.2).2 (by decide) (by omega) (by omega) e12 ?_
    exact jr.ireturn rfl rfl rfl (q _ (by omega) (by unfold fgF; rw [if_neg (by omega), if_neg (by omega), if_neg (by omega), if_neg (by omega), if_neg (by omega), if_neg (by omega), if_pos (by omega)]; omega))
  · refine jr.tsw_k 7 rfl h1 rfl ?_
    refine jr.aload_n rfl rfl ?_
    have k13 := kf_1_9 k_t
    refine jr.getf (i := 9) (v := .ref (t + 5)) rfl rfl (Nat.lt_trans (kx_1 k_t).1 (by decide)) (kx_1 k_t).2 (by decide) rfl rfl rfl (jval_ref rfl k13.1) ?_
    refine jr.iconst rfl ?_
    obtain ⟨v14, e14⟩ : ∃ z_, M ((t + 5)) 0 = z_ := ⟨_, rfl⟩
    have b14 : (-2147483648) ≤ v14 ∧ v14 ≤ 2147483647 := by rw [← e14]; exact (CI.r hC_M k13.2 (by decide) 0)
    refine jr.iald (i := 0) (x := v14) rfl (Nat.lt_trans (kx_8 k13.2).1 (by decide)) (kx_8 k13.2).2 (by decide) (by omega) (by omega) e14 ?_
    exact jr.ireturn rfl rfl rfl (q _ (by omega) (by unfold fgF; rw [if_neg (by omega), if_neg (by omega), if_neg (by omega), if_neg (by omega), if_neg (by omega), if_neg (by omega), if_neg (by omega), if_pos (by omega)]; omega))
  · refine jr.tsw_k 8 rfl h1 rfl ?_
    refine jr.aload_n rfl rfl ?_
    have k15 := kf_1_9 k_t
    refine jr.getf (i := 9) (v := .ref (t + 5)) rfl rfl (Nat.lt_trans (kx_1 k_t).1 (by decide)) (kx_1 k_t).2 (by decide) rfl rfl rfl (jval_ref rfl k15.1) ?_
    refine jr.iconst rfl ?_
    obtain ⟨v16, e16⟩ : ∃ z_, M ((t + 5)) 1 = z_ := ⟨_, rfl⟩
    have b16 : (-2147483648) ≤ v16 ∧ v16 ≤ 2147483647 := by rw [← e16]; exact (CI.r hC_M k15.2 (by decide) 1)
    refine jr.iald (i := 1) (x := v16) rfl (Nat.lt_trans (kx_8 k15.2).1 (by decide)) (kx_8 k15.2).2 (by decide) (by omega) (by omega) e16 ?_
    exact jr.ireturn rfl rfl rfl (q _ (by omega) (by unfold fgF; rw [if_neg (by omega), if_neg (by omega), if_neg (by omega), if_neg (by omega), if_neg (by omega), if_neg (by omega), if_neg (by omega), if_neg (by omega), if_pos (by omega)]; omega))
  · refine jr.tsw_k 9 rfl h1 rfl ?_
    refine jr.aload_n rfl rfl ?_
    obtain ⟨v17, e17⟩ : ∃ z_, M t 15 = z_ := ⟨_, rfl⟩
    have b17 : (-2147483648) ≤ v17 ∧ v17 ≤ 2147483647 := by rw [← e17]; exact (CI.r hC_M k_t (by decide) 15)
    refine jr.getf (i := 15) (x := v17) (v := .int (Int32.ofInt (v17))) rfl rfl (Nat.lt_trans (kx_1 k_t).1 (by decide)) (kx_1 k_t).2 (by decide) rfl rfl e17 rfl ?_
    exact jr.ireturn rfl rfl rfl (q _ (by omega) (by unfold fgF; rw [if_neg (by omega), if_neg (by omega), if_neg (by omega), if_neg (by omega), if_neg (by omega), if_neg (by omega), if_neg (by omega), if_neg (by omega), if_neg (by omega), if_pos (by omega)]; omega))
  · refine jr.tsw_k 10 rfl h1 rfl ?_
    refine jr.aload_n rfl rfl ?_
    obtain ⟨v18, e18⟩ : ∃ z_, M t 1 = z_ := ⟨_, rfl⟩
    have b18 : 0 ≤ v18 ∧ v18 ≤ 1 := by rw [← e18]; exact (CI.r hC_M k_t (by decide) 1)
    refine jr.getf (i := 1) (x := v18) (v := .int (Int32.ofInt (v18))) rfl rfl (Nat.lt_trans (kx_1 k_t).1 (by decide)) (kx_1 k_t).2 (by decide) rfl rfl e18 rfl ?_
    refine jr.if_eq rfl rfl (by omega) (fun h128 => ?_) (fun h128 => ?_)
    · refine jr.iconst rfl ?_
      exact jr.ireturn rfl rfl rfl (q _ (by omega) (by unfold fgF; rw [if_neg (by omega), if_neg (by omega), if_neg (by omega), if_neg (by omega), if_neg (by omega), if_neg (by omega), if_neg (by omega), if_neg (by omega), if_neg (by omega), if_neg (by omega), if_pos (by omega)]; first | (rw [if_pos (by omega)]) | (rw [if_neg (by omega)])))
    · have sx128 : (1 : Int) ≤ v18 := by omega
      refine jr.iconst rfl ?_
      refine jr.goto rfl rfl ?_
      exact jr.ireturn rfl rfl rfl (q _ (by omega) (by unfold fgF; rw [if_neg (by omega), if_neg (by omega), if_neg (by omega), if_neg (by omega), if_neg (by omega), if_neg (by omega), if_neg (by omega), if_neg (by omega), if_neg (by omega), if_neg (by omega), if_pos (by omega)]; first | (rw [if_pos (by omega)]) | (rw [if_neg (by omega)])))
  · refine jr.tsw_d rfl (by omega) (by omega) rfl ?_
    refine jr.bipush rfl (by decide) ?_
    exact jr.ireturn rfl rfl rfl (q _ (by omega) (by unfold fgF; rw [if_neg (by omega), if_neg (by omega), if_neg (by omega), if_neg (by omega), if_neg (by omega), if_neg (by omega), if_neg (by omega), if_neg (by omega), if_neg (by omega), if_neg (by omega), if_neg (by omega)]))
theorem c_Flow_longFigure_x {A : Nat → Option (Nat × (Nat → Int32))} {Q : Option Value → jm → Prop} {M : jm} (hC_M : CI M) {t : Nat} (k_t : kd t = 1) {x : Int} (h_x : (-2147483648) ≤ x ∧ x ≤ 2147483647) (q : ∀ (r : Int), (-9223372036854775808) ≤ r ∧ r ≤ 9223372036854775807 → (r = fgL M t x) → Q (some (.long (Int64.ofInt r))) M) : jc A 1 63 [.ref (t), .int (Int32.ofInt (x))] M Q := by
  refine jc_of (m := xm_63) rfl (Nat.le_of_ble_eq_true rfl) rfl ?_
  refine jr.iload_n rfl rfl ?_
  rcases (show x = 0 ∨ x = 1 ∨ x = 2 ∨ x = 3 ∨ x = 4 ∨ x = 5 ∨ (x ≠ 0 ∧ x ≠ 1 ∧ x ≠ 2 ∧ x ≠ 3 ∧ x ≠ 4 ∧ x ≠ 5) by omega) with h1 | h1 | h1 | h1 | h1 | h1 | h1
  · refine jr.tsw_k 0 rfl h1 rfl ?_
    refine jr.aload_n rfl rfl ?_
    have k1 := kf_1_3 k_t
    refine jr.getf (i := 3) (v := .ref (t + 1)) rfl rfl (Nat.lt_trans (kx_1 k_t).1 (by decide)) (kx_1 k_t).2 (by decide) rfl rfl rfl (jval_ref rfl k1.1) ?_
    refine jr.iconst rfl ?_
    obtain ⟨v2, e2⟩ : ∃ z_, M ((t + 1)) 0 = z_ := ⟨_, rfl⟩
    have b2 : (-9223372036854775808) ≤ v2 ∧ v2 ≤ 9223372036854775807 := by rw [← e2]; exact (CI.r hC_M k1.2 (by decide) 0)
    refine jr.lald (i := 0) (x := v2) rfl (Nat.lt_trans (kx_2 k1.2).1 (by decide)) (kx_2 k1.2).2 (by decide) (by omega) (by omega) e2 ?_
    exact jr.lreturn rfl rfl (q _ (by omega) (by unfold fgL; rw [if_pos (by omega)]; omega))
  · refine jr.tsw_k 1 rfl h1 rfl ?_
    refine jr.aload_n rfl rfl ?_
    have k3 := kf_1_3 k_t
    refine jr.getf (i := 3) (v := .ref (t + 1)) rfl rfl (Nat.lt_trans (kx_1 k_t).1 (by decide)) (kx_1 k_t).2 (by decide) rfl rfl rfl (jval_ref rfl k3.1) ?_
    refine jr.iconst rfl ?_
    obtain ⟨v4, e4⟩ : ∃ z_, M ((t + 1)) 1 = z_ := ⟨_, rfl⟩
    have b4 : (-9223372036854775808) ≤ v4 ∧ v4 ≤ 9223372036854775807 := by rw [← e4]; exact (CI.r hC_M k3.2 (by decide) 1)
    refine jr.lald (i := 1) (x := v4) rfl (Nat.lt_trans (kx_2 k3.2).1 (by decide)) (kx_2 k3.2).2 (by decide) (by omega) (by omega) e4 ?_
    exact jr.lreturn rfl rfl (q _ (by omega) (by unfold fgL; rw [if_neg (by omega), if_pos (by omega)]; omega))
  · refine jr.tsw_k 2 rfl h1 rfl ?_
    refine jr.aload_n rfl rfl ?_
    have k5 := kf_1_10 k_t
    refine jr.getf (i := 10) (v := .ref (t + 6)) rfl rfl (Nat.lt_trans (kx_1 k_t).1 (by decide)) (kx_1 k_t).2 (by decide) rfl rfl rfl (jval_ref rfl k5.1) ?_
    refine jr.iconst rfl ?_
    obtain ⟨v6, e6⟩ : ∃ z_, M ((t + 6)) 0 = z_ := ⟨_, rfl⟩
    have b6 : (-9223372036854775808) ≤ v6 ∧ v6 ≤ 9223372036854775807 := by rw [← e6]; exact (CI.r hC_M k5.2 (by decide) 0)
    refine jr.lald (i := 0) (x := v6) rfl (Nat.lt_trans (kx_6 k5.2).1 (by decide)) (kx_6 k5.2).2 (by decide) (by omega) (by omega) e6 ?_
    exact jr.lreturn rfl rfl (q _ (by omega) (by unfold fgL; rw [if_neg (by omega), if_neg (by omega), if_pos (by omega)]; omega))
  · refine jr.tsw_k 3 rfl h1 rfl ?_
    refine jr.aload_n rfl rfl ?_
    have k7 := kf_1_10 k_t
    refine jr.getf (i := 10) (v := .ref (t + 6)) rfl rfl (Nat.lt_trans (kx_1 k_t).1 (by decide)) (kx_1 k_t).2 (by decide) rfl rfl rfl (jval_ref rfl k7.1) ?_
    refine jr.iconst rfl ?_
    obtain ⟨v8, e8⟩ : ∃ z_, M ((t + 6)) 1 = z_ := ⟨_, rfl⟩
    have b8 : (-9223372036854775808) ≤ v8 ∧ v8 ≤ 9223372036854775807 := by rw [← e8]; exact (CI.r hC_M k7.2 (by decide) 1)
    refine jr.lald (i := 1) (x := v8) rfl (Nat.lt_trans (kx_6 k7.2).1 (by decide)) (kx_6 k7.2).2 (by decide) (by omega) (by omega) e8 ?_
    exact jr.lreturn rfl rfl (q _ (by omega) (by unfold fgL; rw [if_neg (by omega), if_neg (by omega), if_neg (by omega), if_pos (by omega)]; omega))
  · refine jr.tsw_k 4 rfl h1 rfl ?_
    refine jr.aload_n rfl rfl ?_
    have k9 := kf_1_11 k_t
    refine jr.getf (i := 11) (v := .ref (t + 7)) rfl rfl (Nat.lt_trans (kx_1 k_t).1 (by decide)) (kx_1 k_t).2 (by decide) rfl rfl rfl (jval_ref rfl k9.1) ?_
    refine jr.iconst rfl ?_
    obtain ⟨v10, e10⟩ : ∃ z_, M ((t + 7)) 0 = z_ := ⟨_, rfl⟩
    have b10 : (-9223372036854775808) ≤ v10 ∧ v10 ≤ 9223372036854775807 := by rw [← e10]; exact (CI.r hC_M k9.2 (by decide) 0)
    refine jr.lald (i := 0) (x := v10) rfl (Nat.lt_trans (kx_3 k9.2).1 (by decide)) (kx_3 k9.2).2 (by decide) (by omega) (by omega) e10 ?_
    exact jr.lreturn rfl rfl (q _ (by omega) (by unfold fgL; rw [if_neg (by omega), if_neg (by omega), if_neg (by omega), if_neg (by omega), if_pos (by omega)]; omega))
  · refine jr.tsw_k 5 rfl h1 rfl ?_
    refine jr.aload_n rfl rfl ?_
    have k11 := kf_1_11 k_t
    refine jr.getf (i := 11) (v := .ref (t + 7)) rfl rfl (Nat.lt_trans (kx_1 k_t).1 (by decide)) (kx_1 k_t).2 (by decide) rfl rfl rfl (jval_ref rfl k11.1) ?_
    refine jr.iconst rfl ?_
    obtain ⟨v12, e12⟩ : ∃ z_, M ((t + 7)) 1 = z_ := ⟨_, rfl⟩
    have b12 : (-9223372036854775808) ≤ v12 ∧ v12 ≤ 9223372036854775807 := by rw [← e12]; exact (CI.r hC_M k11.2 (by decide) 1)
    refine jr.lald (i := 1) (x := v12) rfl (Nat.lt_trans (kx_3 k11.2).1 (by decide)) (kx_3 k11.2).2 (by decide) (by omega) (by omega) e12 ?_
    exact jr.lreturn rfl rfl (q _ (by omega) (by unfold fgL; rw [if_neg (by omega), if_neg (by omega), if_neg (by omega), if_neg (by omega), if_neg (by omega), if_pos (by omega)]; omega))
  · refine jr.tsw_d rfl (by omega) (by omega) rfl ?_
    refine jr.ldc2 (x := (-1)) rfl rfl (by decide) ?_
    exact jr.lreturn rfl rfl (q _ (by omega) (by unfold fgL; rw [if_neg (by omega), if_neg (by omega), if_neg (by omega), if_neg (by omega), if_neg (by omega), if_neg (by omega)]))
theorem c_PacketWall_flow_x {A : Nat → Option (Nat × (Nat → Int32))} {Q : Option Value → jm → Prop} {M : jm} (hC_M : CI M) {x : Int} (h_x : (-2147483648) ≤ x ∧ x ≤ 2147483647) {y : Int} (h_y : (-2147483648) ≤ y ∧ y ≤ 2147483647) {V : Int} (g_V : M 15 0 = V) (q : ∀ (r : Int), (-2147483648) ≤ r ∧ r ≤ 2147483647 → (((x < 0 ∨ 23 < x ∨ M (xe (V.toNat) x) 0 = 0) ∧ r = -2) ∨ (((0 ≤ x ∧ x ≤ 23) ∧ M (xe (V.toNat) x) 0 ≠ 0) ∧ r = fgF M (xe (V.toNat) x) y (M 0 8))) → Q (some (.int (Int32.ofInt r))) M) : jc A 2 20 [.ref (0), .int (Int32.ofInt (x)), .int (Int32.ofInt (y))] M Q := by
  refine jc_of (m := xm_20) rfl (Nat.le_of_ble_eq_true rfl) rfl ?_
  have b_V : 16 ≤ V ∧ V ≤ 17 := by rw [← g_V]; exact (CI.r hC_M (show kd 15 = 9 from rfl) (by decide) 0)
  refine jr.aload_n rfl rfl ?_
  refine jr.getf (i := 9) (v := .ref 15) rfl rfl (by decide) rfl (by decide) rfl rfl rfl rfl ?_
  refine jr.iload_n rfl rfl ?_
  refine jr_v rfl rfl (Or.inl rfl) rfl rfl (by decide) rfl ⟨rfl, Nat.le_of_ble_eq_true rfl, Nat.le_of_ble_eq_true rfl⟩ rfl (jc.deep (c_Flows_isLive_x hC_M (by omega) g_V (fun r1 z1 w1_0 w1_1 => ?_)) (by decide))
  refine jr.if_ne rfl rfl (by omega) (fun h8 => ?_) (fun h8 => ?_)
  · have sx8 : (1 : Int) ≤ r1 := by omega
    refine jr.aload_n rfl rfl ?_
    refine jr.getf (i := 9) (v := .ref 15) rfl rfl (by decide) rfl (by decide) rfl rfl rfl rfl ?_
    have k2 : kd (V).toNat = 13 := by rcases (show V = 16 ∨ V = 17 by omega) with h | h <;> (rw [h]; rfl)
    refine jr.getf (i := 0) (x := V) (v := .ref (V.toNat)) rfl rfl (by decide) rfl (by decide) rfl rfl g_V rfl ?_
    refine jr.iload_n rfl rfl ?_
    have k3 := kxe_13 k2 (i := x) (by omega) (by omega)
    refine jr.aald (c := (xe ((V.toNat)) x)) rfl (Nat.lt_trans (kx_13 k2).1 (by decide)) (kx_13 k2).2 (by decide) (by decide) rfl (by decide) (by omega) (by omega) k3.1 ?_
    refine jr.iload_n rfl rfl ?_
    refine jr.aload_n rfl rfl ?_
    obtain ⟨v4, e4⟩ : ∃ z_, M 0 8 = z_ := ⟨_, rfl⟩
    have b4 : (-2147483648) ≤ v4 ∧ v4 ≤ 2147483647 := by rw [← e4]; exact (CI.r hC_M (show kd 0 = 35 from rfl) (by decide) 8)
    refine jr.getf (i := 8) (x := v4) (v := .int (Int32.ofInt (v4))) rfl rfl (by decide) rfl (by decide) rfl rfl e4 rfl ?_
    refine jr_v rfl rfl (Or.inl rfl) rfl rfl (Nat.lt_trans (kx_1 k3.2).1 (by decide)) (kx_1 k3.2).2 ⟨rfl, Nat.le_of_ble_eq_true rfl, Nat.le_of_ble_eq_true rfl⟩ rfl (jc.deep (c_Flow_figure_x hC_M k3.2 (by omega) (by omega) (fun r5 z5 w5_0 => ?_)) (by decide))
    exact jr.ireturn rfl rfl rfl (q _ (by omega) (Or.inr ⟨by omega, by rw [e4]; exact w5_0⟩))
  · refine jr.bipush rfl (by decide) ?_
    exact jr.ireturn rfl rfl rfl (q _ (by omega) (Or.inl ⟨by omega, by omega⟩))
theorem c_PacketWall_flowed_x {A : Nat → Option (Nat × (Nat → Int32))} {Q : Option Value → jm → Prop} {M : jm} (hC_M : CI M) {x : Int} (h_x : (-2147483648) ≤ x ∧ x ≤ 2147483647) {y : Int} (h_y : (-2147483648) ≤ y ∧ y ≤ 2147483647) {V : Int} (g_V : M 15 0 = V) (q : ∀ (r : Int), (-9223372036854775808) ≤ r ∧ r ≤ 9223372036854775807 → (((x < 0 ∨ 23 < x ∨ M (xe (V.toNat) x) 0 = 0) ∧ r = -1) ∨ (((0 ≤ x ∧ x ≤ 23) ∧ M (xe (V.toNat) x) 0 ≠ 0) ∧ r = fgL M (xe (V.toNat) x) y)) → Q (some (.long (Int64.ofInt r))) M) : jc A 2 21 [.ref (0), .int (Int32.ofInt (x)), .int (Int32.ofInt (y))] M Q := by
  refine jc_of (m := xm_21) rfl (Nat.le_of_ble_eq_true rfl) rfl ?_
  have b_V : 16 ≤ V ∧ V ≤ 17 := by rw [← g_V]; exact (CI.r hC_M (show kd 15 = 9 from rfl) (by decide) 0)
  refine jr.aload_n rfl rfl ?_
  refine jr.getf (i := 9) (v := .ref 15) rfl rfl (by decide) rfl (by decide) rfl rfl rfl rfl ?_
  refine jr.iload_n rfl rfl ?_
  refine jr_v rfl rfl (Or.inl rfl) rfl rfl (by decide) rfl ⟨rfl, Nat.le_of_ble_eq_true rfl, Nat.le_of_ble_eq_true rfl⟩ rfl (jc.deep (c_Flows_isLive_x hC_M (by omega) g_V (fun r1 z1 w1_0 w1_1 => ?_)) (by decide))
  refine jr.if_eq rfl rfl (by omega) (fun h8 => ?_) (fun h8 => ?_)
  · refine jr.ldc2 (x := (-1)) rfl rfl (by decide) ?_
    exact jr.lreturn rfl rfl (q _ (by omega) (Or.inl ⟨by omega, by omega⟩))
  · have sx8 : (1 : Int) ≤ r1 := by omega
    refine jr.aload_n rfl rfl ?_
    refine jr.getf (i := 9) (v := .ref 15) rfl rfl (by decide) rfl (by decide) rfl rfl rfl rfl ?_
    have k2 : kd (V).toNat = 13 := by rcases (show V = 16 ∨ V = 17 by omega) with h | h <;> (rw [h]; rfl)
    refine jr.getf (i := 0) (x := V) (v := .ref (V.toNat)) rfl rfl (by decide) rfl (by decide) rfl rfl g_V rfl ?_
    refine jr.iload_n rfl rfl ?_
    have k3 := kxe_13 k2 (i := x) (by omega) (by omega)
    refine jr.aald (c := (xe ((V.toNat)) x)) rfl (Nat.lt_trans (kx_13 k2).1 (by decide)) (kx_13 k2).2 (by decide) (by decide) rfl (by decide) (by omega) (by omega) k3.1 ?_
    refine jr.iload_n rfl rfl ?_
    refine jr_v rfl rfl (Or.inl rfl) rfl rfl (Nat.lt_trans (kx_1 k3.2).1 (by decide)) (kx_1 k3.2).2 ⟨rfl, Nat.le_of_ble_eq_true rfl, Nat.le_of_ble_eq_true rfl⟩ rfl (jc.deep (c_Flow_longFigure_x hC_M k3.2 (by omega) (fun r4 z4 w4_0 => ?_)) (by decide))
    refine jr.goto rfl rfl ?_
    exact jr.lreturn rfl rfl (q _ (by omega) (Or.inr ⟨by omega, w4_0⟩))
noncomputable def W_c_PacketWall_close_x : List (Nat × Nat) := [(1, 0)]
theorem c_PacketWall_close_x {A : Nat → Option (Nat × (Nat → Int32))} {Q : Option Value → jm → Prop} {T : jm} {M : jm} (hC_M : CI M) (ht_M : FR W_c_PacketWall_close_x T M) {x : Int} (h_x : (-2147483648) ≤ x ∧ x ≤ 2147483647) {V : Int} (g_V : M 15 0 = V) (p0 : T = M) (q : ∀ (r : Int) (M' : jm), CI M' → FR W_c_PacketWall_close_x T M' → (-2147483648) ≤ r ∧ r ≤ 2147483647 → (((x < 0 ∨ 23 < x ∨ T (xe (V.toNat) x) 0 = 0) ∧ r = -2 ∧ M' = T) ∨ (((0 ≤ x ∧ x ≤ 23) ∧ T (xe (V.toNat) x) 0 ≠ 0) ∧ r = 1 ∧ M' = ju T (xe (V.toNat) x) 0 0)) → Q (some (.int (Int32.ofInt r))) M') : jc A 2 22 [.ref (0), .int (Int32.ofInt (x))] M Q := by
  refine jc_of (m := xm_22) rfl (Nat.le_of_ble_eq_true rfl) rfl ?_
  have b_V : 16 ≤ V ∧ V ≤ 17 := by rw [← g_V]; exact (CI.r hC_M (show kd 15 = 9 from rfl) (by decide) 0)
  refine jr.aload_n rfl rfl ?_
  refine jr.getf (i := 9) (v := .ref 15) rfl rfl (by decide) rfl (by decide) rfl rfl rfl rfl ?_
  refine jr.iload_n rfl rfl ?_
  refine jr_v rfl rfl (Or.inl rfl) rfl rfl (by decide) rfl ⟨rfl, Nat.le_of_ble_eq_true rfl, Nat.le_of_ble_eq_true rfl⟩ rfl (jc.deep (c_Flows_isLive_x hC_M (by omega) g_V (fun r1 z1 w1_0 w1_1 => ?_)) (by decide))
  refine jr.if_ne rfl rfl (by omega) (fun h8 => ?_) (fun h8 => ?_)
  · have sx8 : (1 : Int) ≤ r1 := by omega
    refine jr.aload_n rfl rfl ?_
    refine jr.getf (i := 9) (v := .ref 15) rfl rfl (by decide) rfl (by decide) rfl rfl rfl rfl ?_
    have k2 : kd (V).toNat = 13 := by rcases (show V = 16 ∨ V = 17 by omega) with h | h <;> (rw [h]; rfl)
    refine jr.getf (i := 0) (x := V) (v := .ref (V.toNat)) rfl rfl (by decide) rfl (by decide) rfl rfl g_V rfl ?_
    refine jr.iload_n rfl rfl ?_
    have k3 := kxe_13 k2 (i := x) (by omega) (by omega)
    refine jr.aald (c := (xe ((V.toNat)) x)) rfl (Nat.lt_trans (kx_13 k2).1 (by decide)) (kx_13 k2).2 (by decide) (by decide) rfl (by decide) (by omega) (by omega) k3.1 ?_
    refine jr.iconst rfl ?_
    refine jr.putf (i := 0) (x := 0) rfl rfl (Nat.lt_trans (kx_1 k3.2).1 (by decide)) (kx_1 k3.2).2 (by decide) rfl rfl rfl rfl rfl ?_
    refine jr.iconst rfl ?_
    exact jr.ireturn rfl rfl rfl (q _ _ (CI.u hC_M (i := 0) k3.2 (show (0 : Int) ≤ _ ∧ _ ≤ (1 : Int) from by omega) rfl) (FR.o ht_M k3.2 rfl) (by omega) (Or.inr ⟨by rw [p0]; omega, by omega, by rw [p0]⟩))
  · refine jr.bipush rfl (by decide) ?_
    exact jr.ireturn rfl rfl rfl (q _ _ hC_M ht_M (by omega) (Or.inl ⟨by rw [p0]; omega, by omega, p0.symm⟩))
/-- a flow that is changed by pool k, from f on -/
noncomputable def pu (M : jm) (V : Nat) (k : Int) : Nat → Int → Int
  | 0, _ => 0
  | n + 1, i => if M (xe V i) 0 ≠ 0 ∧ M (xe V i) 13 = k then 1 else pu M V k n (i + 1)
theorem pu_s {M : jm} {V : Nat} {k i : Int} (h : i < 24) : pu M V k (24 - i).toNat i = if M (xe V i) 0 ≠ 0 ∧ M (xe V i) 13 = k then 1 else pu M V k (24 - (i + 1)).toNat (i + 1) := by
  obtain ⟨n, hn⟩ : ∃ n : Nat, i = 23 - n := ⟨(23 - i).toNat, by omega⟩
  subst hn
  rw [show (24 - (23 - (n : Int))).toNat = n + 1 by omega, show (24 - (23 - (n : Int) + 1)).toNat = n by omega]
  rfl
/-- a port that is taken, from f on -/
noncomputable def tk (M : jm) (V : Nat) (a o : Int) : Nat → Int → Int
  | 0, _ => 0
  | n + 1, i => if M (xe V i) 0 ≠ 0 ∧ M (xe V i) 13 ≠ -1 ∧ M (xe V i) 14 = a ∧ M (xe V i) 15 = o then 1 else tk M V a o n (i + 1)
theorem tk_s {M : jm} {V : Nat} {a o i : Int} (h : i < 24) : tk M V a o (24 - i).toNat i = if M (xe V i) 0 ≠ 0 ∧ M (xe V i) 13 ≠ -1 ∧ M (xe V i) 14 = a ∧ M (xe V i) 15 = o then 1 else tk M V a o (24 - (i + 1)).toNat (i + 1) := by
  obtain ⟨n, hn⟩ : ∃ n : Nat, i = 23 - n := ⟨(23 - i).toNat, by omega⟩
  subst hn
  rw [show (24 - (23 - (n : Int))).toNat = n + 1 by omega, show (24 - (23 - (n : Int) + 1)).toNat = n by omega]
  rfl
noncomputable def W_c_Flows_layPool_x : List (Nat × Nat) := [(10, 1000), (11, 1000), (12, 1000)]
theorem c_Flows_layPool_x_L44 {A : Nat → Option (Nat × (Nat → Int32))} {Q : Option Value → jm → Prop} {T : jm} {V : Int} {u : Int} {x : Int} {y : Int} {z : Int} (q : ∀ (r : Int) (M' : jm), CI M' → FR W_c_Flows_layPool_x T M' → (-2147483648) ≤ r ∧ r ≤ 2147483647 → ((¬ ((0 ≤ x ∧ x ≤ 3) ∧ (1 ≤ u ∧ u ≤ 32) ∧ (1 ≤ z ∧ z + u ≤ 65536)) ∧ r = -3 ∧ M' = T) ∨ (((0 ≤ x ∧ x ≤ 3) ∧ (1 ≤ u ∧ u ≤ 32) ∧ (1 ≤ z ∧ z + u ≤ 65536)) ∧ pu T V.toNat x 24 0 = 1 ∧ r = -4 ∧ M' = T) ∨ (((0 ≤ x ∧ x ≤ 3) ∧ (1 ≤ u ∧ u ≤ 32) ∧ (1 ≤ z ∧ z + u ≤ 65536)) ∧ pu T V.toNat x 24 0 ≠ 1 ∧ r = u ∧ M' = ju (ju (ju T 26 x y) 27 x z) 28 x u)) → Q (some (.int (Int32.ofInt r))) M') : ∀ (nM : Nat) (M : jm) (i : Int), CI M → FR W_c_Flows_layPool_x T M → 0 ≤ x ∧ x ≤ 3 → (-9223372036854775808) ≤ y ∧ y ≤ 9223372036854775807 → 1 ≤ z ∧ z ≤ 65535 → 1 ≤ u ∧ u ≤ 32 → 0 ≤ i ∧ i ≤ 24 → M 15 0 = V → (pu T V.toNat x 24 0 = pu T V.toNat x (24 - i).toNat i) → (M = T) → (z + u ≤ 65536) → 24 - i ≤ nM → jr A 0 xm_80 44 [(1, .int (Int32.ofInt (x))), (2, .long (Int64.ofInt (y))), (4, .int (Int32.ofInt (z))), (5, .int (Int32.ofInt (u))), (6, .int (Int32.ofInt (i))), (0, .ref (15))] [] M Q := by
  intro nM
  induction nM using Nat.strongRecOn with
  | ind nM ih =>
    intro M i hC_M ht_M h_x h_y h_z h_u h_i g_V hy0 hy1 hy2 hm
    have b_V : 16 ≤ V ∧ V ≤ 17 := by rw [← g_V]; exact (CI.r hC_M (show kd 15 = 9 from rfl) (by decide) 0)
    refine jr.iload rfl rfl ?_
    refine jr.bipush rfl (by decide) ?_
    refine jr.icmp_ge rfl rfl (by omega) (by omega) (fun h48 => ?_) (fun h48 => ?_)
    · refine jr.aload_n rfl rfl ?_
      refine jr.getf (i := 6) (v := .ref 26) rfl rfl (by decide) rfl (by decide) rfl rfl rfl rfl ?_
      refine jr.iload_n rfl rfl ?_
      refine jr.lload_n rfl rfl ?_
      refine jr.last (i := x) (x := y) rfl (by decide) rfl (by decide) (by omega) (by omega) ?_
      refine jr.aload_n rfl rfl ?_
      refine jr.getf (i := 7) (v := .ref 27) rfl rfl (by decide) rfl (by decide) rfl rfl rfl rfl ?_
      refine jr.iload_n rfl rfl ?_
      refine jr.iload rfl rfl ?_
      refine jr.iast (i := x) (x := z) rfl (by decide) rfl (by decide) (by omega) (by omega) ?_
      refine jr.aload_n rfl rfl ?_
      refine jr.getf (i := 8) (v := .ref 28) rfl rfl (by decide) rfl (by decide) rfl rfl rfl rfl ?_
      refine jr.iload_n rfl rfl ?_
      refine jr.iload rfl rfl ?_
      refine jr.iast (i := x) (x := u) rfl (by decide) rfl (by decide) (by omega) (by omega) ?_
      refine jr.iload rfl rfl ?_
      exact jr.ireturn rfl rfl rfl (q _ _ (CI.u (CI.u (CI.u hC_M (i := x) (show kd 26 = 10 from rfl) (show (-9223372036854775808 : Int) ≤ _ ∧ _ ≤ (9223372036854775807 : Int) from by omega) rfl) (i := x) (show kd 27 = 11 from rfl) (show (-2147483648 : Int) ≤ _ ∧ _ ≤ (2147483647 : Int) from by omega) rfl) (i := x) (show kd 28 = 12 from rfl) (show (0 : Int) ≤ _ ∧ _ ≤ (32 : Int) from by omega) rfl) (FR.o (FR.o (FR.o ht_M (show kd 26 = 10 from rfl) rfl) (show kd 27 = 11 from rfl) rfl) (show kd 28 = 12 from rfl) rfl) (by omega) (Or.inr (Or.inr ⟨by omega, by rw [hy0, show (24 - i).toNat = 0 from by omega]; show (0 : Int) ≠ 1; decide, by omega, by rw [hy1]⟩)))
    · refine jr.aload_n rfl rfl ?_
      have k1 : kd (V).toNat = 13 := by rcases (show V = 16 ∨ V = 17 by omega) with h | h <;> (rw [h]; rfl)
      refine jr.getf (i := 0) (x := V) (v := .ref (V.toNat)) rfl rfl (by decide) rfl (by decide) rfl rfl g_V rfl ?_
      refine jr.iload rfl rfl ?_
      have k2 := kxe_13 k1 (i := i) (by omega) (by omega)
      refine jr.aald (c := (xe ((V.toNat)) i)) rfl (Nat.lt_trans (kx_13 k1).1 (by decide)) (kx_13 k1).2 (by decide) (by decide) rfl (by decide) (by omega) (by omega) k2.1 ?_
      obtain ⟨v3, e3⟩ : ∃ z_, M ((xe ((V.toNat)) i)) 0 = z_ := ⟨_, rfl⟩
      have b3 : 0 ≤ v3 ∧ v3 ≤ 1 := by rw [← e3]; exact (CI.r hC_M k2.2 (by decide) 0)
      refine jr.getf (i := 0) (x := v3) (v := .int (Int32.ofInt (v3))) rfl rfl (Nat.lt_trans (kx_1 k2.2).1 (by decide)) (kx_1 k2.2).2 (by decide) rfl rfl e3 rfl ?_
      refine jr.if_eq rfl rfl (by omega) (fun h61 => ?_) (fun h61 => ?_)
      · refine jr.iinc rfl rfl (by decide) rfl ?_
        refine jr.goto rfl rfl ?_
        refine jr.pick [1, 2, 3, 4, 0, 5] rfl rfl ?_
        exact ih (nM - 1) (by omega) M (i + 1) hC_M ht_M (by omega) (by omega) (by omega) (by omega) (by omega) g_V (by rw [hy0, ← hy1, pu_s (by omega), if_neg (by omega)]) hy1 (by omega) (by omega)
      · have sx61 : (1 : Int) ≤ v3 := by omega
        refine jr.aload_n rfl rfl ?_
        have k4 : kd (V).toNat = 13 := by rcases (show V = 16 ∨ V = 17 by omega) with h | h <;> (rw [h]; rfl)
        refine jr.getf (i := 0) (x := V) (v := .ref (V.toNat)) rfl rfl (by decide) rfl (by decide) rfl rfl g_V rfl ?_
        refine jr.iload rfl rfl ?_
        have k5 := kxe_13 k4 (i := i) (by omega) (by omega)
        refine jr.aald (c := (xe ((V.toNat)) i)) rfl (Nat.lt_trans (kx_13 k4).1 (by decide)) (kx_13 k4).2 (by decide) (by decide) rfl (by decide) (by omega) (by omega) k5.1 ?_
        obtain ⟨v6, e6⟩ : ∃ z_, M ((xe ((V.toNat)) i)) 13 = z_ := ⟨_, rfl⟩
        have b6 : (-2147483648) ≤ v6 ∧ v6 ≤ 2147483647 := by rw [← e6]; exact (CI.r hC_M k5.2 (by decide) 13)
        refine jr.getf (i := 13) (x := v6) (v := .int (Int32.ofInt (v6))) rfl rfl (Nat.lt_trans (kx_1 k5.2).1 (by decide)) (kx_1 k5.2).2 (by decide) rfl rfl e6 rfl ?_
        refine jr.iload_n rfl rfl ?_
        refine jr.icmp_ne rfl rfl (by omega) (by omega) (fun h75 => ?_) (fun h75 => ?_)
        · refine jr.iinc rfl rfl (by decide) rfl ?_
          refine jr.goto rfl rfl ?_
          refine jr.pick [1, 2, 3, 4, 0, 5] rfl rfl ?_
          exact ih (nM - 1) (by omega) M (i + 1) hC_M ht_M (by omega) (by omega) (by omega) (by omega) (by omega) g_V (by rw [hy0, ← hy1, pu_s (by omega), if_neg (by omega)]) hy1 (by omega) (by omega)
        · refine jr.bipush rfl (by decide) ?_
          exact jr.ireturn rfl rfl rfl (q _ _ hC_M ht_M (by omega) (Or.inr (Or.inl ⟨by omega, by rw [hy0, ← hy1, pu_s (by omega), if_pos (by omega)], by omega, hy1⟩)))
theorem c_Flows_layPool_x {A : Nat → Option (Nat × (Nat → Int32))} {Q : Option Value → jm → Prop} {T : jm} {M : jm} (hC_M : CI M) (ht_M : FR W_c_Flows_layPool_x T M) {x : Int} (h_x : (-2147483648) ≤ x ∧ x ≤ 2147483647) {y : Int} (h_y : (-9223372036854775808) ≤ y ∧ y ≤ 9223372036854775807) {z : Int} (h_z : (-2147483648) ≤ z ∧ z ≤ 2147483647) {u : Int} (h_u : (-2147483648) ≤ u ∧ u ≤ 2147483647) {V : Int} (g_V : M 15 0 = V) (p0 : T = M) (q : ∀ (r : Int) (M' : jm), CI M' → FR W_c_Flows_layPool_x T M' → (-2147483648) ≤ r ∧ r ≤ 2147483647 → ((¬ ((0 ≤ x ∧ x ≤ 3) ∧ (1 ≤ u ∧ u ≤ 32) ∧ (1 ≤ z ∧ z + u ≤ 65536)) ∧ r = -3 ∧ M' = T) ∨ (((0 ≤ x ∧ x ≤ 3) ∧ (1 ≤ u ∧ u ≤ 32) ∧ (1 ≤ z ∧ z + u ≤ 65536)) ∧ pu T V.toNat x 24 0 = 1 ∧ r = -4 ∧ M' = T) ∨ (((0 ≤ x ∧ x ≤ 3) ∧ (1 ≤ u ∧ u ≤ 32) ∧ (1 ≤ z ∧ z + u ≤ 65536)) ∧ pu T V.toNat x 24 0 ≠ 1 ∧ r = u ∧ M' = ju (ju (ju T 26 x y) 27 x z) 28 x u)) → Q (some (.int (Int32.ofInt r))) M') : jc A 1 80 [.ref (15), .int (Int32.ofInt (x)), .long (Int64.ofInt (y)), .int (Int32.ofInt (z)), .int (Int32.ofInt (u))] M Q := by
  refine jc_of (m := xm_80) rfl (Nat.le_of_ble_eq_true rfl) rfl ?_
  have b_V : 16 ≤ V ∧ V ≤ 17 := by rw [← g_V]; exact (CI.r hC_M (show kd 15 = 9 from rfl) (by decide) 0)
  refine jr.iload_n rfl rfl ?_
  refine jr.if_lt rfl rfl (by omega) (fun h1 => ?_) (fun h1 => ?_)
  · refine jr.bipush rfl (by decide) ?_
    exact jr.ireturn rfl rfl rfl (q _ _ hC_M ht_M (by omega) (Or.inl ⟨by omega, by omega, p0.symm⟩))
  · refine jr.iload_n rfl rfl ?_
    refine jr.iconst rfl ?_
    refine jr.icmp_ge rfl rfl (by omega) (by omega) (fun h6 => ?_) (fun h6 => ?_)
    · refine jr.bipush rfl (by decide) ?_
      exact jr.ireturn rfl rfl rfl (q _ _ hC_M ht_M (by omega) (Or.inl ⟨by omega, by omega, p0.symm⟩))
    · refine jr.iload rfl rfl ?_
      refine jr.iconst rfl ?_
      refine jr.icmp_lt rfl rfl (by omega) (by omega) (fun h12 => ?_) (fun h12 => ?_)
      · refine jr.bipush rfl (by decide) ?_
        exact jr.ireturn rfl rfl rfl (q _ _ hC_M ht_M (by omega) (Or.inl ⟨by omega, by omega, p0.symm⟩))
      · refine jr.iload rfl rfl ?_
        refine jr.bipush rfl (by decide) ?_
        refine jr.icmp_gt rfl rfl (by omega) (by omega) (fun h19 => ?_) (fun h19 => ?_)
        · refine jr.bipush rfl (by decide) ?_
          exact jr.ireturn rfl rfl rfl (q _ _ hC_M ht_M (by omega) (Or.inl ⟨by omega, by omega, p0.symm⟩))
        · refine jr.iload rfl rfl ?_
          refine jr.iconst rfl ?_
          refine jr.icmp_lt rfl rfl (by omega) (by omega) (fun h25 => ?_) (fun h25 => ?_)
          · refine jr.bipush rfl (by decide) ?_
            exact jr.ireturn rfl rfl rfl (q _ _ hC_M ht_M (by omega) (Or.inl ⟨by omega, by omega, p0.symm⟩))
          · refine jr.iload rfl rfl ?_
            refine jr.ldc (x := 65536) rfl rfl (by decide) ?_
            refine jr.iload rfl rfl ?_
            refine jr.isub rfl ?_
            refine jr.icmp_le rfl rfl (by omega) (by omega) (fun h35 => ?_) (fun h35 => ?_)
            · refine jr.iconst rfl ?_
              refine jr.istore rfl (by decide) rfl ?_
              refine jr.pick [2, 3, 4, 5, 0, 1] rfl rfl ?_
              exact c_Flows_layPool_x_L44  q 24 M 0 hC_M ht_M (by omega) (by omega) (by omega) (by omega) (by omega) g_V rfl p0.symm (by omega) (by omega)
            · refine jr.bipush rfl (by decide) ?_
              exact jr.ireturn rfl rfl rfl (q _ _ hC_M ht_M (by omega) (Or.inl ⟨by omega, by omega, p0.symm⟩))
theorem jl_and_32 (x : Int) : jl_and x 4294967295 = x % 4294967296 := by
  unfold jl_and
  have hN : (Int64.ofInt x &&& Int64.ofInt 4294967295).toBitVec.toNat = (x % 18446744073709551616).toNat % 2 ^ 32 := by
    rw [Int64.toBitVec_and, BitVec.toNat_and, jbl_tn, jbl_tn]
    exact Nat.and_two_pow_sub_one_eq_mod _ 32
  rw [jbl_ti, hN]
  split <;> omega
/-- the first port of a pool that is free, from i on -/
noncomputable def chf (M : jm) (V : Nat) (a p : Int) : Nat → Int → Int
  | 0, _ => -1
  | n + 1, i => if tk M V a (p + i) 24 0 = 0 then i else chf M V a p n (i + 1)
theorem chf_s {M : jm} {V : Nat} {a p L i : Int} (h : i < L) : chf M V a p (L - i).toNat i = if tk M V a (p + i) 24 0 = 0 then i else chf M V a p (L - (i + 1)).toNat (i + 1) := by
  obtain ⟨n, hn⟩ : ∃ n : Nat, L = i + 1 + n := ⟨(L - i - 1).toNat, by omega⟩
  subst hn
  rw [show (i + 1 + (n : Int) - i).toNat = n + 1 by omega, show (i + 1 + (n : Int) - (i + 1)).toNat = n by omega]
  rfl
theorem chf_e {M : jm} {V : Nat} {a p L i : Int} (h : L ≤ i) : chf M V a p (L - i).toNat i = -1 := by
  rw [show (L - i).toNat = 0 by omega]
  rfl
noncomputable def W_c_PacketWall_pool_x : List (Nat × Nat) := [(10, 1000), (11, 1000), (12, 1000)]
theorem c_PacketWall_pool_x {A : Nat → Option (Nat × (Nat → Int32))} {Q : Option Value → jm → Prop} {T : jm} {M : jm} (hC_M : CI M) (ht_M : FR W_c_PacketWall_pool_x T M) {x : Int} (h_x : (-2147483648) ≤ x ∧ x ≤ 2147483647) {y : Int} (h_y : (-2147483648) ≤ y ∧ y ≤ 2147483647) {z : Int} (h_z : (-2147483648) ≤ z ∧ z ≤ 2147483647) {u : Int} (h_u : (-2147483648) ≤ u ∧ u ≤ 2147483647) {V : Int} (g_V : M 15 0 = V) (p0 : T = M) (q : ∀ (r : Int) (M' : jm), CI M' → FR W_c_PacketWall_pool_x T M' → (-2147483648) ≤ r ∧ r ≤ 2147483647 → ((¬ ((0 ≤ x ∧ x ≤ 3) ∧ (1 ≤ u ∧ u ≤ 32) ∧ (1 ≤ z ∧ z + u ≤ 65536)) ∧ r = -3 ∧ M' = T) ∨ (((0 ≤ x ∧ x ≤ 3) ∧ (1 ≤ u ∧ u ≤ 32) ∧ (1 ≤ z ∧ z + u ≤ 65536)) ∧ pu T V.toNat x 24 0 = 1 ∧ r = -4 ∧ M' = T) ∨ (((0 ≤ x ∧ x ≤ 3) ∧ (1 ≤ u ∧ u ≤ 32) ∧ (1 ≤ z ∧ z + u ≤ 65536)) ∧ pu T V.toNat x 24 0 ≠ 1 ∧ r = u ∧ M' = ju (ju (ju T 26 x (y % 4294967296)) 27 x z) 28 x u)) → Q (some (.int (Int32.ofInt r))) M') : jc A 2 23 [.ref (0), .int (Int32.ofInt (x)), .int (Int32.ofInt (y)), .int (Int32.ofInt (z)), .int (Int32.ofInt (u))] M Q := by
  refine jc_of (m := xm_23) rfl (Nat.le_of_ble_eq_true rfl) rfl ?_
  have b_V : 16 ≤ V ∧ V ≤ 17 := by rw [← g_V]; exact (CI.r hC_M (show kd 15 = 9 from rfl) (by decide) 0)
  refine jr.aload_n rfl rfl ?_
  refine jr.getf (i := 9) (v := .ref 15) rfl rfl (by decide) rfl (by decide) rfl rfl rfl rfl ?_
  refine jr.iload_n rfl rfl ?_
  refine jr.iload_n rfl rfl ?_
  refine jr.i2l rfl (by omega) ?_
  refine jr.ldc2 (x := 4294967295) rfl rfl (by decide) ?_
  refine jr.land rfl ?_
  have b1 : jl_and y 4294967295 = y % 4294967296 ∧ 0 ≤ jl_and y 4294967295 ∧ jl_and y 4294967295 ≤ 4294967295 := ⟨jl_and_32 _, by rw [jl_and_32]; omega⟩
  generalize jl_and y 4294967295 = v1 at b1 ⊢
  refine jr.iload_n rfl rfl ?_
  refine jr.iload rfl rfl ?_
  refine jr_v rfl rfl (Or.inl rfl) rfl rfl (by decide) rfl ⟨rfl, Nat.le_of_ble_eq_true rfl, Nat.le_of_ble_eq_true rfl⟩ rfl (jc.deep (c_Flows_layPool_x hC_M (FR.rfl _ M) (by omega) (by omega) (by omega) (by omega) g_V rfl (fun r2 M2 hC_M2 hf_M2 z2 w2_0 => ?_)) (by decide))
  have ht_M2 : FR W_c_PacketWall_pool_x T M2 := FR.t ht_M hf_M2 (kw_sub rfl)
  exact jr.ireturn rfl rfl rfl (q _ _ hC_M2 ht_M2 (by omega) (by have h9 := w2_0; rw [p0]; first | (rw [b1.1] at h9; exact h9) | exact h9))
theorem c_Flows_isPortTaken_x_L3 {A : Nat → Option (Nat × (Nat → Int32))} {Q : Option Value → jm → Prop} {M : jm} (hC_M : CI M) {V : Int} {x : Int} {y : Int} (q : ∀ (r : Int), 0 ≤ r ∧ r ≤ 1 → (r = tk M V.toNat x y 24 0) → Q (some (.int (Int32.ofInt r))) M) : ∀ (nM : Nat) (i : Int), (-9223372036854775808) ≤ x ∧ x ≤ 9223372036854775807 → (-2147483648) ≤ y ∧ y ≤ 2147483647 → 0 ≤ i ∧ i ≤ 24 → M 15 0 = V → (tk M V.toNat x y 24 0 = tk M V.toNat x y (24 - i).toNat i) → 24 - i ≤ nM → jr A 0 xm_86 3 [(1, .long (Int64.ofInt (x))), (3, .int (Int32.ofInt (y))), (4, .int (Int32.ofInt (i))), (0, .ref (15))] [] M Q := by
  intro nM
  induction nM using Nat.strongRecOn with
  | ind nM ih =>
    intro i h_x h_y h_i g_V hy0 hm
    have b_V : 16 ≤ V ∧ V ≤ 17 := by rw [← g_V]; exact (CI.r hC_M (show kd 15 = 9 from rfl) (by decide) 0)
    refine jr.iload rfl rfl ?_
    refine jr.bipush rfl (by decide) ?_
    refine jr.icmp_ge rfl rfl (by omega) (by omega) (fun h7 => ?_) (fun h7 => ?_)
    · refine jr.iconst rfl ?_
      exact jr.ireturn rfl rfl rfl (q _ (by omega) (by rw [hy0, show (24 - i).toNat = 0 from by omega]; rfl))
    · refine jr.aload_n rfl rfl ?_
      have k1 : kd (V).toNat = 13 := by rcases (show V = 16 ∨ V = 17 by omega) with h | h <;> (rw [h]; rfl)
      refine jr.getf (i := 0) (x := V) (v := .ref (V.toNat)) rfl rfl (by decide) rfl (by decide) rfl rfl g_V rfl ?_
      refine jr.iload rfl rfl ?_
      have k2 := kxe_13 k1 (i := i) (by omega) (by omega)
      refine jr.aald (c := (xe ((V.toNat)) i)) rfl (Nat.lt_trans (kx_13 k1).1 (by decide)) (kx_13 k1).2 (by decide) (by decide) rfl (by decide) (by omega) (by omega) k2.1 ?_
      refine jr.astore rfl (by decide) rfl ?_
      refine jr.aload rfl rfl ?_
      obtain ⟨v3, e3⟩ : ∃ z_, M ((xe ((V.toNat)) i)) 0 = z_ := ⟨_, rfl⟩
      have b3 : 0 ≤ v3 ∧ v3 ≤ 1 := by rw [← e3]; exact (CI.r hC_M k2.2 (by decide) 0)
      refine jr.getf (i := 0) (x := v3) (v := .int (Int32.ofInt (v3))) rfl rfl (Nat.lt_trans (kx_1 k2.2).1 (by decide)) (kx_1 k2.2).2 (by decide) rfl rfl e3 rfl ?_
      refine jr.if_eq rfl rfl (by omega) (fun h24 => ?_) (fun h24 => ?_)
      · refine jr.iinc rfl rfl (by decide) rfl ?_
        refine jr.goto rfl rfl ?_
        refine jr.pick [2, 3, 0, 4] rfl rfl ?_
        exact ih (nM - 1) (by omega) (i + 1) (by omega) (by omega) (by omega) g_V (by rw [hy0, tk_s (by omega), if_neg (by omega)]) (by omega)
      · refine jr.aload rfl rfl ?_
        obtain ⟨v4, e4⟩ : ∃ z_, M ((xe ((V.toNat)) i)) 13 = z_ := ⟨_, rfl⟩
        have b4 : (-2147483648) ≤ v4 ∧ v4 ≤ 2147483647 := by rw [← e4]; exact (CI.r hC_M k2.2 (by decide) 13)
        refine jr.getf (i := 13) (x := v4) (v := .int (Int32.ofInt (v4))) rfl rfl (Nat.lt_trans (kx_1 k2.2).1 (by decide)) (kx_1 k2.2).2 (by decide) rfl rfl e4 rfl ?_
        refine jr.iconst rfl ?_
        refine jr.icmp_eq rfl rfl (by omega) (by omega) (fun h33 => ?_) (fun h33 => ?_)
        · refine jr.iinc rfl rfl (by decide) rfl ?_
          refine jr.goto rfl rfl ?_
          refine jr.pick [2, 3, 0, 4] rfl rfl ?_
          exact ih (nM - 1) (by omega) (i + 1) (by omega) (by omega) (by omega) g_V (by rw [hy0, tk_s (by omega), if_neg (by omega)]) (by omega)
        · refine jr.aload rfl rfl ?_
          obtain ⟨v5, e5⟩ : ∃ z_, M ((xe ((V.toNat)) i)) 14 = z_ := ⟨_, rfl⟩
          have b5 : (-9223372036854775808) ≤ v5 ∧ v5 ≤ 9223372036854775807 := by rw [← e5]; exact (CI.r hC_M k2.2 (by decide) 14)
          refine jr.getf (i := 14) (x := v5) (v := .long (Int64.ofInt (v5))) rfl rfl (Nat.lt_trans (kx_1 k2.2).1 (by decide)) (kx_1 k2.2).2 (by decide) rfl rfl e5 rfl ?_
          refine jr.lload_n rfl rfl ?_
          refine jr.lcmp_ne rfl rfl rfl (by omega) (by omega) (fun h42 => ?_) (fun h42 => ?_)
          · refine jr.iinc rfl rfl (by decide) rfl ?_
            refine jr.goto rfl rfl ?_
            refine jr.pick [2, 3, 0, 4] rfl rfl ?_
            exact ih (nM - 1) (by omega) (i + 1) (by omega) (by omega) (by omega) g_V (by rw [hy0, tk_s (by omega), if_neg (by omega)]) (by omega)
          · refine jr.aload rfl rfl ?_
            obtain ⟨v6, e6⟩ : ∃ z_, M ((xe ((V.toNat)) i)) 15 = z_ := ⟨_, rfl⟩
            have b6 : (-2147483648) ≤ v6 ∧ v6 ≤ 2147483647 := by rw [← e6]; exact (CI.r hC_M k2.2 (by decide) 15)
            refine jr.getf (i := 15) (x := v6) (v := .int (Int32.ofInt (v6))) rfl rfl (Nat.lt_trans (kx_1 k2.2).1 (by decide)) (kx_1 k2.2).2 (by decide) rfl rfl e6 rfl ?_
            refine jr.iload_n rfl rfl ?_
            refine jr.icmp_ne rfl rfl (by omega) (by omega) (fun h52 => ?_) (fun h52 => ?_)
            · refine jr.iinc rfl rfl (by decide) rfl ?_
              refine jr.goto rfl rfl ?_
              refine jr.pick [2, 3, 0, 4] rfl rfl ?_
              exact ih (nM - 1) (by omega) (i + 1) (by omega) (by omega) (by omega) g_V (by rw [hy0, tk_s (by omega), if_neg (by omega)]) (by omega)
            · refine jr.iconst rfl ?_
              exact jr.ireturn rfl rfl rfl (q _ (by omega) (by rw [hy0, tk_s (by omega), if_pos (by omega)]))
theorem c_Flows_isPortTaken_x {A : Nat → Option (Nat × (Nat → Int32))} {Q : Option Value → jm → Prop} {M : jm} (hC_M : CI M) {x : Int} (h_x : (-9223372036854775808) ≤ x ∧ x ≤ 9223372036854775807) {y : Int} (h_y : (-2147483648) ≤ y ∧ y ≤ 2147483647) {V : Int} (g_V : M 15 0 = V) (q : ∀ (r : Int), 0 ≤ r ∧ r ≤ 1 → (r = tk M V.toNat x y 24 0) → Q (some (.int (Int32.ofInt r))) M) : jc A 1 86 [.ref (15), .long (Int64.ofInt (x)), .int (Int32.ofInt (y))] M Q := by
  refine jc_of (m := xm_86) rfl (Nat.le_of_ble_eq_true rfl) rfl ?_
  have b_V : 16 ≤ V ∧ V ≤ 17 := by rw [← g_V]; exact (CI.r hC_M (show kd 15 = 9 from rfl) (by decide) 0)
  refine jr.iconst rfl ?_
  refine jr.istore rfl (by decide) rfl ?_
  refine jr.pick [2, 3, 0, 1] rfl rfl ?_
  exact c_Flows_isPortTaken_x_L3 hC_M  q 24 0 (by omega) (by omega) (by omega) g_V rfl (by omega)
noncomputable def W_c_Flows_changeBy_x : List (Nat × Nat) := [(1, 13), (1, 14), (1, 15)]
theorem c_Flows_changeBy_x_L49 {A : Nat → Option (Nat × (Nat → Int32))} {Q : Option Value → jm → Prop} {T : jm} {x : Nat} (k_x : kd x = 1) {V : Int} {P : Int} {y : Int} (q : ∀ (r : Int) (M' : jm), CI M' → FR W_c_Flows_changeBy_x T M' → (-2147483648) ≤ r ∧ r ≤ 2147483647 → (((y < 0 ∨ 3 < y) ∧ r = -3 ∧ M' = T) ∨ ((0 ≤ y ∧ y ≤ 3) ∧ (T x 1 ≠ 0 ∨ T x 2 = 1 ∨ T x 13 ≠ -1 ∨ T 28 y = 0) ∧ r = -4 ∧ M' = T) ∨ (((0 ≤ y ∧ y ≤ 3) ∧ ¬ (T x 1 ≠ 0 ∨ T x 2 = 1 ∨ T x 13 ≠ -1 ∨ T 28 y = 0)) ∧ ((chf T V.toNat (T 26 y) (T 27 y) (T 28 y).toNat 0 = -1 ∧ r = -5 ∧ M' = T) ∨ (chf T V.toNat (T 26 y) (T 27 y) (T 28 y).toNat 0 ≠ -1 ∧ r = T 27 y + chf T V.toNat (T 26 y) (T 27 y) (T 28 y).toNat 0 ∧ M' = ju (ju (ju T x 13 y) x 14 (T 26 y)) x 15 (T 27 y + chf T V.toNat (T 26 y) (T 27 y) (T 28 y).toNat 0))))) → Q (some (.int (Int32.ofInt r))) M') : ∀ (nM : Nat) (M : jm) (i : Int), CI M → FR W_c_Flows_changeBy_x T M → 0 ≤ y ∧ y ≤ 3 → 0 ≤ i ∧ i ≤ 32 → M 15 0 = V → M 27 y = P → (chf T V.toNat (T 26 y) (T 27 y) (T 28 y).toNat 0 = chf T V.toNat (T 26 y) (T 27 y) (T 28 y - i).toNat i) → (M = T) → (0 ≤ P ∧ P ≤ 65535) → (¬ (T x 1 ≠ 0 ∨ T x 2 = 1 ∨ T x 13 ≠ -1 ∨ T 28 y = 0)) → 32 - i ≤ nM → jr A 1 xm_81 49 [(2, .int (Int32.ofInt (y))), (3, .int (Int32.ofInt (i))), (0, .ref (15)), (1, .ref (x))] [] M Q := by
  intro nM
  induction nM using Nat.strongRecOn with
  | ind nM ih =>
    intro M i hC_M ht_M h_y h_i g_V g_P hy0 hy1 hy2 hy3 hm
    have b_V : 16 ≤ V ∧ V ≤ 17 := by rw [← g_V]; exact (CI.r hC_M (show kd 15 = 9 from rfl) (by decide) 0)
    have b_P : (-2147483648) ≤ P ∧ P ≤ 2147483647 := by rw [← g_P]; exact (CI.r hC_M (show kd 27 = 11 from rfl) (by decide) y)
    refine jr.iload_n rfl rfl ?_
    refine jr.aload_n rfl rfl ?_
    refine jr.getf (i := 8) (v := .ref 28) rfl rfl (by decide) rfl (by decide) rfl rfl rfl rfl ?_
    refine jr.iload_n rfl rfl ?_
    obtain ⟨v1, e1⟩ : ∃ z_, M 28 y = z_ := ⟨_, rfl⟩
    have b1 : 0 ≤ v1 ∧ v1 ≤ 32 := by rw [← e1]; exact (CI.r hC_M (show kd 28 = 12 from rfl) (by decide) y)
    refine jr.iald (i := y) (x := v1) rfl (by decide) rfl (by decide) (by omega) (by omega) e1 ?_
    refine jr.icmp_ge rfl rfl (by omega) (by omega) (fun h56 => ?_) (fun h56 => ?_)
    · refine jr.bipush rfl (by decide) ?_
      exact jr.ireturn rfl rfl rfl (q _ _ hC_M ht_M (by omega) (by have q1 : T 28 y = v1 := (by rw [← hy1]; exact e1); have q2 : T 27 y = P := (by rw [← hy1]; exact g_P); exact Or.inr (Or.inr ⟨⟨by omega, hy3⟩, Or.inl ⟨by rw [hy0, chf_e (by omega)], by omega, hy1⟩⟩)))
    · refine jr.aload_n rfl rfl ?_
      refine jr.aload_n rfl rfl ?_
      refine jr.getf (i := 6) (v := .ref 26) rfl rfl (by decide) rfl (by decide) rfl rfl rfl rfl ?_
      refine jr.iload_n rfl rfl ?_
      obtain ⟨v2, e2⟩ : ∃ z_, M 26 y = z_ := ⟨_, rfl⟩
      have b2 : (-9223372036854775808) ≤ v2 ∧ v2 ≤ 9223372036854775807 := by rw [← e2]; exact (CI.r hC_M (show kd 26 = 10 from rfl) (by decide) y)
      refine jr.lald (i := y) (x := v2) rfl (by decide) rfl (by decide) (by omega) (by omega) e2 ?_
      refine jr.aload_n rfl rfl ?_
      refine jr.getf (i := 7) (v := .ref 27) rfl rfl (by decide) rfl (by decide) rfl rfl rfl rfl ?_
      refine jr.iload_n rfl rfl ?_
      refine jr.iald (i := y) (x := P) rfl (by decide) rfl (by decide) (by omega) (by omega) g_P ?_
      refine jr.iload_n rfl rfl ?_
      refine jr.iadd rfl ?_
      refine jr_v rfl rfl (Or.inl rfl) rfl rfl (by decide) rfl ⟨rfl, Nat.le_of_ble_eq_true rfl, Nat.le_of_ble_eq_true rfl⟩ rfl (jc.deep (c_Flows_isPortTaken_x hC_M (by omega) (by omega) g_V (fun r3 z3 w3_0 => ?_)) (by decide))
      refine jr.if_ne rfl rfl (by omega) (fun h77 => ?_) (fun h77 => ?_)
      · have sx77 : (1 : Int) ≤ r3 := by omega
        refine jr.iinc rfl rfl (by decide) rfl ?_
        refine jr.goto rfl rfl ?_
        refine jr.pick [1, 0, 2, 3] rfl rfl ?_
        exact ih (nM - 1) (by omega) M (i + 1) hC_M ht_M (by omega) (by omega) g_V g_P (by have q1 : T 28 y = v1 := (by rw [← hy1]; exact e1); have q2 : T 27 y = P := (by rw [← hy1]; exact g_P); have q3 : T 26 y = v2 := (by rw [← hy1]; exact e2); rw [hy0, q1, q2, q3, chf_s (by omega), if_neg (by rw [← hy1, ← w3_0]; omega)]) hy1 (by omega) hy3 (by omega)
      · refine jr.aload_n rfl rfl ?_
        refine jr.iload_n rfl rfl ?_
        refine jr.putf (i := 13) (x := y) rfl rfl (Nat.lt_trans (kx_1 k_x).1 (by decide)) (kx_1 k_x).2 (by decide) rfl rfl rfl rfl rfl ?_
        refine jr.aload_n rfl rfl ?_
        refine jr.aload_n rfl rfl ?_
        refine jr.getf (i := 6) (v := .ref 26) rfl rfl (by decide) rfl (by decide) rfl rfl rfl rfl ?_
        refine jr.iload_n rfl rfl ?_
        refine jr.lald (i := y) (x := v2) rfl (by decide) rfl (by decide) (by omega) (by omega) ((ju_c _ _ (kd_ne (by rw [(show kd 26 = 10 from rfl), k_x]; decide))).trans e2) ?_
        refine jr.putf (i := 14) (x := v2) rfl rfl (Nat.lt_trans (kx_1 k_x).1 (by decide)) (kx_1 k_x).2 (by decide) rfl rfl rfl rfl rfl ?_
        refine jr.aload_n rfl rfl ?_
        refine jr.aload_n rfl rfl ?_
        refine jr.getf (i := 7) (v := .ref 27) rfl rfl (by decide) rfl (by decide) rfl rfl rfl rfl ?_
        refine jr.iload_n rfl rfl ?_
        refine jr.iald (i := y) (x := P) rfl (by decide) rfl (by decide) (by omega) (by omega) ((ju_c _ _ (kd_ne (by rw [(show kd 27 = 11 from rfl), k_x]; decide))).trans ((ju_c _ _ (kd_ne (by rw [(show kd 27 = 11 from rfl), k_x]; decide))).trans g_P)) ?_
        refine jr.iload_n rfl rfl ?_
        refine jr.iadd rfl ?_
        refine jr.putf (i := 15) (x := (P + i)) rfl rfl (Nat.lt_trans (kx_1 k_x).1 (by decide)) (kx_1 k_x).2 (by decide) rfl rfl rfl rfl rfl ?_
        refine jr.aload_n rfl rfl ?_
        refine jr.getf (i := 15) (x := (P + i)) (v := .int (Int32.ofInt (P + i))) rfl rfl (Nat.lt_trans (kx_1 k_x).1 (by decide)) (kx_1 k_x).2 (by decide) rfl rfl (ju_same _ _ _ _) rfl ?_
        exact jr.ireturn rfl rfl rfl (q _ _ (CI.u (CI.u (CI.u hC_M (i := 13) k_x (show (-2147483648 : Int) ≤ _ ∧ _ ≤ (2147483647 : Int) from by omega) rfl) (i := 14) k_x (show (-9223372036854775808 : Int) ≤ _ ∧ _ ≤ (9223372036854775807 : Int) from by omega) rfl) (i := 15) k_x (show (-2147483648 : Int) ≤ _ ∧ _ ≤ (2147483647 : Int) from by omega) rfl) (FR.o (FR.o (FR.o ht_M k_x rfl) k_x rfl) k_x rfl) (by omega) (by have q1 : T 28 y = v1 := (by rw [← hy1]; exact e1); have q2 : T 27 y = P := (by rw [← hy1]; exact g_P); have q3 : T 26 y = v2 := (by rw [← hy1]; exact e2); have hq : chf T V.toNat (T 26 y) (T 27 y) (T 28 y).toNat 0 = i := (by rw [hy0, q1, q2, q3, chf_s (by omega), if_pos (by rw [← hy1, ← w3_0]; omega)]); exact Or.inr (Or.inr ⟨⟨by omega, hy3⟩, Or.inr ⟨by rw [hq]; omega, by rw [hq, q2], by rw [hq, q2, q3, hy1]⟩⟩)))
theorem c_Flows_changeBy_x {A : Nat → Option (Nat × (Nat → Int32))} {Q : Option Value → jm → Prop} {T : jm} {M : jm} (hC_M : CI M) (ht_M : FR W_c_Flows_changeBy_x T M) {x : Nat} (k_x : kd x = 1) {y : Int} (h_y : (-2147483648) ≤ y ∧ y ≤ 2147483647) {V : Int} (g_V : M 15 0 = V) {P : Int} (g_P : M 27 y = P) (p0 : T = M) (p1 : 0 ≤ P ∧ P ≤ 65535) (q : ∀ (r : Int) (M' : jm), CI M' → FR W_c_Flows_changeBy_x T M' → (-2147483648) ≤ r ∧ r ≤ 2147483647 → (((y < 0 ∨ 3 < y) ∧ r = -3 ∧ M' = T) ∨ ((0 ≤ y ∧ y ≤ 3) ∧ (T x 1 ≠ 0 ∨ T x 2 = 1 ∨ T x 13 ≠ -1 ∨ T 28 y = 0) ∧ r = -4 ∧ M' = T) ∨ (((0 ≤ y ∧ y ≤ 3) ∧ ¬ (T x 1 ≠ 0 ∨ T x 2 = 1 ∨ T x 13 ≠ -1 ∨ T 28 y = 0)) ∧ ((chf T V.toNat (T 26 y) (T 27 y) (T 28 y).toNat 0 = -1 ∧ r = -5 ∧ M' = T) ∨ (chf T V.toNat (T 26 y) (T 27 y) (T 28 y).toNat 0 ≠ -1 ∧ r = T 27 y + chf T V.toNat (T 26 y) (T 27 y) (T 28 y).toNat 0 ∧ M' = ju (ju (ju T x 13 y) x 14 (T 26 y)) x 15 (T 27 y + chf T V.toNat (T 26 y) (T 27 y) (T 28 y).toNat 0))))) → Q (some (.int (Int32.ofInt r))) M') : jc A 2 81 [.ref (15), .ref (x), .int (Int32.ofInt (y))] M Q := by
  refine jc_of (m := xm_81) rfl (Nat.le_of_ble_eq_true rfl) rfl ?_
  have b_V : 16 ≤ V ∧ V ≤ 17 := by rw [← g_V]; exact (CI.r hC_M (show kd 15 = 9 from rfl) (by decide) 0)
  have b_P : (-2147483648) ≤ P ∧ P ≤ 2147483647 := by rw [← g_P]; exact (CI.r hC_M (show kd 27 = 11 from rfl) (by decide) y)
  refine jr.iload_n rfl rfl ?_
  refine jr.if_lt rfl rfl (by omega) (fun h1 => ?_) (fun h1 => ?_)
  · refine jr.bipush rfl (by decide) ?_
    exact jr.ireturn rfl rfl rfl (q _ _ hC_M ht_M (by omega) (by rw [p0]; first | exact Or.inl ⟨by omega, by omega, rfl⟩ | exact Or.inr (Or.inl ⟨by omega, by omega, by omega, rfl⟩)))
  · refine jr.iload_n rfl rfl ?_
    refine jr.iconst rfl ?_
    refine jr.icmp_lt rfl rfl (by omega) (by omega) (fun h6 => ?_) (fun h6 => ?_)
    · refine jr.aload_n rfl rfl ?_
      obtain ⟨v1, e1⟩ : ∃ z_, M x 1 = z_ := ⟨_, rfl⟩
      have b1 : 0 ≤ v1 ∧ v1 ≤ 1 := by rw [← e1]; exact (CI.r hC_M k_x (by decide) 1)
      refine jr.getf (i := 1) (x := v1) (v := .int (Int32.ofInt (v1))) rfl rfl (Nat.lt_trans (kx_1 k_x).1 (by decide)) (kx_1 k_x).2 (by decide) rfl rfl e1 rfl ?_
      refine jr.if_ne rfl rfl (by omega) (fun h16 => ?_) (fun h16 => ?_)
      · have sx16 : (1 : Int) ≤ v1 := by omega
        refine jr.bipush rfl (by decide) ?_
        exact jr.ireturn rfl rfl rfl (q _ _ hC_M ht_M (by omega) (by rw [p0]; first | exact Or.inl ⟨by omega, by omega, rfl⟩ | exact Or.inr (Or.inl ⟨by omega, by omega, by omega, rfl⟩)))
      · refine jr.aload_n rfl rfl ?_
        obtain ⟨v2, e2⟩ : ∃ z_, M x 2 = z_ := ⟨_, rfl⟩
        have b2 : (-2147483648) ≤ v2 ∧ v2 ≤ 2147483647 := by rw [← e2]; exact (CI.r hC_M k_x (by decide) 2)
        refine jr.getf (i := 2) (x := v2) (v := .int (Int32.ofInt (v2))) rfl rfl (Nat.lt_trans (kx_1 k_x).1 (by decide)) (kx_1 k_x).2 (by decide) rfl rfl e2 rfl ?_
        refine jr.iconst rfl ?_
        refine jr.icmp_eq rfl rfl (by omega) (by omega) (fun h24 => ?_) (fun h24 => ?_)
        · refine jr.bipush rfl (by decide) ?_
          exact jr.ireturn rfl rfl rfl (q _ _ hC_M ht_M (by omega) (by rw [p0]; first | exact Or.inl ⟨by omega, by omega, rfl⟩ | exact Or.inr (Or.inl ⟨by omega, by omega, by omega, rfl⟩)))
        · refine jr.aload_n rfl rfl ?_
          obtain ⟨v3, e3⟩ : ∃ z_, M x 13 = z_ := ⟨_, rfl⟩
          have b3 : (-2147483648) ≤ v3 ∧ v3 ≤ 2147483647 := by rw [← e3]; exact (CI.r hC_M k_x (by decide) 13)
          refine jr.getf (i := 13) (x := v3) (v := .int (Int32.ofInt (v3))) rfl rfl (Nat.lt_trans (kx_1 k_x).1 (by decide)) (kx_1 k_x).2 (by decide) rfl rfl e3 rfl ?_
          refine jr.iconst rfl ?_
          refine jr.icmp_ne rfl rfl (by omega) (by omega) (fun h32 => ?_) (fun h32 => ?_)
          · refine jr.bipush rfl (by decide) ?_
            exact jr.ireturn rfl rfl rfl (q _ _ hC_M ht_M (by omega) (by rw [p0]; first | exact Or.inl ⟨by omega, by omega, rfl⟩ | exact Or.inr (Or.inl ⟨by omega, by omega, by omega, rfl⟩)))
          · refine jr.aload_n rfl rfl ?_
            refine jr.getf (i := 8) (v := .ref 28) rfl rfl (by decide) rfl (by decide) rfl rfl rfl rfl ?_
            refine jr.iload_n rfl rfl ?_
            obtain ⟨v4, e4⟩ : ∃ z_, M 28 y = z_ := ⟨_, rfl⟩
            have b4 : 0 ≤ v4 ∧ v4 ≤ 32 := by rw [← e4]; exact (CI.r hC_M (show kd 28 = 12 from rfl) (by decide) y)
            refine jr.iald (i := y) (x := v4) rfl (by decide) rfl (by decide) (by omega) (by omega) e4 ?_
            refine jr.if_ne rfl rfl (by omega) (fun h41 => ?_) (fun h41 => ?_)
            · have sx41 : (1 : Int) ≤ v4 := by omega
              refine jr.iconst rfl ?_
              refine jr.istore_n rfl (by decide) rfl ?_
              refine jr.pick [3, 0, 1, 2] rfl rfl ?_
              exact c_Flows_changeBy_x_L49 k_x q 32 M 0 hC_M ht_M (by omega) (by omega) g_V g_P (by rw [show T 28 y - 0 = T 28 y from by omega]) p0.symm (by omega) (by rw [p0]; omega) (by omega)
            · refine jr.bipush rfl (by decide) ?_
              exact jr.ireturn rfl rfl rfl (q _ _ hC_M ht_M (by omega) (by rw [p0]; first | exact Or.inl ⟨by omega, by omega, rfl⟩ | exact Or.inr (Or.inl ⟨by omega, by omega, by omega, rfl⟩)))
    · refine jr.bipush rfl (by decide) ?_
      exact jr.ireturn rfl rfl rfl (q _ _ hC_M ht_M (by omega) (by rw [p0]; first | exact Or.inl ⟨by omega, by omega, rfl⟩ | exact Or.inr (Or.inl ⟨by omega, by omega, by omega, rfl⟩)))
noncomputable def W_c_PacketWall_change_x : List (Nat × Nat) := [(1, 13), (1, 14), (1, 15)]
theorem c_PacketWall_change_x {A : Nat → Option (Nat × (Nat → Int32))} {Q : Option Value → jm → Prop} {T : jm} {M : jm} (hC_M : CI M) (ht_M : FR W_c_PacketWall_change_x T M) {x : Int} (h_x : (-2147483648) ≤ x ∧ x ≤ 2147483647) {y : Int} (h_y : (-2147483648) ≤ y ∧ y ≤ 2147483647) {V : Int} (g_V : M 15 0 = V) {P : Int} (g_P : M 27 y = P) (p0 : T = M) (p1 : 0 ≤ P ∧ P ≤ 65535) (q : ∀ (r : Int) (M' : jm), CI M' → FR W_c_PacketWall_change_x T M' → (-2147483648) ≤ r ∧ r ≤ 2147483647 → (((x < 0 ∨ 23 < x ∨ T (xe (V.toNat) x) 0 = 0) ∧ r = -2 ∧ M' = T) ∨ (((0 ≤ x ∧ x ≤ 23) ∧ T (xe (V.toNat) x) 0 ≠ 0) ∧ (((y < 0 ∨ 3 < y) ∧ r = -3 ∧ M' = T) ∨ ((0 ≤ y ∧ y ≤ 3) ∧ (T (xe (V.toNat) x) 1 ≠ 0 ∨ T (xe (V.toNat) x) 2 = 1 ∨ T (xe (V.toNat) x) 13 ≠ -1 ∨ T 28 y = 0) ∧ r = -4 ∧ M' = T) ∨ (((0 ≤ y ∧ y ≤ 3) ∧ ¬ (T (xe (V.toNat) x) 1 ≠ 0 ∨ T (xe (V.toNat) x) 2 = 1 ∨ T (xe (V.toNat) x) 13 ≠ -1 ∨ T 28 y = 0)) ∧ ((chf T V.toNat (T 26 y) (T 27 y) (T 28 y).toNat 0 = -1 ∧ r = -5 ∧ M' = T) ∨ (chf T V.toNat (T 26 y) (T 27 y) (T 28 y).toNat 0 ≠ -1 ∧ r = T 27 y + chf T V.toNat (T 26 y) (T 27 y) (T 28 y).toNat 0 ∧ M' = ju (ju (ju T (xe (V.toNat) x) 13 y) (xe (V.toNat) x) 14 (T 26 y)) (xe (V.toNat) x) 15 (T 27 y + chf T V.toNat (T 26 y) (T 27 y) (T 28 y).toNat 0))))))) → Q (some (.int (Int32.ofInt r))) M') : jc A 3 24 [.ref (0), .int (Int32.ofInt (x)), .int (Int32.ofInt (y))] M Q := by
  refine jc_of (m := xm_24) rfl (Nat.le_of_ble_eq_true rfl) rfl ?_
  have b_V : 16 ≤ V ∧ V ≤ 17 := by rw [← g_V]; exact (CI.r hC_M (show kd 15 = 9 from rfl) (by decide) 0)
  have b_P : (-2147483648) ≤ P ∧ P ≤ 2147483647 := by rw [← g_P]; exact (CI.r hC_M (show kd 27 = 11 from rfl) (by decide) y)
  refine jr.aload_n rfl rfl ?_
  refine jr.getf (i := 9) (v := .ref 15) rfl rfl (by decide) rfl (by decide) rfl rfl rfl rfl ?_
  refine jr.iload_n rfl rfl ?_
  refine jr_v rfl rfl (Or.inl rfl) rfl rfl (by decide) rfl ⟨rfl, Nat.le_of_ble_eq_true rfl, Nat.le_of_ble_eq_true rfl⟩ rfl (jc.deep (c_Flows_isLive_x hC_M (by omega) g_V (fun r1 z1 w1_0 w1_1 => ?_)) (by decide))
  refine jr.if_ne rfl rfl (by omega) (fun h8 => ?_) (fun h8 => ?_)
  · have sx8 : (1 : Int) ≤ r1 := by omega
    refine jr.aload_n rfl rfl ?_
    refine jr.getf (i := 9) (v := .ref 15) rfl rfl (by decide) rfl (by decide) rfl rfl rfl rfl ?_
    refine jr.aload_n rfl rfl ?_
    refine jr.getf (i := 9) (v := .ref 15) rfl rfl (by decide) rfl (by decide) rfl rfl rfl rfl ?_
    have k2 : kd (V).toNat = 13 := by rcases (show V = 16 ∨ V = 17 by omega) with h | h <;> (rw [h]; rfl)
    refine jr.getf (i := 0) (x := V) (v := .ref (V.toNat)) rfl rfl (by decide) rfl (by decide) rfl rfl g_V rfl ?_
    refine jr.iload_n rfl rfl ?_
    have k3 := kxe_13 k2 (i := x) (by omega) (by omega)
    refine jr.aald (c := (xe ((V.toNat)) x)) rfl (Nat.lt_trans (kx_13 k2).1 (by decide)) (kx_13 k2).2 (by decide) (by decide) rfl (by decide) (by omega) (by omega) k3.1 ?_
    refine jr.iload_n rfl rfl ?_
    refine jr_v rfl rfl (Or.inl rfl) rfl rfl (by decide) rfl ⟨rfl, Nat.le_of_ble_eq_true rfl, Nat.le_of_ble_eq_true rfl⟩ rfl (jc.deep (c_Flows_changeBy_x hC_M (FR.rfl _ M) k3.2 (by omega) g_V g_P rfl (by omega) (fun r4 M4 hC_M4 hf_M4 z4 w4_0 => ?_)) (by decide))
    have ht_M4 : FR W_c_PacketWall_change_x T M4 := FR.t ht_M hf_M4 (kw_sub rfl)
    exact jr.ireturn rfl rfl rfl (q _ _ hC_M4 ht_M4 (by omega) (Or.inr ⟨by rw [p0]; omega, by rw [p0]; exact w4_0⟩))
  · refine jr.bipush rfl (by decide) ?_
    exact jr.ireturn rfl rfl rfl (q _ _ hC_M ht_M (by omega) (Or.inl ⟨by rw [p0]; omega, by omega, p0.symm⟩))
end
section
/-! ===== the reference: flows: figures, pools, change ===== -/
noncomputable def fg6 (M : jm) (f w : Int) : Int := if w = 0 then M 629 f else if w = 1 then M 638 f else if w = 2 then M 631 (2 * f) else if w = 3 then M 631 (2 * f + 1) else if w = 4 then j_w (M 639 f - M 598 2) else if w = 5 then (if M 632 (2 * f) = 0 then 0 else M 633 (2 * f)) else if w = 6 then (if M 632 (2 * f + 1) = 0 then 0 else M 633 (2 * f + 1)) else if w = 7 then M 635 (2 * f) else if w = 8 then M 635 (2 * f + 1) else if w = 9 then (if M 640 f = -1 then -1 else M 642 f) else if w = 10 then (if M 628 f = 0 then 0 else 1) else -3
noncomputable def fl6 (M : jm) (f w : Int) : Int := if w = 0 then M 630 (2 * f) else if w = 1 then M 630 (2 * f + 1) else if w = 2 then M 636 (2 * f) else if w = 3 then M 636 (2 * f + 1) else if w = 4 then M 637 (2 * f) else if w = 5 then M 637 (2 * f + 1) else -1
noncomputable def pu6 (M : jm) (k : Int) : Nat → Int → Int
  | 0, _ => 0
  | n + 1, i => if M 627 i ≠ 0 ∧ M 640 i = k then 1 else pu6 M k n (i + 1)
theorem pu6_s {M : jm} {k i : Int} (h : i < 24) : pu6 M k (24 - i).toNat i = if M 627 i ≠ 0 ∧ M 640 i = k then 1 else pu6 M k (24 - (i + 1)).toNat (i + 1) := by
  obtain ⟨n, hn⟩ : ∃ n : Nat, i = 23 - n := ⟨(23 - i).toNat, by omega⟩
  subst hn
  rw [show (24 - (23 - (n : Int))).toNat = n + 1 by omega, show (24 - (23 - (n : Int) + 1)).toNat = n by omega]
  rfl
noncomputable def tk6 (M : jm) (a o : Int) : Nat → Int → Int
  | 0, _ => 0
  | n + 1, i => if M 627 i ≠ 0 ∧ M 640 i ≠ -1 ∧ M 641 i = a ∧ M 642 i = o then 1 else tk6 M a o n (i + 1)
theorem tk6_s {M : jm} {a o i : Int} (h : i < 24) : tk6 M a o (24 - i).toNat i = if M 627 i ≠ 0 ∧ M 640 i ≠ -1 ∧ M 641 i = a ∧ M 642 i = o then 1 else tk6 M a o (24 - (i + 1)).toNat (i + 1) := by
  obtain ⟨n, hn⟩ : ∃ n : Nat, i = 23 - n := ⟨(23 - i).toNat, by omega⟩
  subst hn
  rw [show (24 - (23 - (n : Int))).toNat = n + 1 by omega, show (24 - (23 - (n : Int) + 1)).toNat = n by omega]
  rfl
theorem r_flow_x {A : Nat → Option (Nat × (Nat → Int32))} {Q : Option Value → jm → Prop} {M : jm} (hI_M : RI M) (hH_M : RH M) (hS_M : RF M) {f : Int} (h_f : (-2147483648) ≤ f ∧ f ≤ 2147483647) {w : Int} (h_w : (-2147483648) ≤ w ∧ w ≤ 2147483647) (q : ∀ (r : Int) (M' : jm), RI M' → RH M' → RF M' → (-2147483648) ≤ r ∧ r ≤ 2147483647 → (((f < 0 ∨ 23 < f ∨ M 627 f = 0) ∧ r = -2) ∨ (((0 ≤ f ∧ f ≤ 23) ∧ M 627 f ≠ 0) ∧ r = fg6 M f w)) → M' = M → (∀ (a : Nat) (i : Int), a ≠ 598 → M' a i = M a i) → (∀ (i : Int), i ≠ 1 → M' 598 i = M 598 i) → Q (some (.int (Int32.ofInt r))) M') : jc A 3 316 [.ref (598), .int (Int32.ofInt (f)), .int (Int32.ofInt (w))] M Q := by
  refine jc_of (m := xm_316) rfl (Nat.le_of_ble_eq_true rfl) rfl ?_
  refine jr.aload_n rfl rfl ?_
  refine jr.iload_n rfl rfl ?_
  refine jr_v rfl rfl (Or.inl rfl) rfl rfl (by decide) rfl ⟨rfl, Nat.le_of_ble_eq_true rfl, Nat.le_of_ble_eq_true rfl⟩ rfl (jc.deep (c_isFlow hI_M (by omega) (fun l2 u2 t2 => ?_) (fun n2 => ?_)) (by decide))
  · refine jr.if_ne rfl rfl (by omega) (fun _ => ?_) (fun h => absurd (by decide) h)
    refine jr.iload_n rfl rfl ?_
    rcases (show w = 0 ∨ w = 1 ∨ w = 2 ∨ w = 3 ∨ w = 4 ∨ w = 5 ∨ w = 6 ∨ w = 7 ∨ w = 8 ∨ w = 9 ∨ (w ≠ 0 ∧ w ≠ 1 ∧ w ≠ 2 ∧ w ≠ 3 ∧ w ≠ 4 ∧ w ≠ 5 ∧ w ≠ 6 ∧ w ≠ 7 ∧ w ≠ 8 ∧ w ≠ 9) by omega) with h12 | h12 | h12 | h12 | h12 | h12 | h12 | h12 | h12 | h12 | h12
    · refine jr.tsw_k 0 rfl h12 rfl ?_
      refine jr.aload_n rfl rfl ?_
      refine jr.getf (i := 41) (v := .ref 629) rfl rfl (by decide) rfl (by decide) rfl rfl rfl rfl ?_
      refine jr.iload_n rfl rfl ?_
      obtain ⟨v1, e1⟩ : ∃ z, M 629 f = z := ⟨_, rfl⟩
      have b1 : 0 ≤ v1 ∧ v1 ≤ 255 := by rw [← e1]; exact (by have q := hI_M 629 f (by decide); rw [xri_row rfl rfl] at q; exact q)
      refine jr.iald (i := f) (x := v1) rfl (by decide) rfl (by decide) (by omega) (by omega) e1 ?_
      exact jr.ireturn rfl rfl rfl (q _ _ hI_M hH_M hS_M  (by omega) (Or.inr ⟨by omega, by unfold fg6; rw [if_pos (by omega)]; omega⟩) rfl (fun a i f598 => rfl) (fun i g1 => rfl))
    · refine jr.tsw_k 1 rfl h12 rfl ?_
      refine jr.aload_n rfl rfl ?_
      refine jr.getf (i := 50) (v := .ref 638) rfl rfl (by decide) rfl (by decide) rfl rfl rfl rfl ?_
      refine jr.iload_n rfl rfl ?_
      obtain ⟨v2, e2⟩ : ∃ z, M 638 f = z := ⟨_, rfl⟩
      have b2 : 0 ≤ v2 ∧ v2 ≤ 15 := by rw [← e2]; exact (by have q := hI_M 638 f (by decide); rw [xri_row rfl rfl] at q; exact q)
      refine jr.iald (i := f) (x := v2) rfl (by decide) rfl (by decide) (by omega) (by omega) e2 ?_
      exact jr.ireturn rfl rfl rfl (q _ _ hI_M hH_M hS_M  (by omega) (Or.inr ⟨by omega, by unfold fg6; rw [if_neg (by omega), if_pos (by omega)]; omega⟩) rfl (fun a i f598 => rfl) (fun i g1 => rfl))
    · refine jr.tsw_k 2 rfl h12 rfl ?_
      refine jr.aload_n rfl rfl ?_
      refine jr.getf (i := 43) (v := .ref 631) rfl rfl (by decide) rfl (by decide) rfl rfl rfl rfl ?_
      refine jr.iconst rfl ?_
      refine jr.iload_n rfl rfl ?_
      refine jr.imul rfl ?_
      refine jr.iload_n rfl rfl ?_
      refine jr.iadd rfl ?_
      refine jr.iconst rfl ?_
      refine jr.isub rfl ?_
      obtain ⟨v3, e3⟩ : ∃ z, M 631 (((2 * f) + w) - 2) = z := ⟨_, rfl⟩
      have b3 : 0 ≤ v3 ∧ v3 ≤ 65535 := by rw [← e3]; exact (by have q := hI_M 631 (((2 * f) + w) - 2) (by decide); rw [xri_row rfl rfl] at q; exact q)
      refine jr.iald (i := (((2 * f) + w) - 2)) (x := v3) rfl (by decide) rfl (by decide) (by omega) (by omega) e3 ?_
      exact jr.ireturn rfl rfl rfl (q _ _ hI_M hH_M hS_M  (by omega) (Or.inr ⟨by omega, by have x0 : M 631 (((2 * f) + w) - 2) = v3 := e3; rw [show ((2 * f) + w) - 2 = 2 * f from by omega] at x0; unfold fg6; rw [if_neg (by omega), if_neg (by omega), if_pos (by omega)]; omega⟩) rfl (fun a i f598 => rfl) (fun i g1 => rfl))
    · refine jr.tsw_k 3 rfl h12 rfl ?_
      refine jr.aload_n rfl rfl ?_
      refine jr.getf (i := 43) (v := .ref 631) rfl rfl (by decide) rfl (by decide) rfl rfl rfl rfl ?_
      refine jr.iconst rfl ?_
      refine jr.iload_n rfl rfl ?_
      refine jr.imul rfl ?_
      refine jr.iload_n rfl rfl ?_
      refine jr.iadd rfl ?_
      refine jr.iconst rfl ?_
      refine jr.isub rfl ?_
      obtain ⟨v4, e4⟩ : ∃ z, M 631 (((2 * f) + w) - 2) = z := ⟨_, rfl⟩
      have b4 : 0 ≤ v4 ∧ v4 ≤ 65535 := by rw [← e4]; exact (by have q := hI_M 631 (((2 * f) + w) - 2) (by decide); rw [xri_row rfl rfl] at q; exact q)
      refine jr.iald (i := (((2 * f) + w) - 2)) (x := v4) rfl (by decide) rfl (by decide) (by omega) (by omega) e4 ?_
      exact jr.ireturn rfl rfl rfl (q _ _ hI_M hH_M hS_M  (by omega) (Or.inr ⟨by omega, by have x0 : M 631 (((2 * f) + w) - 2) = v4 := e4; rw [show ((2 * f) + w) - 2 = 2 * f + 1 from by omega] at x0; unfold fg6; rw [if_neg (by omega), if_neg (by omega), if_neg (by omega), if_pos (by omega)]; omega⟩) rfl (fun a i f598 => rfl) (fun i g1 => rfl))
    · refine jr.tsw_k 4 rfl h12 rfl ?_
      refine jr.aload_n rfl rfl ?_
      refine jr.getf (i := 51) (v := .ref 639) rfl rfl (by decide) rfl (by decide) rfl rfl rfl rfl ?_
      refine jr.iload_n rfl rfl ?_
      obtain ⟨v5, e5⟩ : ∃ z, M 639 f = z := ⟨_, rfl⟩
      have b5 : (-2147483648) ≤ v5 ∧ v5 ≤ 2147483647 := by rw [← e5]; exact (by have q := hI_M 639 f (by decide); rw [xri_row rfl rfl] at q; exact q)
      refine jr.iald (i := f) (x := v5) rfl (by decide) rfl (by decide) (by omega) (by omega) e5 ?_
      refine jr.aload_n rfl rfl ?_
      obtain ⟨v6, e6⟩ : ∃ z, M 598 2 = z := ⟨_, rfl⟩
      have b6 : 0 ≤ v6 ∧ v6 ≤ 2000000 := by rw [← e6]; exact hI_M 598 2 (by decide)
      refine jr.getf (i := 2) (x := v6) (v := .int (Int32.ofInt (v6))) rfl rfl (by decide) rfl (by decide) rfl rfl e6 rfl ?_
      refine jr.isub rfl ?_
      refine jr.iw (j_w (v5 - v6)) (j_w_eq _) ?_
      have b7 : -2147483648 ≤ j_w (v5 - v6) ∧ j_w (v5 - v6) ≤ 2147483647 := jb_any _
      exact jr.ireturn rfl rfl rfl (q _ _ hI_M hH_M hS_M  (by omega) (Or.inr ⟨by omega, by unfold fg6; rw [if_neg (by omega), if_neg (by omega), if_neg (by omega), if_neg (by omega), if_pos (by omega)]; rw [e5, e6]⟩) rfl (fun a i f598 => rfl) (fun i g1 => rfl))
    · refine jr.tsw_k 5 rfl h12 rfl ?_
      refine jr.aload_n rfl rfl ?_
      refine jr.getf (i := 44) (v := .ref 632) rfl rfl (by decide) rfl (by decide) rfl rfl rfl rfl ?_
      refine jr.iconst rfl ?_
      refine jr.iload_n rfl rfl ?_
      refine jr.imul rfl ?_
      refine jr.iload_n rfl rfl ?_
      refine jr.iadd rfl ?_
      refine jr.iconst rfl ?_
      refine jr.isub rfl ?_
      obtain ⟨v8, e8⟩ : ∃ z, M 632 (((2 * f) + w) - 5) = z := ⟨_, rfl⟩
      have b8 : 0 ≤ v8 ∧ v8 ≤ 1 := by rw [← e8]; exact (by have q := hI_M 632 (((2 * f) + w) - 5) (by decide); rw [xri_row rfl rfl] at q; exact q)
      refine jr.zald (i := (((2 * f) + w) - 5)) (x := v8) rfl (by decide) rfl (by decide) (by omega) (by omega) e8 ?_
      refine jr.if_eq rfl rfl (by omega) (fun h119 => ?_) (fun h119 => ?_)
      · refine jr.iconst rfl ?_
        exact jr.ireturn rfl rfl rfl (q _ _ hI_M hH_M hS_M  (by omega) (Or.inr ⟨by omega, by have x0 : M 632 (((2 * f) + w) - 5) = v8 := e8; rw [show ((2 * f) + w) - 5 = 2 * f from by omega] at x0; unfold fg6; rw [if_neg (by omega), if_neg (by omega), if_neg (by omega), if_neg (by omega), if_neg (by omega), if_pos (by omega)]; first | (rw [if_pos (by omega)]; done) | (rw [if_neg (by omega)]; done) | (rw [if_pos (by omega)]; omega) | (rw [if_neg (by omega)]; omega)⟩) rfl (fun a i f598 => rfl) (fun i g1 => rfl))
      · have sx119 : (1 : Int) ≤ v8 := by omega
        refine jr.aload_n rfl rfl ?_
        refine jr.getf (i := 45) (v := .ref 633) rfl rfl (by decide) rfl (by decide) rfl rfl rfl rfl ?_
        refine jr.iconst rfl ?_
        refine jr.iload_n rfl rfl ?_
        refine jr.imul rfl ?_
        refine jr.iload_n rfl rfl ?_
        refine jr.iadd rfl ?_
        refine jr.iconst rfl ?_
        refine jr.isub rfl ?_
        obtain ⟨v9, e9⟩ : ∃ z, M 633 (((2 * f) + w) - 5) = z := ⟨_, rfl⟩
        have b9 : (-2147483648) ≤ v9 ∧ v9 ≤ 2147483647 := by rw [← e9]; exact (by have q := hI_M 633 (((2 * f) + w) - 5) (by decide); rw [xri_row rfl rfl] at q; exact q)
        refine jr.iald (i := (((2 * f) + w) - 5)) (x := v9) rfl (by decide) rfl (by decide) (by omega) (by omega) e9 ?_
        refine jr.goto rfl rfl ?_
        exact jr.ireturn rfl rfl rfl (q _ _ hI_M hH_M hS_M  (by omega) (Or.inr ⟨by omega, by have x0 : M 632 (((2 * f) + w) - 5) = v8 := e8; rw [show ((2 * f) + w) - 5 = 2 * f from by omega] at x0; have x1 : M 633 (((2 * f) + w) - 5) = v9 := e9; rw [show ((2 * f) + w) - 5 = 2 * f from by omega] at x1; unfold fg6; rw [if_neg (by omega), if_neg (by omega), if_neg (by omega), if_neg (by omega), if_neg (by omega), if_pos (by omega)]; first | (rw [if_pos (by omega)]; done) | (rw [if_neg (by omega)]; done) | (rw [if_pos (by omega)]; omega) | (rw [if_neg (by omega)]; omega)⟩) rfl (fun a i f598 => rfl) (fun i g1 => rfl))
    · refine jr.tsw_k 6 rfl h12 rfl ?_
      refine jr.aload_n rfl rfl ?_
      refine jr.getf (i := 44) (v := .ref 632) rfl rfl (by decide) rfl (by decide) rfl rfl rfl rfl ?_
      refine jr.iconst rfl ?_
      refine jr.iload_n rfl rfl ?_
      refine jr.imul rfl ?_
      refine jr.iload_n rfl rfl ?_
      refine jr.iadd rfl ?_
      refine jr.iconst rfl ?_
      refine jr.isub rfl ?_
      obtain ⟨v10, e10⟩ : ∃ z, M 632 (((2 * f) + w) - 5) = z := ⟨_, rfl⟩
      have b10 : 0 ≤ v10 ∧ v10 ≤ 1 := by rw [← e10]; exact (by have q := hI_M 632 (((2 * f) + w) - 5) (by decide); rw [xri_row rfl rfl] at q; exact q)
      refine jr.zald (i := (((2 * f) + w) - 5)) (x := v10) rfl (by decide) rfl (by decide) (by omega) (by omega) e10 ?_
      refine jr.if_eq rfl rfl (by omega) (fun h119 => ?_) (fun h119 => ?_)
      · refine jr.iconst rfl ?_
        exact jr.ireturn rfl rfl rfl (q _ _ hI_M hH_M hS_M  (by omega) (Or.inr ⟨by omega, by have x0 : M 632 (((2 * f) + w) - 5) = v10 := e10; rw [show ((2 * f) + w) - 5 = 2 * f + 1 from by omega] at x0; unfold fg6; rw [if_neg (by omega), if_neg (by omega), if_neg (by omega), if_neg (by omega), if_neg (by omega), if_neg (by omega), if_pos (by omega)]; first | (rw [if_pos (by omega)]; done) | (rw [if_neg (by omega)]; done) | (rw [if_pos (by omega)]; omega) | (rw [if_neg (by omega)]; omega)⟩) rfl (fun a i f598 => rfl) (fun i g1 => rfl))
      · have sx119 : (1 : Int) ≤ v10 := by omega
        refine jr.aload_n rfl rfl ?_
        refine jr.getf (i := 45) (v := .ref 633) rfl rfl (by decide) rfl (by decide) rfl rfl rfl rfl ?_
        refine jr.iconst rfl ?_
        refine jr.iload_n rfl rfl ?_
        refine jr.imul rfl ?_
        refine jr.iload_n rfl rfl ?_
        refine jr.iadd rfl ?_
        refine jr.iconst rfl ?_
        refine jr.isub rfl ?_
        obtain ⟨v11, e11⟩ : ∃ z, M 633 (((2 * f) + w) - 5) = z := ⟨_, rfl⟩
        have b11 : (-2147483648) ≤ v11 ∧ v11 ≤ 2147483647 := by rw [← e11]; exact (by have q := hI_M 633 (((2 * f) + w) - 5) (by decide); rw [xri_row rfl rfl] at q; exact q)
        refine jr.iald (i := (((2 * f) + w) - 5)) (x := v11) rfl (by decide) rfl (by decide) (by omega) (by omega) e11 ?_
        refine jr.goto rfl rfl ?_
        exact jr.ireturn rfl rfl rfl (q _ _ hI_M hH_M hS_M  (by omega) (Or.inr ⟨by omega, by have x0 : M 632 (((2 * f) + w) - 5) = v10 := e10; rw [show ((2 * f) + w) - 5 = 2 * f + 1 from by omega] at x0; have x1 : M 633 (((2 * f) + w) - 5) = v11 := e11; rw [show ((2 * f) + w) - 5 = 2 * f + 1 from by omega] at x1; unfold fg6; rw [if_neg (by omega), if_neg (by omega), if_neg (by omega), if_neg (by omega), if_neg (by omega), if_neg (by omega), if_pos (by omega)]; first | (rw [if_pos (by omega)]; done) | (rw [if_neg (by omega)]; done) | (rw [if_pos (by omega)]; omega) | (rw [if_neg (by omega)]; omega)⟩) rfl (fun a i f598 => rfl) (fun i g1 => rfl))
    · refine jr.tsw_k 7 rfl h12 rfl ?_
      refine jr.aload_n rfl rfl ?_
      refine jr.getf (i := 47) (v := .ref 635) rfl rfl (by decide) rfl (by decide) rfl rfl rfl rfl ?_
      refine jr.iconst rfl ?_
      refine jr.iload_n rfl rfl ?_
      refine jr.imul rfl ?_
      refine jr.iload_n rfl rfl ?_
      refine jr.iadd rfl ?_
      refine jr.bipush rfl (by decide) ?_
      refine jr.isub rfl ?_
      obtain ⟨v12, e12⟩ : ∃ z, M 635 (((2 * f) + w) - 7) = z := ⟨_, rfl⟩
      have b12 : 0 ≤ v12 ∧ v12 ≤ 65535 := by rw [← e12]; exact (by have q := hI_M 635 (((2 * f) + w) - 7) (by decide); rw [xri_row rfl rfl] at q; exact q)
      refine jr.iald (i := (((2 * f) + w) - 7)) (x := v12) rfl (by decide) rfl (by decide) (by omega) (by omega) e12 ?_
      exact jr.ireturn rfl rfl rfl (q _ _ hI_M hH_M hS_M  (by omega) (Or.inr ⟨by omega, by have x0 : M 635 (((2 * f) + w) - 7) = v12 := e12; rw [show ((2 * f) + w) - 7 = 2 * f from by omega] at x0; unfold fg6; rw [if_neg (by omega), if_neg (by omega), if_neg (by omega), if_neg (by omega), if_neg (by omega), if_neg (by omega), if_neg (by omega), if_pos (by omega)]; omega⟩) rfl (fun a i f598 => rfl) (fun i g1 => rfl))
    · refine jr.tsw_k 8 rfl h12 rfl ?_
      refine jr.aload_n rfl rfl ?_
      refine jr.getf (i := 47) (v := .ref 635) rfl rfl (by decide) rfl (by decide) rfl rfl rfl rfl ?_
      refine jr.iconst rfl ?_
      refine jr.iload_n rfl rfl ?_
      refine jr.imul rfl ?_
      refine jr.iload_n rfl rfl ?_
      refine jr.iadd rfl ?_
      refine jr.bipush rfl (by decide) ?_
      refine jr.isub rfl ?_
      obtain ⟨v13, e13⟩ : ∃ z, M 635 (((2 * f) + w) - 7) = z := ⟨_, rfl⟩
      have b13 : 0 ≤ v13 ∧ v13 ≤ 65535 := by rw [← e13]; exact (by have q := hI_M 635 (((2 * f) + w) - 7) (by decide); rw [xri_row rfl rfl] at q; exact q)
      refine jr.iald (i := (((2 * f) + w) - 7)) (x := v13) rfl (by decide) rfl (by decide) (by omega) (by omega) e13 ?_
      exact jr.ireturn rfl rfl rfl (q _ _ hI_M hH_M hS_M  (by omega) (Or.inr ⟨by omega, by have x0 : M 635 (((2 * f) + w) - 7) = v13 := e13; rw [show ((2 * f) + w) - 7 = 2 * f + 1 from by omega] at x0; unfold fg6; rw [if_neg (by omega), if_neg (by omega), if_neg (by omega), if_neg (by omega), if_neg (by omega), if_neg (by omega), if_neg (by omega), if_neg (by omega), if_pos (by omega)]; omega⟩) rfl (fun a i f598 => rfl) (fun i g1 => rfl))
    · refine jr.tsw_k 9 rfl h12 rfl ?_
      refine jr.aload_n rfl rfl ?_
      refine jr.getf (i := 52) (v := .ref 640) rfl rfl (by decide) rfl (by decide) rfl rfl rfl rfl ?_
      refine jr.iload_n rfl rfl ?_
      obtain ⟨v14, e14⟩ : ∃ z, M 640 f = z := ⟨_, rfl⟩
      have b14 : (-1) ≤ v14 ∧ v14 ≤ 3 := by rw [← e14]; exact (by have q := hI_M 640 f (by decide); rw [xri_row rfl rfl] at q; exact q)
      refine jr.iald (i := f) (x := v14) rfl (by decide) rfl (by decide) (by omega) (by omega) e14 ?_
      refine jr.iconst rfl ?_
      refine jr.icmp_ne rfl rfl (by omega) (by omega) (fun h160 => ?_) (fun h160 => ?_)
      · have sx160 : (0 : Int) ≤ v14 := by omega
        refine jr.aload_n rfl rfl ?_
        refine jr.getf (i := 54) (v := .ref 642) rfl rfl (by decide) rfl (by decide) rfl rfl rfl rfl ?_
        refine jr.iload_n rfl rfl ?_
        obtain ⟨v15, e15⟩ : ∃ z, M 642 f = z := ⟨_, rfl⟩
        have b15 : 0 ≤ v15 ∧ v15 ≤ 70000 := by rw [← e15]; exact (by have q := hI_M 642 f (by decide); rw [xri_row rfl rfl] at q; exact q)
        refine jr.iald (i := f) (x := v15) rfl (by decide) rfl (by decide) (by omega) (by omega) e15 ?_
        exact jr.ireturn rfl rfl rfl (q _ _ hI_M hH_M hS_M  (by omega) (Or.inr ⟨by omega, by unfold fg6; rw [if_neg (by omega), if_neg (by omega), if_neg (by omega), if_neg (by omega), if_neg (by omega), if_neg (by omega), if_neg (by omega), if_neg (by omega), if_neg (by omega), if_pos (by omega)]; first | (rw [if_pos (by omega)]; done) | (rw [if_neg (by omega)]; done) | (rw [if_pos (by omega)]; omega) | (rw [if_neg (by omega)]; omega)⟩) rfl (fun a i f598 => rfl) (fun i g1 => rfl))
      · refine jr.iconst rfl ?_
        refine jr.goto rfl rfl ?_
        exact jr.ireturn rfl rfl rfl (q _ _ hI_M hH_M hS_M  (by omega) (Or.inr ⟨by omega, by unfold fg6; rw [if_neg (by omega), if_neg (by omega), if_neg (by omega), if_neg (by omega), if_neg (by omega), if_neg (by omega), if_neg (by omega), if_neg (by omega), if_neg (by omega), if_pos (by omega)]; first | (rw [if_pos (by omega)]; done) | (rw [if_neg (by omega)]; done) | (rw [if_pos (by omega)]; omega) | (rw [if_neg (by omega)]; omega)⟩) rfl (fun a i f598 => rfl) (fun i g1 => rfl))
    · refine jr.tsw_d rfl (by omega) (by omega) rfl ?_
      refine jr.iload_n rfl rfl ?_
      refine jr.bipush rfl (by decide) ?_
      refine jr.icmp_eq rfl rfl (by omega) (by omega) (fun h177 => ?_) (fun h177 => ?_)
      · refine jr.aload_n rfl rfl ?_
        refine jr.getf (i := 40) (v := .ref 628) rfl rfl (by decide) rfl (by decide) rfl rfl rfl rfl ?_
        refine jr.iload_n rfl rfl ?_
        obtain ⟨v16, e16⟩ : ∃ z, M 628 f = z := ⟨_, rfl⟩
        have b16 : 0 ≤ v16 ∧ v16 ≤ 1 := by rw [← e16]; exact (by have q := hI_M 628 f (by decide); rw [xri_row rfl rfl] at q; exact q)
        refine jr.zald (i := f) (x := v16) rfl (by decide) rfl (by decide) (by omega) (by omega) e16 ?_
        refine jr.if_eq rfl rfl (by omega) (fun h191 => ?_) (fun h191 => ?_)
        · refine jr.iconst rfl ?_
          exact jr.ireturn rfl rfl rfl (q _ _ hI_M hH_M hS_M  (by omega) (Or.inr ⟨by omega, by unfold fg6; rw [if_neg (by omega), if_neg (by omega), if_neg (by omega), if_neg (by omega), if_neg (by omega), if_neg (by omega), if_neg (by omega), if_neg (by omega), if_neg (by omega), if_neg (by omega), if_pos (by omega)]; first | (rw [if_pos (by omega)]; done) | (rw [if_neg (by omega)]; done) | (rw [if_pos (by omega)]; omega) | (rw [if_neg (by omega)]; omega)⟩) rfl (fun a i f598 => rfl) (fun i g1 => rfl))
        · have sx191 : (1 : Int) ≤ v16 := by omega
          refine jr.iconst rfl ?_
          refine jr.goto rfl rfl ?_
          exact jr.ireturn rfl rfl rfl (q _ _ hI_M hH_M hS_M  (by omega) (Or.inr ⟨by omega, by unfold fg6; rw [if_neg (by omega), if_neg (by omega), if_neg (by omega), if_neg (by omega), if_neg (by omega), if_neg (by omega), if_neg (by omega), if_neg (by omega), if_neg (by omega), if_neg (by omega), if_pos (by omega)]; first | (rw [if_pos (by omega)]; done) | (rw [if_neg (by omega)]; done) | (rw [if_pos (by omega)]; omega) | (rw [if_neg (by omega)]; omega)⟩) rfl (fun a i f598 => rfl) (fun i g1 => rfl))
      · refine jr.bipush rfl (by decide) ?_
        refine jr.goto rfl rfl ?_
        exact jr.ireturn rfl rfl rfl (q _ _ hI_M hH_M hS_M  (by omega) (Or.inr ⟨by omega, by unfold fg6; rw [if_neg (by omega), if_neg (by omega), if_neg (by omega), if_neg (by omega), if_neg (by omega), if_neg (by omega), if_neg (by omega), if_neg (by omega), if_neg (by omega), if_neg (by omega), if_neg (by omega)]⟩) rfl (fun a i f598 => rfl) (fun i g1 => rfl))
  · refine jr.if_ne rfl rfl (by omega) (fun h => absurd h (by decide)) (fun _ => ?_)
    refine jr.bipush rfl (by decide) ?_
    exact jr.ireturn rfl rfl rfl (q _ _ hI_M hH_M hS_M  (by omega) (Or.inl ⟨by omega, by omega⟩) rfl (fun a i f598 => rfl) (fun i g1 => rfl))
theorem r_flowed_x {A : Nat → Option (Nat × (Nat → Int32))} {Q : Option Value → jm → Prop} {M : jm} (hI_M : RI M) (hH_M : RH M) (hS_M : RF M) {f : Int} (h_f : (-2147483648) ≤ f ∧ f ≤ 2147483647) {w : Int} (h_w : (-2147483648) ≤ w ∧ w ≤ 2147483647) (q : ∀ (r : Int) (M' : jm), RI M' → RH M' → RF M' → (-9223372036854775808) ≤ r ∧ r ≤ 9223372036854775807 → (((f < 0 ∨ 23 < f ∨ M 627 f = 0) ∧ r = -1) ∨ (((0 ≤ f ∧ f ≤ 23) ∧ M 627 f ≠ 0) ∧ r = fl6 M f w)) → M' = M → (∀ (a : Nat) (i : Int), a ≠ 598 → M' a i = M a i) → (∀ (i : Int), i ≠ 1 → M' 598 i = M 598 i) → Q (some (.long (Int64.ofInt r))) M') : jc A 3 317 [.ref (598), .int (Int32.ofInt (f)), .int (Int32.ofInt (w))] M Q := by
  refine jc_of (m := xm_317) rfl (Nat.le_of_ble_eq_true rfl) rfl ?_
  refine jr.aload_n rfl rfl ?_
  refine jr.iload_n rfl rfl ?_
  refine jr_v rfl rfl (Or.inl rfl) rfl rfl (by decide) rfl ⟨rfl, Nat.le_of_ble_eq_true rfl, Nat.le_of_ble_eq_true rfl⟩ rfl (jc.deep (c_isFlow hI_M (by omega) (fun l2 u2 t2 => ?_) (fun n2 => ?_)) (by decide))
  · refine jr.if_eq rfl rfl (by omega) (fun h => absurd h (by decide)) (fun _ => ?_)
    refine jr.iload_n rfl rfl ?_
    refine jr.i2l rfl (by omega) ?_
    refine jr.lconst (x := 0) rfl (by decide) ?_
    refine jr.ldc2 (x := 5) rfl rfl (by decide) ?_
    refine jr_s rfl rfl (Or.inl rfl) ⟨Nat.le_of_ble_eq_true rfl, Nat.le_of_ble_eq_true rfl⟩ rfl rfl (jc.deep (c_within (by omega) (by omega) (by omega) (fun l14 u14 => ?_) (fun n14 => ?_)) (by decide))
    · refine jr.if_ne rfl rfl (by omega) (fun _ => ?_) (fun h => absurd (by decide) h)
      refine jr.iconst rfl ?_
      refine jr.iload_n rfl rfl ?_
      refine jr.imul rfl ?_
      refine jr.iload_n rfl rfl ?_
      refine jr.iconst rfl ?_
      refine jr.irem rfl (by decide) ?_
      have b1 : j_rem w 2 = w % 2 := j_rem_ex (by omega) (by omega)
      generalize j_rem w 2 = v1 at b1 ⊢
      refine jr.iadd rfl ?_
      refine jr.istore_n rfl (by decide) rfl ?_
      refine jr.iload_n rfl rfl ?_
      refine jr.iconst rfl ?_
      refine jr.icmp_ge rfl rfl (by omega) (by omega) (fun h34 => ?_) (fun h34 => ?_)
      · refine jr.iload_n rfl rfl ?_
        refine jr.iconst rfl ?_
        refine jr.icmp_ge rfl rfl (by omega) (by omega) (fun h48 => ?_) (fun h48 => ?_)
        · refine jr.aload_n rfl rfl ?_
          refine jr.getf (i := 49) (v := .ref 637) rfl rfl (by decide) rfl (by decide) rfl rfl rfl rfl ?_
          refine jr.iload_n rfl rfl ?_
          obtain ⟨v2, e2⟩ : ∃ z, M 637 ((2 * f) + v1) = z := ⟨_, rfl⟩
          have b2 : (-9223372036854775808) ≤ v2 ∧ v2 ≤ 9223372036854775807 := by rw [← e2]; exact (by have q := hI_M 637 ((2 * f) + v1) (by decide); rw [xri_row rfl rfl] at q; exact q)
          refine jr.lald (i := ((2 * f) + v1)) (x := v2) rfl (by decide) rfl (by decide) (by omega) (by omega) e2 ?_
          exact jr.lreturn rfl rfl (q _ _ hI_M hH_M hS_M  (by omega) (by exact Or.elim (show v1 = 0 ∨ v1 = 1 by omega) (fun hz => by have h8 : (2 * f) + v1 = 2 * f := (by omega); have h9 := e2; rw [h8] at h9; exact Or.inr ⟨by omega, by unfold fl6; rw [if_neg (by omega), if_neg (by omega), if_neg (by omega), if_neg (by omega), if_pos (by omega)]; omega⟩) (fun hz => by have h8 : (2 * f) + v1 = 2 * f + 1 := (by omega); have h9 := e2; rw [h8] at h9; exact Or.inr ⟨by omega, by unfold fl6; rw [if_neg (by omega), if_neg (by omega), if_neg (by omega), if_neg (by omega), if_neg (by omega), if_pos (by omega)]; omega⟩)) rfl (fun a i f598 => rfl) (fun i g1 => rfl))
        · refine jr.aload_n rfl rfl ?_
          refine jr.getf (i := 48) (v := .ref 636) rfl rfl (by decide) rfl (by decide) rfl rfl rfl rfl ?_
          refine jr.iload_n rfl rfl ?_
          obtain ⟨v3, e3⟩ : ∃ z, M 636 ((2 * f) + v1) = z := ⟨_, rfl⟩
          have b3 : (-9223372036854775808) ≤ v3 ∧ v3 ≤ 9223372036854775807 := by rw [← e3]; exact (by have q := hI_M 636 ((2 * f) + v1) (by decide); rw [xri_row rfl rfl] at q; exact q)
          refine jr.lald (i := ((2 * f) + v1)) (x := v3) rfl (by decide) rfl (by decide) (by omega) (by omega) e3 ?_
          refine jr.goto rfl rfl ?_
          exact jr.lreturn rfl rfl (q _ _ hI_M hH_M hS_M  (by omega) (by exact Or.elim (show v1 = 0 ∨ v1 = 1 by omega) (fun hz => by have h8 : (2 * f) + v1 = 2 * f := (by omega); have h9 := e3; rw [h8] at h9; exact Or.inr ⟨by omega, by unfold fl6; rw [if_neg (by omega), if_neg (by omega), if_pos (by omega)]; omega⟩) (fun hz => by have h8 : (2 * f) + v1 = 2 * f + 1 := (by omega); have h9 := e3; rw [h8] at h9; exact Or.inr ⟨by omega, by unfold fl6; rw [if_neg (by omega), if_neg (by omega), if_neg (by omega), if_pos (by omega)]; omega⟩)) rfl (fun a i f598 => rfl) (fun i g1 => rfl))
      · refine jr.aload_n rfl rfl ?_
        refine jr.getf (i := 42) (v := .ref 630) rfl rfl (by decide) rfl (by decide) rfl rfl rfl rfl ?_
        refine jr.iload_n rfl rfl ?_
        obtain ⟨v4, e4⟩ : ∃ z, M 630 ((2 * f) + v1) = z := ⟨_, rfl⟩
        have b4 : (-9223372036854775808) ≤ v4 ∧ v4 ≤ 9223372036854775807 := by rw [← e4]; exact (by have q := hI_M 630 ((2 * f) + v1) (by decide); rw [xri_row rfl rfl] at q; exact q)
        refine jr.lald (i := ((2 * f) + v1)) (x := v4) rfl (by decide) rfl (by decide) (by omega) (by omega) e4 ?_
        refine jr.goto rfl rfl ?_
        exact jr.lreturn rfl rfl (q _ _ hI_M hH_M hS_M  (by omega) (by exact Or.elim (show v1 = 0 ∨ v1 = 1 by omega) (fun hz => by have h8 : (2 * f) + v1 = 2 * f := (by omega); have h9 := e4; rw [h8] at h9; exact Or.inr ⟨by omega, by unfold fl6; rw [if_pos (by omega)]; omega⟩) (fun hz => by have h8 : (2 * f) + v1 = 2 * f + 1 := (by omega); have h9 := e4; rw [h8] at h9; exact Or.inr ⟨by omega, by unfold fl6; rw [if_neg (by omega), if_pos (by omega)]; omega⟩)) rfl (fun a i f598 => rfl) (fun i g1 => rfl))
    · refine jr.if_ne rfl rfl (by omega) (fun h => absurd h (by decide)) (fun _ => ?_)
      refine jr.ldc2 (x := (-1)) rfl rfl (by decide) ?_
      exact jr.lreturn rfl rfl (q _ _ hI_M hH_M hS_M  (by omega) (by first | exact Or.inl ⟨by omega, by omega⟩ | exact Or.inr ⟨by omega, by unfold fl6; rw [if_neg (by omega), if_neg (by omega), if_neg (by omega), if_neg (by omega), if_neg (by omega), if_neg (by omega)]⟩) rfl (fun a i f598 => rfl) (fun i g1 => rfl))
  · refine jr.if_eq rfl rfl (by omega) (fun _ => ?_) (fun h => absurd (by decide) h)
    refine jr.ldc2 (x := (-1)) rfl rfl (by decide) ?_
    exact jr.lreturn rfl rfl (q _ _ hI_M hH_M hS_M  (by omega) (by first | exact Or.inl ⟨by omega, by omega⟩ | exact Or.inr ⟨by omega, by unfold fl6; rw [if_neg (by omega), if_neg (by omega), if_neg (by omega), if_neg (by omega), if_neg (by omega), if_neg (by omega)]⟩) rfl (fun a i f598 => rfl) (fun i g1 => rfl))
theorem r_close_x {A : Nat → Option (Nat × (Nat → Int32))} {Q : Option Value → jm → Prop} {M : jm} (hI_M : RI M) (hH_M : RH M) (hS_M : RF M) {f : Int} (h_f : (-2147483648) ≤ f ∧ f ≤ 2147483647) (q : ∀ (r : Int) (M' : jm), RI M' → RH M' → RF M' → (-2) ≤ r ∧ r ≤ 1 → (((f < 0 ∨ 23 < f ∨ M 627 f = 0) ∧ r = -2 ∧ M' = M) ∨ (((0 ≤ f ∧ f ≤ 23) ∧ M 627 f ≠ 0) ∧ r = 1 ∧ M' = ju M 627 f 0)) → (∀ (a : Nat) (i : Int), a ≠ 627 → M' a i = M a i) → Q (some (.int (Int32.ofInt r))) M') : jc A 3 318 [.ref (598), .int (Int32.ofInt (f))] M Q := by
  refine jc_of (m := xm_318) rfl (Nat.le_of_ble_eq_true rfl) rfl ?_
  refine jr.aload_n rfl rfl ?_
  refine jr.iload_n rfl rfl ?_
  refine jr_v rfl rfl (Or.inl rfl) rfl rfl (by decide) rfl ⟨rfl, Nat.le_of_ble_eq_true rfl, Nat.le_of_ble_eq_true rfl⟩ rfl (jc.deep (c_isFlow hI_M (by omega) (fun l2 u2 t2 => ?_) (fun n2 => ?_)) (by decide))
  · refine jr.if_ne rfl rfl (by omega) (fun _ => ?_) (fun h => absurd (by decide) h)
    refine jr.aload_n rfl rfl ?_
    refine jr.getf (i := 39) (v := .ref 627) rfl rfl (by decide) rfl (by decide) rfl rfl rfl rfl ?_
    refine jr.iload_n rfl rfl ?_
    refine jr.iconst rfl ?_
    refine jr.zast (i := f) (x := 0) rfl (by decide) rfl (by decide) (by omega) (by omega) (j_zn (by omega)) ?_
    refine jr.iconst rfl ?_
    exact jr.ireturn rfl rfl rfl (q _ _ (RI.u hI_M (a := 627) (i := f) (by rw [xri_row rfl rfl]; show (0 : Int) ≤ _ ∧ _ ≤ (1 : Int); omega)) (RH.o hH_M (by decide) (by decide) (by decide)) (RF.o hS_M (by decide) (by decide))  (by omega) (Or.inr ⟨by omega, by omega, rfl⟩) (fun a i f627 => ((ju_c _ _ f627).trans rfl)))
  · refine jr.if_ne rfl rfl (by omega) (fun h => absurd h (by decide)) (fun _ => ?_)
    refine jr.bipush rfl (by decide) ?_
    exact jr.ireturn rfl rfl rfl (q _ _ hI_M hH_M hS_M  (by omega) (Or.inl ⟨by omega, by omega, rfl⟩) (fun a i f627 => rfl))
end
section
/-! ===== the reference: pools, change ===== -/
theorem r_pool_L55_x {A : Nat → Option (Nat × (Nat → Int32))} {Q : Option Value → jm → Prop} {M0 : jm} {k0 : Int} {a0 : Int} {o0 : Int} {c0 : Int} (q : ∀ (r : Int) (M' : jm), RI M' → RH M' → RF M' → (-4) ≤ r ∧ r ≤ 32 → ((¬ ((0 ≤ k0 ∧ k0 ≤ 3) ∧ (1 ≤ c0 ∧ c0 ≤ 32) ∧ (1 ≤ o0 ∧ o0 + c0 ≤ 65536)) ∧ r = -3 ∧ M' = M0) ∨ (((0 ≤ k0 ∧ k0 ≤ 3) ∧ (1 ≤ c0 ∧ c0 ≤ 32) ∧ (1 ≤ o0 ∧ o0 + c0 ≤ 65536)) ∧ pu6 M0 k0 24 0 = 1 ∧ r = -4 ∧ M' = M0) ∨ (((0 ≤ k0 ∧ k0 ≤ 3) ∧ (1 ≤ c0 ∧ c0 ≤ 32) ∧ (1 ≤ o0 ∧ o0 + c0 ≤ 65536)) ∧ pu6 M0 k0 24 0 ≠ 1 ∧ r = c0 ∧ M' = ju (ju (ju (ju M0 643 k0 1) 644 k0 (a0 % 4294967296)) 645 k0 o0) 646 k0 c0)) → (∀ (a0 : Nat) (i : Int), a0 ≠ 643 → a0 ≠ 644 → a0 ≠ 645 → a0 ≠ 646 → M' a0 i = M0 a0 i) → Q (some (.int (Int32.ofInt r))) M') : ∀ (nM : Nat) (M : jm) (f : Int) (c : Int) (o : Int) (a : Int) (k : Int), RI M → RH M → RF M → (∀ (a : Nat) (i : Int), a ≠ 643 → a ≠ 644 → a ≠ 645 → a ≠ 646 → M a i = M0 a i) → 0 ≤ f ∧ f ≤ 24 → 1 ≤ c ∧ c ≤ 32 → 1 ≤ o ∧ o ≤ 65535 → (-2147483648) ≤ a ∧ a ≤ 2147483647 → 0 ≤ k ∧ k ≤ 3 → M = M0 → pu6 M0 k 24 0 = pu6 M0 k (24 - f).toNat f → o + c ≤ 65536 → k = k0 → a = a0 → o = o0 → c = c0 → 24 - f ≤ nM → jr A 1 xm_319 55 [(5, .int (Int32.ofInt (f))), (4, .int (Int32.ofInt (c))), (3, .int (Int32.ofInt (o))), (2, .int (Int32.ofInt (a))), (1, .int (Int32.ofInt (k))), (0, .ref (598))] [] M Q := by
  intro nM
  induction nM using Nat.strongRecOn with
  | ind nM ih =>
    intro M f c o a k hI_M hH_M hS_M hF_M h_f h_c h_o h_a h_k hy0 hy1 hy2 hy3 hy4 hy5 hy6 hm
    subst hy3
    subst hy4
    subst hy5
    subst hy6
    refine jr.iload rfl rfl ?_
    refine jr.bipush rfl (by decide) ?_
    refine jr.icmp_ge rfl rfl (by omega) (by omega) (fun h59 => ?_) (fun h59 => ?_)
    · refine jr.aload_n rfl rfl ?_
      refine jr.getf (i := 55) (v := .ref 643) rfl rfl (by decide) rfl (by decide) rfl rfl rfl rfl ?_
      refine jr.iload_n rfl rfl ?_
      refine jr.iconst rfl ?_
      refine jr.zast (i := k) (x := 1) rfl (by decide) rfl (by decide) (by omega) (by omega) (j_zn (by omega)) ?_
      refine jr.aload_n rfl rfl ?_
      refine jr.getf (i := 56) (v := .ref 644) rfl rfl (by decide) rfl (by decide) rfl rfl rfl rfl ?_
      refine jr.iload_n rfl rfl ?_
      refine jr.iload_n rfl rfl ?_
      refine jr.i2l rfl (by omega) ?_
      refine jr.ldc2 (x := 4294967295) rfl rfl (by decide) ?_
      refine jr.land rfl ?_
      have b1 : jl_and a 4294967295 = a % 4294967296 ∧ 0 ≤ jl_and a 4294967295 ∧ jl_and a 4294967295 ≤ 4294967295 := ⟨jl_and_32 _, by rw [jl_and_32]; omega⟩
      generalize jl_and a 4294967295 = v1 at b1 ⊢
      refine jr.last (i := k) (x := v1) rfl (by decide) rfl (by decide) (by omega) (by omega) ?_
      refine jr.aload_n rfl rfl ?_
      refine jr.getf (i := 57) (v := .ref 645) rfl rfl (by decide) rfl (by decide) rfl rfl rfl rfl ?_
      refine jr.iload_n rfl rfl ?_
      refine jr.iload_n rfl rfl ?_
      refine jr.iast (i := k) (x := o) rfl (by decide) rfl (by decide) (by omega) (by omega) ?_
      refine jr.aload_n rfl rfl ?_
      refine jr.getf (i := 58) (v := .ref 646) rfl rfl (by decide) rfl (by decide) rfl rfl rfl rfl ?_
      refine jr.iload_n rfl rfl ?_
      refine jr.iload rfl rfl ?_
      refine jr.iast (i := k) (x := c) rfl (by decide) rfl (by decide) (by omega) (by omega) ?_
      refine jr.iload rfl rfl ?_
      exact jr.ireturn rfl rfl rfl (q _ _ (RI.u (RI.u (RI.u (RI.u hI_M (a := 643) (i := k) (by rw [xri_row rfl rfl]; show (0 : Int) ≤ _ ∧ _ ≤ (1 : Int); omega)) (a := 644) (i := k) (by rw [xri_row rfl rfl]; show (-9223372036854775808 : Int) ≤ _ ∧ _ ≤ (9223372036854775807 : Int); omega)) (a := 645) (i := k) (by rw [xri_row rfl rfl]; show (0 : Int) ≤ _ ∧ _ ≤ (65535 : Int); omega)) (a := 646) (i := k) (by rw [xri_row rfl rfl]; show (0 : Int) ≤ _ ∧ _ ≤ (32 : Int); omega)) (RH.o (RH.o (RH.o (RH.o hH_M (by decide) (by decide) (by decide)) (by decide) (by decide) (by decide)) (by decide) (by decide) (by decide)) (by decide) (by decide) (by decide)) (RF.o (RF.o (RF.o (RF.o hS_M (by decide) (by decide)) (by decide) (by decide)) (by decide) (by decide)) (by decide) (by decide))  (by omega) (Or.inr (Or.inr ⟨by omega, by rw [hy1, show (24 - f).toNat = 0 from by omega]; show (0 : Int) ≠ 1; decide, by omega, by rw [b1.1, hy0]⟩)) (fun a i f643 f644 f645 f646 => ((ju_c _ _ f646).trans ((ju_c _ _ f645).trans ((ju_c _ _ f644).trans ((ju_c _ _ f643).trans (hF_M a i f643 f644 f645 f646)))))))
    · refine jr.aload_n rfl rfl ?_
      refine jr.getf (i := 39) (v := .ref 627) rfl rfl (by decide) rfl (by decide) rfl rfl rfl rfl ?_
      refine jr.iload rfl rfl ?_
      obtain ⟨v2, e2⟩ : ∃ z, M 627 f = z := ⟨_, rfl⟩
      have b2 : 0 ≤ v2 ∧ v2 ≤ 1 := by rw [← e2]; exact (by have q := hI_M 627 f (by decide); rw [xri_row rfl rfl] at q; exact q)
      refine jr.zald (i := f) (x := v2) rfl (by decide) rfl (by decide) (by omega) (by omega) e2 ?_
      refine jr.if_eq rfl rfl (by omega) (fun h69 => ?_) (fun h69 => ?_)
      · refine jr.iinc rfl rfl (by decide) rfl ?_
        refine jr.goto rfl rfl ?_
        refine jr.pick [0, 1, 2, 3, 4, 5] rfl rfl ?_
        exact ih (nM - 1) (by omega) M (f + 1) c o a k hI_M hH_M hS_M  (fun a i f643 f644 f645 f646 => (hF_M a i f643 f644 f645 f646)) (by omega) (by omega) (by omega) (by omega) (by omega) hy0 (by rw [hy1, ← hy0, pu6_s (by omega), if_neg (by omega)]) (by omega) (by omega) (by omega) (by omega) (by omega) (by omega)
      · have sx69 : (1 : Int) ≤ v2 := by omega
        refine jr.aload_n rfl rfl ?_
        refine jr.getf (i := 52) (v := .ref 640) rfl rfl (by decide) rfl (by decide) rfl rfl rfl rfl ?_
        refine jr.iload rfl rfl ?_
        obtain ⟨v3, e3⟩ : ∃ z, M 640 f = z := ⟨_, rfl⟩
        have b3 : (-1) ≤ v3 ∧ v3 ≤ 3 := by rw [← e3]; exact (by have q := hI_M 640 f (by decide); rw [xri_row rfl rfl] at q; exact q)
        refine jr.iald (i := f) (x := v3) rfl (by decide) rfl (by decide) (by omega) (by omega) e3 ?_
        refine jr.iload_n rfl rfl ?_
        refine jr.icmp_ne rfl rfl (by omega) (by omega) (fun h80 => ?_) (fun h80 => ?_)
        · refine jr.iinc rfl rfl (by decide) rfl ?_
          refine jr.goto rfl rfl ?_
          refine jr.pick [0, 1, 2, 3, 4, 5] rfl rfl ?_
          exact ih (nM - 1) (by omega) M (f + 1) c o a k hI_M hH_M hS_M  (fun a i f643 f644 f645 f646 => (hF_M a i f643 f644 f645 f646)) (by omega) (by omega) (by omega) (by omega) (by omega) hy0 (by rw [hy1, ← hy0, pu6_s (by omega), if_neg (by omega)]) (by omega) (by omega) (by omega) (by omega) (by omega) (by omega)
        · refine jr.bipush rfl (by decide) ?_
          exact jr.ireturn rfl rfl rfl (q _ _ hI_M hH_M hS_M  (by omega) (Or.inr (Or.inl ⟨by omega, by rw [hy1, ← hy0, pu6_s (by omega), if_pos (by omega)], by omega, hy0⟩)) (fun a i f643 f644 f645 f646 => (hF_M a i f643 f644 f645 f646)))
theorem r_pool_x {A : Nat → Option (Nat × (Nat → Int32))} {Q : Option Value → jm → Prop} {M : jm} (hI_M : RI M) (hH_M : RH M) (hS_M : RF M) {k : Int} (h_k : (-2147483648) ≤ k ∧ k ≤ 2147483647) {a : Int} (h_a : (-2147483648) ≤ a ∧ a ≤ 2147483647) {o : Int} (h_o : (-2147483648) ≤ o ∧ o ≤ 2147483647) {c : Int} (h_c : (-2147483648) ≤ c ∧ c ≤ 2147483647) (q : ∀ (r : Int) (M' : jm), RI M' → RH M' → RF M' → (-4) ≤ r ∧ r ≤ 32 → ((¬ ((0 ≤ k ∧ k ≤ 3) ∧ (1 ≤ c ∧ c ≤ 32) ∧ (1 ≤ o ∧ o + c ≤ 65536)) ∧ r = -3 ∧ M' = M) ∨ (((0 ≤ k ∧ k ≤ 3) ∧ (1 ≤ c ∧ c ≤ 32) ∧ (1 ≤ o ∧ o + c ≤ 65536)) ∧ pu6 M k 24 0 = 1 ∧ r = -4 ∧ M' = M) ∨ (((0 ≤ k ∧ k ≤ 3) ∧ (1 ≤ c ∧ c ≤ 32) ∧ (1 ≤ o ∧ o + c ≤ 65536)) ∧ pu6 M k 24 0 ≠ 1 ∧ r = c ∧ M' = ju (ju (ju (ju M 643 k 1) 644 k (a % 4294967296)) 645 k o) 646 k c)) → (∀ (a : Nat) (i : Int), a ≠ 643 → a ≠ 644 → a ≠ 645 → a ≠ 646 → M' a i = M a i) → Q (some (.int (Int32.ofInt r))) M') : jc A 2 319 [.ref (598), .int (Int32.ofInt (k)), .int (Int32.ofInt (a)), .int (Int32.ofInt (o)), .int (Int32.ofInt (c))] M Q := by
  refine jc_of (m := xm_319) rfl (Nat.le_of_ble_eq_true rfl) rfl ?_
  refine jr.iload_n rfl rfl ?_
  refine jr.i2l rfl (by omega) ?_
  refine jr.lconst (x := 0) rfl (by decide) ?_
  refine jr.ldc2 (x := 3) rfl rfl (by decide) ?_
  refine jr_s rfl rfl (Or.inl rfl) ⟨Nat.le_of_ble_eq_true rfl, Nat.le_of_ble_eq_true rfl⟩ rfl rfl (jc.deep (c_within (by omega) (by omega) (by omega) (fun l6 u6 => ?_) (fun n6 => ?_)) (by decide))
  · refine jr.if_eq rfl rfl (by omega) (fun h => absurd h (by decide)) (fun _ => ?_)
    refine jr.iload rfl rfl ?_
    refine jr.i2l rfl (by omega) ?_
    refine jr.lconst (x := 1) rfl (by decide) ?_
    refine jr.ldc2 (x := 32) rfl rfl (by decide) ?_
    refine jr_s rfl rfl (Or.inl rfl) ⟨Nat.le_of_ble_eq_true rfl, Nat.le_of_ble_eq_true rfl⟩ rfl rfl (jc.deep (c_within (by omega) (by omega) (by omega) (fun l19 u19 => ?_) (fun n19 => ?_)) (by decide))
    · refine jr.if_eq rfl rfl (by omega) (fun h => absurd h (by decide)) (fun _ => ?_)
      refine jr.iload_n rfl rfl ?_
      refine jr.iconst rfl ?_
      refine jr.icmp_lt rfl rfl (by omega) (by omega) (fun h27 => ?_) (fun h27 => ?_)
      · refine jr.bipush rfl (by decide) ?_
        exact jr.ireturn rfl rfl rfl (q _ _ hI_M hH_M hS_M  (by omega) (Or.inl ⟨by omega, by omega, rfl⟩) (fun a i f643 f644 f645 f646 => rfl))
      · refine jr.iload_n rfl rfl ?_
        refine jr.ldcw (x := 65535) rfl rfl (by decide) ?_
        refine jr.icmp_gt rfl rfl (by omega) (by omega) (fun h34 => ?_) (fun h34 => ?_)
        · refine jr.bipush rfl (by decide) ?_
          exact jr.ireturn rfl rfl rfl (q _ _ hI_M hH_M hS_M  (by omega) (Or.inl ⟨by omega, by omega, rfl⟩) (fun a i f643 f644 f645 f646 => rfl))
        · refine jr.iload_n rfl rfl ?_
          refine jr.iload rfl rfl ?_
          refine jr.iadd rfl ?_
          refine jr.iconst rfl ?_
          refine jr.isub rfl ?_
          refine jr.ldcw (x := 65535) rfl rfl (by decide) ?_
          refine jr.icmp_le rfl rfl (by omega) (by omega) (fun h46 => ?_) (fun h46 => ?_)
          · refine jr.iconst rfl ?_
            refine jr.istore rfl (by decide) rfl ?_
            refine jr.pick [0, 5, 4, 3, 2, 1] rfl rfl ?_
            exact r_pool_L55_x q 24 M 0 c o a k hI_M hH_M hS_M  (fun a i f643 f644 f645 f646 => rfl) (by omega) (by omega) (by omega) (by omega) (by omega) rfl rfl (by omega) (by omega) (by omega) (by omega) (by omega) (by omega)
          · refine jr.bipush rfl (by decide) ?_
            exact jr.ireturn rfl rfl rfl (q _ _ hI_M hH_M hS_M  (by omega) (Or.inl ⟨by omega, by omega, rfl⟩) (fun a i f643 f644 f645 f646 => rfl))
    · refine jr.if_eq rfl rfl (by omega) (fun _ => ?_) (fun h => absurd (by decide) h)
      refine jr.bipush rfl (by decide) ?_
      exact jr.ireturn rfl rfl rfl (q _ _ hI_M hH_M hS_M  (by omega) (Or.inl ⟨by omega, by omega, rfl⟩) (fun a i f643 f644 f645 f646 => rfl))
  · refine jr.if_eq rfl rfl (by omega) (fun _ => ?_) (fun h => absurd (by decide) h)
    refine jr.bipush rfl (by decide) ?_
    exact jr.ireturn rfl rfl rfl (q _ _ hI_M hH_M hS_M  (by omega) (Or.inl ⟨by omega, by omega, rfl⟩) (fun a i f643 f644 f645 f646 => rfl))
theorem r_isTaken_L6_x {A : Nat → Option (Nat × (Nat → Int32))} {Q : Option Value → jm → Prop} {a0 : Int} {o0 : Int} {M : jm} (hI_M : RI M) (hH_M : RH M) (hS_M : RF M) (q : ∀ (r : Int), 0 ≤ r ∧ r ≤ 1 → r = tk6 M a0 o0 24 0 → Q (some (.int (Int32.ofInt r))) M) : ∀ (nM : Nat) (f : Int) (b : Int) (o : Int) (a : Int), 0 ≤ f ∧ f ≤ 24 → 0 ≤ b ∧ b ≤ 1 → (-2147483648) ≤ o ∧ o ≤ 2147483647 → (-9223372036854775808) ≤ a ∧ a ≤ 9223372036854775807 → ((b = 1 ∧ tk6 M a o 24 0 = 1) ∨ (b = 0 ∧ tk6 M a o 24 0 = tk6 M a o (24 - f).toNat f)) → a = a0 → o = o0 → 24 - f ≤ nM → jr A 0 xm_320 6 [(5, .int (Int32.ofInt (f))), (4, .int (Int32.ofInt (b))), (3, .int (Int32.ofInt (o))), (1, .long (Int64.ofInt (a))), (0, .ref (598))] [] M Q := by
  intro nM
  induction nM using Nat.strongRecOn with
  | ind nM ih =>
    intro f b o a h_f h_b h_o h_a hy0 hy1 hy2 hm
    subst hy1
    subst hy2
    refine jr.iload rfl rfl ?_
    refine jr.bipush rfl (by decide) ?_
    refine jr.icmp_ge rfl rfl (by omega) (by omega) (fun h10 => ?_) (fun h10 => ?_)
    · refine jr.iload rfl rfl ?_
      exact jr.ireturn rfl rfl (j_zr (by omega)) (q _ (by omega) (by have h9 := hy0; rcases h9 with h9 | h9; (omega); (rw [h9.2, show (24 - f).toNat = 0 from by omega]; exact h9.1)))
    · refine jr.iload rfl rfl ?_
      refine jr.if_ne rfl rfl (by omega) (fun h15 => ?_) (fun h15 => ?_)
      · refine jr.iconst rfl ?_
        refine jr.goto rfl rfl ?_
        refine jr.istore rfl (by decide) rfl ?_
        refine jr.iinc rfl rfl (by decide) rfl ?_
        refine jr.goto rfl rfl ?_
        refine jr.pick [0, 1, 2, 3, 4] rfl rfl ?_
        exact ih (nM - 1) (by omega) (f + 1) 1 o a (by omega) (by omega) (by omega) (by omega) (by have h9 := hy0; first | exact Or.inl ⟨rfl, by omega⟩ | exact Or.inl ⟨rfl, by rw [(h9.resolve_left (by omega)).2, tk6_s (by omega), if_pos (by omega)]⟩ | exact Or.inr ⟨rfl, by rw [(h9.resolve_left (by omega)).2, tk6_s (by omega), if_neg (by omega)]⟩) (by omega) (by omega) (by omega)
      · refine jr.aload_n rfl rfl ?_
        refine jr.getf (i := 39) (v := .ref 627) rfl rfl (by decide) rfl (by decide) rfl rfl rfl rfl ?_
        refine jr.iload rfl rfl ?_
        obtain ⟨v1, e1⟩ : ∃ z, M 627 f = z := ⟨_, rfl⟩
        have b1 : 0 ≤ v1 ∧ v1 ≤ 1 := by rw [← e1]; exact (by have q := hI_M 627 f (by decide); rw [xri_row rfl rfl] at q; exact q)
        refine jr.zald (i := f) (x := v1) rfl (by decide) rfl (by decide) (by omega) (by omega) e1 ?_
        refine jr.if_eq rfl rfl (by omega) (fun h25 => ?_) (fun h25 => ?_)
        · refine jr.iconst rfl ?_
          refine jr.istore rfl (by decide) rfl ?_
          refine jr.iinc rfl rfl (by decide) rfl ?_
          refine jr.goto rfl rfl ?_
          refine jr.pick [0, 1, 2, 3, 4] rfl rfl ?_
          exact ih (nM - 1) (by omega) (f + 1) 0 o a (by omega) (by omega) (by omega) (by omega) (by have h9 := hy0; first | exact Or.inl ⟨rfl, by omega⟩ | exact Or.inl ⟨rfl, by rw [(h9.resolve_left (by omega)).2, tk6_s (by omega), if_pos (by omega)]⟩ | exact Or.inr ⟨rfl, by rw [(h9.resolve_left (by omega)).2, tk6_s (by omega), if_neg (by omega)]⟩) (by omega) (by omega) (by omega)
        · refine jr.aload_n rfl rfl ?_
          refine jr.getf (i := 52) (v := .ref 640) rfl rfl (by decide) rfl (by decide) rfl rfl rfl rfl ?_
          refine jr.iload rfl rfl ?_
          obtain ⟨v2, e2⟩ : ∃ z, M 640 f = z := ⟨_, rfl⟩
          have b2 : (-1) ≤ v2 ∧ v2 ≤ 3 := by rw [← e2]; exact (by have q := hI_M 640 f (by decide); rw [xri_row rfl rfl] at q; exact q)
          refine jr.iald (i := f) (x := v2) rfl (by decide) rfl (by decide) (by omega) (by omega) e2 ?_
          refine jr.iconst rfl ?_
          refine jr.icmp_eq rfl rfl (by omega) (by omega) (fun h36 => ?_) (fun h36 => ?_)
          · refine jr.iconst rfl ?_
            refine jr.istore rfl (by decide) rfl ?_
            refine jr.iinc rfl rfl (by decide) rfl ?_
            refine jr.goto rfl rfl ?_
            refine jr.pick [0, 1, 2, 3, 4] rfl rfl ?_
            exact ih (nM - 1) (by omega) (f + 1) 0 o a (by omega) (by omega) (by omega) (by omega) (by have h9 := hy0; first | exact Or.inl ⟨rfl, by omega⟩ | exact Or.inl ⟨rfl, by rw [(h9.resolve_left (by omega)).2, tk6_s (by omega), if_pos (by omega)]⟩ | exact Or.inr ⟨rfl, by rw [(h9.resolve_left (by omega)).2, tk6_s (by omega), if_neg (by omega)]⟩) (by omega) (by omega) (by omega)
          · refine jr.aload_n rfl rfl ?_
            refine jr.getf (i := 53) (v := .ref 641) rfl rfl (by decide) rfl (by decide) rfl rfl rfl rfl ?_
            refine jr.iload rfl rfl ?_
            obtain ⟨v3, e3⟩ : ∃ z, M 641 f = z := ⟨_, rfl⟩
            have b3 : (-9223372036854775808) ≤ v3 ∧ v3 ≤ 9223372036854775807 := by rw [← e3]; exact (by have q := hI_M 641 f (by decide); rw [xri_row rfl rfl] at q; exact q)
            refine jr.lald (i := f) (x := v3) rfl (by decide) rfl (by decide) (by omega) (by omega) e3 ?_
            refine jr.lload_n rfl rfl ?_
            refine jr.lcmp_ne rfl rfl rfl (by omega) (by omega) (fun h47 => ?_) (fun h47 => ?_)
            · refine jr.iconst rfl ?_
              refine jr.istore rfl (by decide) rfl ?_
              refine jr.iinc rfl rfl (by decide) rfl ?_
              refine jr.goto rfl rfl ?_
              refine jr.pick [0, 1, 2, 3, 4] rfl rfl ?_
              exact ih (nM - 1) (by omega) (f + 1) 0 o a (by omega) (by omega) (by omega) (by omega) (by have h9 := hy0; first | exact Or.inl ⟨rfl, by omega⟩ | exact Or.inl ⟨rfl, by rw [(h9.resolve_left (by omega)).2, tk6_s (by omega), if_pos (by omega)]⟩ | exact Or.inr ⟨rfl, by rw [(h9.resolve_left (by omega)).2, tk6_s (by omega), if_neg (by omega)]⟩) (by omega) (by omega) (by omega)
            · refine jr.aload_n rfl rfl ?_
              refine jr.getf (i := 54) (v := .ref 642) rfl rfl (by decide) rfl (by decide) rfl rfl rfl rfl ?_
              refine jr.iload rfl rfl ?_
              obtain ⟨v4, e4⟩ : ∃ z, M 642 f = z := ⟨_, rfl⟩
              have b4 : 0 ≤ v4 ∧ v4 ≤ 70000 := by rw [← e4]; exact (by have q := hI_M 642 f (by decide); rw [xri_row rfl rfl] at q; exact q)
              refine jr.iald (i := f) (x := v4) rfl (by decide) rfl (by decide) (by omega) (by omega) e4 ?_
              refine jr.iload_n rfl rfl ?_
              refine jr.icmp_ne rfl rfl (by omega) (by omega) (fun h59 => ?_) (fun h59 => ?_)
              · refine jr.iconst rfl ?_
                refine jr.istore rfl (by decide) rfl ?_
                refine jr.iinc rfl rfl (by decide) rfl ?_
                refine jr.goto rfl rfl ?_
                refine jr.pick [0, 1, 2, 3, 4] rfl rfl ?_
                exact ih (nM - 1) (by omega) (f + 1) 0 o a (by omega) (by omega) (by omega) (by omega) (by have h9 := hy0; first | exact Or.inl ⟨rfl, by omega⟩ | exact Or.inl ⟨rfl, by rw [(h9.resolve_left (by omega)).2, tk6_s (by omega), if_pos (by omega)]⟩ | exact Or.inr ⟨rfl, by rw [(h9.resolve_left (by omega)).2, tk6_s (by omega), if_neg (by omega)]⟩) (by omega) (by omega) (by omega)
              · refine jr.iconst rfl ?_
                refine jr.goto rfl rfl ?_
                refine jr.istore rfl (by decide) rfl ?_
                refine jr.iinc rfl rfl (by decide) rfl ?_
                refine jr.goto rfl rfl ?_
                refine jr.pick [0, 1, 2, 3, 4] rfl rfl ?_
                exact ih (nM - 1) (by omega) (f + 1) 1 o a (by omega) (by omega) (by omega) (by omega) (by have h9 := hy0; first | exact Or.inl ⟨rfl, by omega⟩ | exact Or.inl ⟨rfl, by rw [(h9.resolve_left (by omega)).2, tk6_s (by omega), if_pos (by omega)]⟩ | exact Or.inr ⟨rfl, by rw [(h9.resolve_left (by omega)).2, tk6_s (by omega), if_neg (by omega)]⟩) (by omega) (by omega) (by omega)
theorem r_isTaken_x {A : Nat → Option (Nat × (Nat → Int32))} {Q : Option Value → jm → Prop} {M : jm} (hI_M : RI M) (hH_M : RH M) (hS_M : RF M) {a : Int} (h_a : (-9223372036854775808) ≤ a ∧ a ≤ 9223372036854775807) {o : Int} (h_o : (-2147483648) ≤ o ∧ o ≤ 2147483647) (q : ∀ (r : Int), 0 ≤ r ∧ r ≤ 1 → r = tk6 M a o 24 0 → Q (some (.int (Int32.ofInt r))) M) : jc A 1 320 [.ref (598), .long (Int64.ofInt (a)), .int (Int32.ofInt (o))] M Q := by
  refine jc_of (m := xm_320) rfl (Nat.le_of_ble_eq_true rfl) rfl ?_
  refine jr.iconst rfl ?_
  refine jr.istore rfl (by decide) rfl ?_
  refine jr.iconst rfl ?_
  refine jr.istore rfl (by decide) rfl ?_
  refine jr.pick [0, 1, 4, 3, 2] rfl rfl ?_
  exact r_isTaken_L6_x hI_M hH_M hS_M q 24 0 0 o a (by omega) (by omega) (by omega) (by omega) (Or.inr ⟨rfl, rfl⟩) (by omega) (by omega) (by omega)
noncomputable def ch6 (M : jm) (a p : Int) : Nat → Int → Int
  | 0, _ => -1
  | n + 1, i => if tk6 M a (p + i) 24 0 = 0 then i else ch6 M a p n (i + 1)
theorem ch6_s {M : jm} {a p L i : Int} (h : i < L) : ch6 M a p (L - i).toNat i = if tk6 M a (p + i) 24 0 = 0 then i else ch6 M a p (L - (i + 1)).toNat (i + 1) := by
  obtain ⟨n, hn⟩ : ∃ n : Nat, L = i + 1 + n := ⟨(L - i - 1).toNat, by omega⟩
  subst hn
  rw [show (i + 1 + (n : Int) - i).toNat = n + 1 by omega, show (i + 1 + (n : Int) - (i + 1)).toNat = n by omega]
  rfl
theorem ch6_e {M : jm} {a p L i : Int} (h : L ≤ i) : ch6 M a p (L - i).toNat i = -1 := by
  rw [show (L - i).toNat = 0 by omega]
  rfl
theorem r_change_L74_x {A : Nat → Option (Nat × (Nat → Int32))} {Q : Option Value → jm → Prop} {M0 : jm} {f0 : Int} {k0 : Int} (q : ∀ (r : Int) (M' : jm), RI M' → RH M' → RF M' → (-5) ≤ r ∧ r ≤ 65567 → (((f0 < 0 ∨ 23 < f0 ∨ M0 627 f0 = 0) ∧ r = -2 ∧ M' = M0) ∨ (((0 ≤ f0 ∧ f0 ≤ 23) ∧ M0 627 f0 ≠ 0) ∧ (((k0 < 0 ∨ 3 < k0) ∧ r = -3 ∧ M' = M0) ∨ ((0 ≤ k0 ∧ k0 ≤ 3) ∧ (M0 628 f0 ≠ 0 ∨ M0 629 f0 = 1 ∨ M0 640 f0 ≠ -1 ∨ M0 643 k0 = 0) ∧ r = -4 ∧ M' = M0) ∨ (((0 ≤ k0 ∧ k0 ≤ 3) ∧ ¬ (M0 628 f0 ≠ 0 ∨ M0 629 f0 = 1 ∨ M0 640 f0 ≠ -1 ∨ M0 643 k0 = 0)) ∧ ((ch6 M0 (M0 644 k0) (M0 645 k0) (M0 646 k0).toNat 0 = -1 ∧ r = -5 ∧ M' = M0) ∨ (ch6 M0 (M0 644 k0) (M0 645 k0) (M0 646 k0).toNat 0 ≠ -1 ∧ r = M0 645 k0 + ch6 M0 (M0 644 k0) (M0 645 k0) (M0 646 k0).toNat 0 ∧ M' = ju (ju (ju M0 640 f0 k0) 641 f0 (M0 644 k0)) 642 f0 (M0 645 k0 + ch6 M0 (M0 644 k0) (M0 645 k0) (M0 646 k0).toNat 0))))))) → (∀ (a : Nat) (i : Int), a ≠ 640 → a ≠ 641 → a ≠ 642 → M' a i = M0 a i) → Q (some (.int (Int32.ofInt r))) M') : ∀ (nM : Nat) (M : jm) (o : Int) (k : Int) (f : Int), RI M → RH M → RF M → (∀ (a : Nat) (i : Int), a ≠ 640 → a ≠ 641 → a ≠ 642 → M a i = M0 a i) → 0 ≤ o ∧ o ≤ 65567 → 0 ≤ k ∧ k ≤ 3 → 0 ≤ f ∧ f ≤ 23 → M 645 k ≤ o → o ≤ M 645 k + M 646 k → M = M0 → ch6 M0 (M0 644 k) (M0 645 k) (M0 646 k).toNat 0 = ch6 M0 (M0 644 k) (M0 645 k) (M0 646 k - (o - M0 645 k)).toNat (o - M0 645 k) → (M0 627 f ≠ 0 ∧ ¬ (M0 628 f ≠ 0 ∨ M0 629 f = 1 ∨ M0 640 f ≠ -1 ∨ M0 643 k = 0)) → f = f0 → k = k0 → 65600 - o ≤ nM → jr A 2 xm_321 74 [(3, .int (Int32.ofInt (o))), (2, .int (Int32.ofInt (k))), (1, .int (Int32.ofInt (f))), (0, .ref (598))] [] M Q := by
  intro nM
  induction nM using Nat.strongRecOn with
  | ind nM ih =>
    intro M o k f hI_M hH_M hS_M hF_M h_o h_k h_f hy0 hy1 hy2 hy3 hy4 hy5 hy6 hm
    subst hy5
    subst hy6
    refine jr.iload_n rfl rfl ?_
    refine jr.aload_n rfl rfl ?_
    refine jr.getf (i := 57) (v := .ref 645) rfl rfl (by decide) rfl (by decide) rfl rfl rfl rfl ?_
    refine jr.iload_n rfl rfl ?_
    obtain ⟨v1, e1⟩ : ∃ z, M 645 k = z := ⟨_, rfl⟩
    have b1 : 0 ≤ v1 ∧ v1 ≤ 65535 := by rw [← e1]; exact (by have q := hI_M 645 k (by decide); rw [xri_row rfl rfl] at q; exact q)
    refine jr.iald (i := k) (x := v1) rfl (by decide) rfl (by decide) (by omega) (by omega) e1 ?_
    refine jr.aload_n rfl rfl ?_
    refine jr.getf (i := 58) (v := .ref 646) rfl rfl (by decide) rfl (by decide) rfl rfl rfl rfl ?_
    refine jr.iload_n rfl rfl ?_
    obtain ⟨v2, e2⟩ : ∃ z, M 646 k = z := ⟨_, rfl⟩
    have b2 : 0 ≤ v2 ∧ v2 ≤ 32 := by rw [← e2]; exact (by have q := hI_M 646 k (by decide); rw [xri_row rfl rfl] at q; exact q)
    refine jr.iald (i := k) (x := v2) rfl (by decide) rfl (by decide) (by omega) (by omega) e2 ?_
    refine jr.iadd rfl ?_
    refine jr.icmp_ge rfl rfl (by omega) (by omega) (fun h88 => ?_) (fun h88 => ?_)
    · refine jr.iload_n rfl rfl ?_
      refine jr.aload_n rfl rfl ?_
      refine jr.getf (i := 57) (v := .ref 645) rfl rfl (by decide) rfl (by decide) rfl rfl rfl rfl ?_
      refine jr.iload_n rfl rfl ?_
      refine jr.iald (i := k) (x := v1) rfl (by decide) rfl (by decide) (by omega) (by omega) e1 ?_
      refine jr.aload_n rfl rfl ?_
      refine jr.getf (i := 58) (v := .ref 646) rfl rfl (by decide) rfl (by decide) rfl rfl rfl rfl ?_
      refine jr.iload_n rfl rfl ?_
      refine jr.iald (i := k) (x := v2) rfl (by decide) rfl (by decide) (by omega) (by omega) e2 ?_
      refine jr.iadd rfl ?_
      refine jr.icmp_ne rfl rfl (by omega) (by omega) (fun h125 => ?_) (fun h125 => ?_)
      · refine jr.aload_n rfl rfl ?_
        refine jr.getf (i := 52) (v := .ref 640) rfl rfl (by decide) rfl (by decide) rfl rfl rfl rfl ?_
        refine jr.iload_n rfl rfl ?_
        refine jr.iload_n rfl rfl ?_
        refine jr.iast (i := f) (x := k) rfl (by decide) rfl (by decide) (by omega) (by omega) ?_
        refine jr.aload_n rfl rfl ?_
        refine jr.getf (i := 53) (v := .ref 641) rfl rfl (by decide) rfl (by decide) rfl rfl rfl rfl ?_
        refine jr.iload_n rfl rfl ?_
        refine jr.aload_n rfl rfl ?_
        refine jr.getf (i := 56) (v := .ref 644) rfl rfl (by decide) rfl (by decide) rfl rfl rfl rfl ?_
        refine jr.iload_n rfl rfl ?_
        obtain ⟨v3, e3⟩ : ∃ z, M 644 k = z := ⟨_, rfl⟩
        have b3 : (-9223372036854775808) ≤ v3 ∧ v3 ≤ 9223372036854775807 := by rw [← e3]; exact (by have q := hI_M 644 k (by decide); rw [xri_row rfl rfl] at q; exact q)
        refine jr.lald (i := k) (x := v3) rfl (by decide) rfl (by decide) (by omega) (by omega) ((ju_c _ _ (by decide)).trans e3) ?_
        refine jr.last (i := f) (x := v3) rfl (by decide) rfl (by decide) (by omega) (by omega) ?_
        refine jr.aload_n rfl rfl ?_
        refine jr.getf (i := 54) (v := .ref 642) rfl rfl (by decide) rfl (by decide) rfl rfl rfl rfl ?_
        refine jr.iload_n rfl rfl ?_
        refine jr.iload_n rfl rfl ?_
        refine jr.iast (i := f) (x := o) rfl (by decide) rfl (by decide) (by omega) (by omega) ?_
        refine jr.iload_n rfl rfl ?_
        exact jr.ireturn rfl rfl rfl (q _ _ (RI.u (RI.u (RI.u hI_M (a := 640) (i := f) (by rw [xri_row rfl rfl]; show (-1 : Int) ≤ _ ∧ _ ≤ (3 : Int); omega)) (a := 641) (i := f) (by rw [xri_row rfl rfl]; show (-9223372036854775808 : Int) ≤ _ ∧ _ ≤ (9223372036854775807 : Int); omega)) (a := 642) (i := f) (by rw [xri_row rfl rfl]; show (0 : Int) ≤ _ ∧ _ ≤ (70000 : Int); omega)) (RH.o (RH.o (RH.o hH_M (by decide) (by decide) (by decide)) (by decide) (by decide) (by decide)) (by decide) (by decide) (by decide)) (RF.o (RF.o (RF.o hS_M (by decide) (by decide)) (by decide) (by decide)) (by decide) (by decide))  (by omega) (by exfalso; omega) (fun a i f640 f641 f642 => ((ju_c _ _ f642).trans ((ju_c _ _ f641).trans ((ju_c _ _ f640).trans (hF_M a i f640 f641 f642))))))
      · refine jr.bipush rfl (by decide) ?_
        exact jr.ireturn rfl rfl rfl (q _ _ hI_M hH_M hS_M  (by omega) (by first | (exfalso; omega) | (have q1 : M0 646 k = v2 := (by rw [← hy2]; exact e2); have q2 : M0 645 k = v1 := (by rw [← hy2]; exact e1); exact Or.inr ⟨by have h9 := hy4.1; omega, Or.inr (Or.inr ⟨⟨by omega, hy4.2⟩, Or.inl ⟨by rw [hy3, ch6_e (by omega)], by omega, hy2⟩⟩)⟩)) (fun a i f640 f641 f642 => (hF_M a i f640 f641 f642)))
    · refine jr.aload_n rfl rfl ?_
      refine jr.aload_n rfl rfl ?_
      refine jr.getf (i := 56) (v := .ref 644) rfl rfl (by decide) rfl (by decide) rfl rfl rfl rfl ?_
      refine jr.iload_n rfl rfl ?_
      obtain ⟨v4, e4⟩ : ∃ z, M 644 k = z := ⟨_, rfl⟩
      have b4 : (-9223372036854775808) ≤ v4 ∧ v4 ≤ 9223372036854775807 := by rw [← e4]; exact (by have q := hI_M 644 k (by decide); rw [xri_row rfl rfl] at q; exact q)
      refine jr.lald (i := k) (x := v4) rfl (by decide) rfl (by decide) (by omega) (by omega) e4 ?_
      refine jr.iload_n rfl rfl ?_
      refine jr_v rfl rfl (Or.inl rfl) rfl rfl (by decide) rfl ⟨rfl, Nat.le_of_ble_eq_true rfl, Nat.le_of_ble_eq_true rfl⟩ rfl (jc.deep (r_isTaken_x hI_M hH_M hS_M  (by omega) (by omega)  (fun r5 z5 w5_0 => ?_)) (by decide))
      refine jr.if_eq rfl rfl (by omega) (fun h102 => ?_) (fun h102 => ?_)
      · refine jr.iload_n rfl rfl ?_
        refine jr.aload_n rfl rfl ?_
        refine jr.getf (i := 57) (v := .ref 645) rfl rfl (by decide) rfl (by decide) rfl rfl rfl rfl ?_
        refine jr.iload_n rfl rfl ?_
        refine jr.iald (i := k) (x := v1) rfl (by decide) rfl (by decide) (by omega) (by omega) e1 ?_
        refine jr.aload_n rfl rfl ?_
        refine jr.getf (i := 58) (v := .ref 646) rfl rfl (by decide) rfl (by decide) rfl rfl rfl rfl ?_
        refine jr.iload_n rfl rfl ?_
        refine jr.iald (i := k) (x := v2) rfl (by decide) rfl (by decide) (by omega) (by omega) e2 ?_
        refine jr.iadd rfl ?_
        refine jr.icmp_ne rfl rfl (by omega) (by omega) (fun h125 => ?_) (fun h125 => ?_)
        · refine jr.aload_n rfl rfl ?_
          refine jr.getf (i := 52) (v := .ref 640) rfl rfl (by decide) rfl (by decide) rfl rfl rfl rfl ?_
          refine jr.iload_n rfl rfl ?_
          refine jr.iload_n rfl rfl ?_
          refine jr.iast (i := f) (x := k) rfl (by decide) rfl (by decide) (by omega) (by omega) ?_
          refine jr.aload_n rfl rfl ?_
          refine jr.getf (i := 53) (v := .ref 641) rfl rfl (by decide) rfl (by decide) rfl rfl rfl rfl ?_
          refine jr.iload_n rfl rfl ?_
          refine jr.aload_n rfl rfl ?_
          refine jr.getf (i := 56) (v := .ref 644) rfl rfl (by decide) rfl (by decide) rfl rfl rfl rfl ?_
          refine jr.iload_n rfl rfl ?_
          refine jr.lald (i := k) (x := v4) rfl (by decide) rfl (by decide) (by omega) (by omega) ((ju_c _ _ (by decide)).trans e4) ?_
          refine jr.last (i := f) (x := v4) rfl (by decide) rfl (by decide) (by omega) (by omega) ?_
          refine jr.aload_n rfl rfl ?_
          refine jr.getf (i := 54) (v := .ref 642) rfl rfl (by decide) rfl (by decide) rfl rfl rfl rfl ?_
          refine jr.iload_n rfl rfl ?_
          refine jr.iload_n rfl rfl ?_
          refine jr.iast (i := f) (x := o) rfl (by decide) rfl (by decide) (by omega) (by omega) ?_
          refine jr.iload_n rfl rfl ?_
          exact jr.ireturn rfl rfl rfl (q _ _ (RI.u (RI.u (RI.u hI_M (a := 640) (i := f) (by rw [xri_row rfl rfl]; show (-1 : Int) ≤ _ ∧ _ ≤ (3 : Int); omega)) (a := 641) (i := f) (by rw [xri_row rfl rfl]; show (-9223372036854775808 : Int) ≤ _ ∧ _ ≤ (9223372036854775807 : Int); omega)) (a := 642) (i := f) (by rw [xri_row rfl rfl]; show (0 : Int) ≤ _ ∧ _ ≤ (70000 : Int); omega)) (RH.o (RH.o (RH.o hH_M (by decide) (by decide) (by decide)) (by decide) (by decide) (by decide)) (by decide) (by decide) (by decide)) (RF.o (RF.o (RF.o hS_M (by decide) (by decide)) (by decide) (by decide)) (by decide) (by decide))  (by omega) (by first | (exfalso; omega) | (have q1 : M0 646 k = v2 := (by rw [← hy2]; exact e2); have q2 : M0 645 k = v1 := (by rw [← hy2]; exact e1); have q3 : M0 644 k = v4 := (by rw [← hy2]; exact e4); have hz : ch6 M0 (M0 644 k) (M0 645 k) (M0 646 k).toNat 0 = o - v1 := (by rw [hy3, q1, q2, q3, ch6_s (by omega), if_pos (by rw [← hy2, show v1 + (o - v1) = o from by omega, ← w5_0]; omega)]); exact Or.inr ⟨by have h9 := hy4.1; omega, Or.inr (Or.inr ⟨⟨by omega, hy4.2⟩, Or.inr ⟨by rw [hz]; omega, by rw [hz, q2]; omega, by rw [hz, q2, q3, hy2, show v1 + (o - v1) = o from by omega]⟩⟩)⟩)) (fun a i f640 f641 f642 => ((ju_c _ _ f642).trans ((ju_c _ _ f641).trans ((ju_c _ _ f640).trans (hF_M a i f640 f641 f642))))))
        · refine jr.bipush rfl (by decide) ?_
          exact jr.ireturn rfl rfl rfl (q _ _ hI_M hH_M hS_M  (by omega) (by first | (exfalso; omega) | (have q1 : M0 646 k = v2 := (by rw [← hy2]; exact e2); have q2 : M0 645 k = v1 := (by rw [← hy2]; exact e1); have q3 : M0 644 k = v4 := (by rw [← hy2]; exact e4); exact Or.inr ⟨by have h9 := hy4.1; omega, Or.inr (Or.inr ⟨⟨by omega, hy4.2⟩, Or.inl ⟨by rw [hy3, ch6_e (by omega)], by omega, hy2⟩⟩)⟩)) (fun a i f640 f641 f642 => (hF_M a i f640 f641 f642)))
      · have sx102 : (1 : Int) ≤ r5 := by omega
        refine jr.iinc rfl rfl (by decide) rfl ?_
        refine jr.goto rfl rfl ?_
        refine jr.pick [0, 1, 2, 3] rfl rfl ?_
        exact ih (nM - 1) (by omega) M (o + 1) k f hI_M hH_M hS_M  (fun a i f640 f641 f642 => (hF_M a i f640 f641 f642)) (by omega) (by omega) (by omega) (by omega) (by omega) hy2 (by have q1 : M0 646 k = v2 := (by rw [← hy2]; exact e2); have q2 : M0 645 k = v1 := (by rw [← hy2]; exact e1); have q3 : M0 644 k = v4 := (by rw [← hy2]; exact e4); rw [hy3, q1, q2, q3, ch6_s (by omega), if_neg (by rw [← hy2, show v1 + (o - v1) = o from by omega, ← w5_0]; omega), show o - v1 + 1 = o + 1 - v1 from by omega]) hy4 (by omega) (by omega) (by omega)
theorem r_change_x {A : Nat → Option (Nat × (Nat → Int32))} {Q : Option Value → jm → Prop} {M : jm} (hI_M : RI M) (hH_M : RH M) (hS_M : RF M) {f : Int} (h_f : (-2147483648) ≤ f ∧ f ≤ 2147483647) {k : Int} (h_k : (-2147483648) ≤ k ∧ k ≤ 2147483647) (q : ∀ (r : Int) (M' : jm), RI M' → RH M' → RF M' → (-5) ≤ r ∧ r ≤ 65567 → (((f < 0 ∨ 23 < f ∨ M 627 f = 0) ∧ r = -2 ∧ M' = M) ∨ (((0 ≤ f ∧ f ≤ 23) ∧ M 627 f ≠ 0) ∧ (((k < 0 ∨ 3 < k) ∧ r = -3 ∧ M' = M) ∨ ((0 ≤ k ∧ k ≤ 3) ∧ (M 628 f ≠ 0 ∨ M 629 f = 1 ∨ M 640 f ≠ -1 ∨ M 643 k = 0) ∧ r = -4 ∧ M' = M) ∨ (((0 ≤ k ∧ k ≤ 3) ∧ ¬ (M 628 f ≠ 0 ∨ M 629 f = 1 ∨ M 640 f ≠ -1 ∨ M 643 k = 0)) ∧ ((ch6 M (M 644 k) (M 645 k) (M 646 k).toNat 0 = -1 ∧ r = -5 ∧ M' = M) ∨ (ch6 M (M 644 k) (M 645 k) (M 646 k).toNat 0 ≠ -1 ∧ r = M 645 k + ch6 M (M 644 k) (M 645 k) (M 646 k).toNat 0 ∧ M' = ju (ju (ju M 640 f k) 641 f (M 644 k)) 642 f (M 645 k + ch6 M (M 644 k) (M 645 k) (M 646 k).toNat 0))))))) → (∀ (a : Nat) (i : Int), a ≠ 640 → a ≠ 641 → a ≠ 642 → M' a i = M a i) → Q (some (.int (Int32.ofInt r))) M') : jc A 3 321 [.ref (598), .int (Int32.ofInt (f)), .int (Int32.ofInt (k))] M Q := by
  have bq : (0 : Int) ≤ M 646 k ∧ M 646 k ≤ 32 := by have q := hI_M 646 k (by decide); rw [xri_row rfl rfl] at q; exact q
  refine jc_of (m := xm_321) rfl (Nat.le_of_ble_eq_true rfl) rfl ?_
  refine jr.aload_n rfl rfl ?_
  refine jr.iload_n rfl rfl ?_
  refine jr_v rfl rfl (Or.inl rfl) rfl rfl (by decide) rfl ⟨rfl, Nat.le_of_ble_eq_true rfl, Nat.le_of_ble_eq_true rfl⟩ rfl (jc.deep (c_isFlow hI_M (by omega) (fun l2 u2 t2 => ?_) (fun n2 => ?_)) (by decide))
  · refine jr.if_ne rfl rfl (by omega) (fun _ => ?_) (fun h => absurd (by decide) h)
    refine jr.iload_n rfl rfl ?_
    refine jr.i2l rfl (by omega) ?_
    refine jr.lconst (x := 0) rfl (by decide) ?_
    refine jr.ldc2 (x := 3) rfl rfl (by decide) ?_
    refine jr_s rfl rfl (Or.inl rfl) ⟨Nat.le_of_ble_eq_true rfl, Nat.le_of_ble_eq_true rfl⟩ rfl rfl (jc.deep (c_within (by omega) (by omega) (by omega) (fun l17 u17 => ?_) (fun n17 => ?_)) (by decide))
    · refine jr.if_ne rfl rfl (by omega) (fun _ => ?_) (fun h => absurd (by decide) h)
      refine jr.aload_n rfl rfl ?_
      refine jr.getf (i := 40) (v := .ref 628) rfl rfl (by decide) rfl (by decide) rfl rfl rfl rfl ?_
      refine jr.iload_n rfl rfl ?_
      obtain ⟨v1, e1⟩ : ∃ z, M 628 f = z := ⟨_, rfl⟩
      have b1 : 0 ≤ v1 ∧ v1 ≤ 1 := by rw [← e1]; exact (by have q := hI_M 628 f (by decide); rw [xri_row rfl rfl] at q; exact q)
      refine jr.zald (i := f) (x := v1) rfl (by decide) rfl (by decide) (by omega) (by omega) e1 ?_
      refine jr.if_ne rfl rfl (by omega) (fun h32 => ?_) (fun h32 => ?_)
      · have sx32 : (1 : Int) ≤ v1 := by omega
        refine jr.bipush rfl (by decide) ?_
        exact jr.ireturn rfl rfl rfl (q _ _ hI_M hH_M hS_M  (by omega) (Or.inr ⟨by omega, by first | exact Or.inl ⟨by omega, by omega, rfl⟩ | exact Or.inr (Or.inl ⟨by omega, by omega, by omega, rfl⟩)⟩) (fun a i f640 f641 f642 => rfl))
      · refine jr.aload_n rfl rfl ?_
        refine jr.getf (i := 41) (v := .ref 629) rfl rfl (by decide) rfl (by decide) rfl rfl rfl rfl ?_
        refine jr.iload_n rfl rfl ?_
        obtain ⟨v2, e2⟩ : ∃ z, M 629 f = z := ⟨_, rfl⟩
        have b2 : 0 ≤ v2 ∧ v2 ≤ 255 := by rw [← e2]; exact (by have q := hI_M 629 f (by decide); rw [xri_row rfl rfl] at q; exact q)
        refine jr.iald (i := f) (x := v2) rfl (by decide) rfl (by decide) (by omega) (by omega) e2 ?_
        refine jr.iconst rfl ?_
        refine jr.icmp_eq rfl rfl (by omega) (by omega) (fun h42 => ?_) (fun h42 => ?_)
        · refine jr.bipush rfl (by decide) ?_
          exact jr.ireturn rfl rfl rfl (q _ _ hI_M hH_M hS_M  (by omega) (Or.inr ⟨by omega, by first | exact Or.inl ⟨by omega, by omega, rfl⟩ | exact Or.inr (Or.inl ⟨by omega, by omega, by omega, rfl⟩)⟩) (fun a i f640 f641 f642 => rfl))
        · refine jr.aload_n rfl rfl ?_
          refine jr.getf (i := 52) (v := .ref 640) rfl rfl (by decide) rfl (by decide) rfl rfl rfl rfl ?_
          refine jr.iload_n rfl rfl ?_
          obtain ⟨v3, e3⟩ : ∃ z, M 640 f = z := ⟨_, rfl⟩
          have b3 : (-1) ≤ v3 ∧ v3 ≤ 3 := by rw [← e3]; exact (by have q := hI_M 640 f (by decide); rw [xri_row rfl rfl] at q; exact q)
          refine jr.iald (i := f) (x := v3) rfl (by decide) rfl (by decide) (by omega) (by omega) e3 ?_
          refine jr.iconst rfl ?_
          refine jr.icmp_ne rfl rfl (by omega) (by omega) (fun h52 => ?_) (fun h52 => ?_)
          · have sx52 : (0 : Int) ≤ v3 := by omega
            refine jr.bipush rfl (by decide) ?_
            exact jr.ireturn rfl rfl rfl (q _ _ hI_M hH_M hS_M  (by omega) (Or.inr ⟨by omega, by first | exact Or.inl ⟨by omega, by omega, rfl⟩ | exact Or.inr (Or.inl ⟨by omega, by omega, by omega, rfl⟩)⟩) (fun a i f640 f641 f642 => rfl))
          · refine jr.aload_n rfl rfl ?_
            refine jr.getf (i := 55) (v := .ref 643) rfl rfl (by decide) rfl (by decide) rfl rfl rfl rfl ?_
            refine jr.iload_n rfl rfl ?_
            obtain ⟨v4, e4⟩ : ∃ z, M 643 k = z := ⟨_, rfl⟩
            have b4 : 0 ≤ v4 ∧ v4 ≤ 1 := by rw [← e4]; exact (by have q := hI_M 643 k (by decide); rw [xri_row rfl rfl] at q; exact q)
            refine jr.zald (i := k) (x := v4) rfl (by decide) rfl (by decide) (by omega) (by omega) e4 ?_
            refine jr.if_ne rfl rfl (by omega) (fun h61 => ?_) (fun h61 => ?_)
            · have sx61 : (1 : Int) ≤ v4 := by omega
              refine jr.aload_n rfl rfl ?_
              refine jr.getf (i := 57) (v := .ref 645) rfl rfl (by decide) rfl (by decide) rfl rfl rfl rfl ?_
              refine jr.iload_n rfl rfl ?_
              obtain ⟨v5, e5⟩ : ∃ z, M 645 k = z := ⟨_, rfl⟩
              have b5 : 0 ≤ v5 ∧ v5 ≤ 65535 := by rw [← e5]; exact (by have q := hI_M 645 k (by decide); rw [xri_row rfl rfl] at q; exact q)
              refine jr.iald (i := k) (x := v5) rfl (by decide) rfl (by decide) (by omega) (by omega) e5 ?_
              refine jr.istore_n rfl (by decide) rfl ?_
              refine jr.pick [0, 3, 2, 1] rfl rfl ?_
              exact r_change_L74_x q 65600 M v5 k f hI_M hH_M hS_M  (fun a i f640 f641 f642 => rfl) (by omega) (by omega) (by omega) (by omega) (by omega) rfl (by rw [show v5 - M 645 k = 0 from by omega, show M 646 k - 0 = M 646 k from by omega]) ⟨by omega, by omega⟩ (by omega) (by omega) (by omega)
            · refine jr.bipush rfl (by decide) ?_
              exact jr.ireturn rfl rfl rfl (q _ _ hI_M hH_M hS_M  (by omega) (Or.inr ⟨by omega, by first | exact Or.inl ⟨by omega, by omega, rfl⟩ | exact Or.inr (Or.inl ⟨by omega, by omega, by omega, rfl⟩)⟩) (fun a i f640 f641 f642 => rfl))
    · refine jr.if_ne rfl rfl (by omega) (fun h => absurd h (by decide)) (fun _ => ?_)
      refine jr.bipush rfl (by decide) ?_
      exact jr.ireturn rfl rfl rfl (q _ _ hI_M hH_M hS_M  (by omega) (Or.inr ⟨by omega, by first | exact Or.inl ⟨by omega, by omega, rfl⟩ | exact Or.inr (Or.inl ⟨by omega, by omega, by omega, rfl⟩)⟩) (fun a i f640 f641 f642 => rfl))
  · refine jr.if_ne rfl rfl (by omega) (fun h => absurd h (by decide)) (fun _ => ?_)
    refine jr.bipush rfl (by decide) ?_
    exact jr.ireturn rfl rfl rfl (q _ _ hI_M hH_M hS_M  (by omega) (Or.inl ⟨by omega, by omega, rfl⟩) (fun a i f640 f641 f642 => rfl))
end
