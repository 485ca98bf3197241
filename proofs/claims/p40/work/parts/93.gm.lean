section
/-! ===== the reference: finish ===== -/
noncomputable def kG (M : jm) (g : Int) : Int → Int := fun k => M 618 (400 * g + k)
noncomputable def rG1 (M : jm) (g : Int) : Int → Int := fun k => M 615 (360 * g + k)
noncomputable def pG (M : jm) : Nat → Int → Int
  | 0, _ => -1
  | n + 1, i => if M 600 i = -1 then i else pG M n (i + 1)
theorem pG_s {M : jm} {i : Int} (h : i < 24) : pG M (24 - i).toNat i = if M 600 i = -1 then i else pG M (24 - (i + 1)).toNat (i + 1) := by
  obtain ⟨n, hn⟩ : ∃ n : Nat, i = 23 - n := ⟨(23 - i).toNat, by omega⟩
  subst hn
  rw [show (24 - (23 - (n : Int))).toNat = n + 1 by omega, show (24 - (23 - (n : Int) + 1)).toNat = n by omega]
  rfl
noncomputable def hl2 (K H : Int) : Int := if K = 2 then H else H - 8
noncomputable def mkG (M : jm) (g p : Int) : Int → Int := mk0 (kG M g) (rG1 M g) (rf M p) (hl2 (M 607 g) (M 617 g)) (M 614 g)
noncomputable def mkR (M : jm) (g p : Int) : Int → Int := if M 607 g = 2 then ptn (mk2 (mkG M g p) (M 621 g) (hl2 (M 607 g) (M 617 g) + M 614 g)) (M 621 g + 10) 2 (tn (sb (fz (mk2 (mkG M g p) (M 621 g) (hl2 (M 607 g) (M 617 g) + M 614 g)) (M 621 g + 10)) (M 621 g) (4 * (mk2 (mkG M g p) (M 621 g) (hl2 (M 607 g) (M 617 g) + M 614 g) (M 621 g) % 16)).toNat)) else ptn (ptn (mkG M g p) (M 620 g) 1 (M 618 (400 * g + M 619 g))) (M 621 g + 2) 2 (hl2 (M 607 g) (M 617 g) + M 614 g - M 621 g - 24)
noncomputable def NR6 (M : jm) (g : Int) : Prop := M 614 g = -1 ∨ M 617 g = -1 ∨ rdy (wR M g) (M 614 g).toNat 0 = 0
theorem rf_w (M : jm) (x i v : Int) : rf (ju M 601 (400 * x + i) v) x = fun j => if j = i then v else rf M x j := by
  funext j
  unfold rf
  by_cases e : j = i
  · subst e; rw [ju_same, if_pos rfl]
  · rw [ju_i _ _ (by omega), if_neg e]
theorem mk0_z (kp rw f : Int → Int) : f = mk0 kp rw f 0 0 := by
  funext j
  unfold mk0
  rw [if_neg (by omega), if_neg (by omega)]
theorem mk0_k {M : jm} {kp rw f : Int → Int} {p k v : Int} (h : rf M p = mk0 kp rw f k 0) (h0 : 0 ≤ k) (hv : v = kp k) : rf (ju M 601 (400 * p + k) v) p = mk0 kp rw f (k + 1) 0 := by
  rw [rf_w, h]
  funext j
  unfold mk0
  by_cases e : j = k
  · subst e; rw [if_pos rfl, if_pos (by omega), hv]
  · rw [if_neg e]
    by_cases q : 0 ≤ j ∧ j < k
    · rw [if_pos q, if_pos (by omega)]
    · rw [if_neg q, if_neg (by omega), if_neg (by omega), if_neg (by omega)]
theorem mk0_w {M : jm} {kp rw f : Int → Int} {p d k v : Int} (h : rf M p = mk0 kp rw f d k) (hd : 0 ≤ d) (h0 : 0 ≤ k) (hv : v = rw k) : rf (ju M 601 (400 * p + d + k) v) p = mk0 kp rw f d (k + 1) := by
  rw [show 400 * p + d + k = 400 * p + (d + k) by omega, rf_w, h]
  funext j
  unfold mk0
  by_cases e : j = d + k
  · subst e; rw [if_pos rfl, if_neg (by omega), if_pos (by omega), show d + k - d = k by omega, hv]
  · rw [if_neg e]
    by_cases q : 0 ≤ j ∧ j < d
    · rw [if_pos q, if_pos q]
    · rw [if_neg q, if_neg q]
      by_cases q2 : d ≤ j ∧ j < d + k
      · rw [if_pos q2, if_pos (by omega)]
      · rw [if_neg q2, if_neg (by omega)]
theorem rf_1 {M : jm} {p y v : Int} (hv : 0 ≤ v ∧ v ≤ 255) : rf (ju M 601 (400 * p + y) v) p = ptn (rf M p) y 1 v := by
  rw [rf_w]
  funext j
  unfold ptn
  by_cases e : j = y
  · subst e
    rw [if_pos rfl, if_pos (by omega), show j + 1 - 1 - j = 0 by omega]
    show v = v % 256
    omega
  · rw [if_neg e, if_neg (by omega)]
/-- what finish leaves behind -/
noncomputable def FIN (M M' : jm) (g r : Int) : Prop := (NR6 M g ∧ r = -1 ∧ M' = M) ∨ (¬ NR6 M g ∧ ((pG M 24 0 = -1 ∨ 400 < hl2 (M 607 g) (M 617 g) + M 614 g) ∧ r = -5 ∧ M' = M)) ∨ (¬ NR6 M g ∧ (pG M 24 0 ≠ -1 ∧ hl2 (M 607 g) (M 617 g) + M 614 g ≤ 400) ∧ r = pG M 24 0 ∧ (M' 600 r = hl2 (M 607 g) (M 617 g) + M 614 g ∧ M' 606 g = 0 ∧ rf M' r = mkR M g r) ∧ OX M M' r ∧ (∀ j : Int, j ≠ r → M' 600 j = M 600 j) ∧ ∀ j : Int, j ≠ g → M' 606 j = M 606 j)
theorem fin_2 {M : jm} {g p nt ln d W x ra rt : Int} {f0 fa fb fc : Int → Int} (hK : M 607 g = 2) (hn : M 621 g = nt) (hd : hl2 (M 607 g) (M 617 g) = d) (hW : M 614 g = W) (h0 : f0 = mkG M g p) (hl : ln = d + W) (ha : fa = ptn f0 (nt + 2) 2 (ln - nt)) (hb : fb = ptn fa (nt + 6) 2 0) (hx : x = fb nt % 16) (had : ra = sb (fz fb (nt + 10)) nt (nt + 4 * x - nt).toNat) (ht : rt = tn ra) (hc : fc = ptn fb (nt + 10) 2 rt) : fc = mkR M g p := by
  have e : fb = mk2 (mkG M g p) nt (d + W) := by rw [hb, ha, h0, hl]; rfl
  unfold mkR
  rw [if_pos hK, hn, hd, hW, hc, ht, had, ← e, ← hx, show nt + 4 * x - nt = 4 * x by omega]
theorem fin_6 {M : jm} {g p nt ln d W ah b : Int} {f0 fa fc : Int → Int} (hK : M 607 g ≠ 2) (hn : M 621 g = nt) (hd : hl2 (M 607 g) (M 617 g) = d) (hW : M 614 g = W) (h0 : f0 = mkG M g p) (hl : ln = d + W) (hh : M 620 g = ah) (hb : M 618 (400 * g + M 619 g) = b) (ha : fa = ptn f0 ah 1 b) (hc : fc = ptn fa (nt + 2) 2 (ln - nt - 24)) : fc = mkR M g p := by
  unfold mkR
  rw [if_neg hK, hn, hd, hW, hc, ha, h0, hl, hh, hb]
theorem ptn_o {f : Int → Int} {y n v k : Int} (h : k < y) : ptn f y n v k = f k := by
  unfold ptn
  rw [if_neg (by omega)]
theorem r_finish_L222_x {A : Nat → Option (Nat × (Nat → Int32))} {Q : Option Value → jm → Prop} {M0 : jm} {g0 : Int} (q : ∀ (r : Int) (M' : jm), RI M' → RH M' → RF M' → (-5) ≤ r ∧ r ≤ 23 → RG1 M' → FIN M0 M' g0 r → (∀ (a : Nat) (i : Int), a ≠ 600 → a ≠ 601 → a ≠ 602 → a ≠ 606 → M' a i = M0 a i) → Q (some (.int (Int32.ofInt r))) M') : ∀ (nM : Nat) (M : jm) (k : Int) (d : Int) (p : Int) (g : Int), RI M → RH M → RF M → (∀ (a : Nat) (i : Int), a ≠ 600 → a ≠ 601 → a ≠ 602 → a ≠ 606 → M a i = M0 a i) → 0 ≤ k ∧ k ≤ 360 → 0 ≤ d ∧ d ≤ 400 → 0 ≤ p ∧ p ≤ 23 → 0 ≤ g ∧ g ≤ 7 → RG1 M → M 606 g ≠ 0 → M 617 g ≠ -1 → 0 ≤ M 614 g → ((M 607 g = 2 ∧ d = M 617 g) ∨ (M 607 g ≠ 2 ∧ d = M 617 g - 8)) → d + M 614 g ≤ 400 → M 600 p = d + M 614 g → BF M g p d → rf M p = mk0 (kG M0 g) (rG1 M0 g) (rf M0 p) d k → OX M0 M p → (∀ j : Int, j ≠ p → M 600 j = M0 600 j) → (pG M0 24 0 = p ∧ ¬ NR6 M0 g) → (∀ j : Int, M 606 j = M0 606 j) → k ≤ M 614 g → g = g0 → 360 - k ≤ nM → jr A 2 xm_296 222 [(5, .int (Int32.ofInt (k))), (4, .int (Int32.ofInt (d))), (3, .int (Int32.ofInt (p))), (1, .int (Int32.ofInt (g))), (0, .ref (598))] [] M Q := by
  intro nM
  induction nM using Nat.strongRecOn with
  | ind nM ih =>
    intro M k d p g hI_M hH_M hS_M hF_M h_k h_d h_p h_g hy0 hy1 hy2 hy3 hy4 hy5 hy6 hy7 hy8 hy9 hy10 hy11 hy12 hy13 hy14 hm
    subst hy14
    have hG1 := hy0
    have hb := hy7
    have zg := (hG1 g (by omega) hy1).2 hy2
    refine jr.iload rfl rfl ?_
    refine jr.aload_n rfl rfl ?_
    refine jr.getf (i := 25) (v := .ref 614) rfl rfl (nlt rfl) rfl (nlt rfl) rfl rfl rfl rfl ?_
    refine jr.iload_n rfl rfl ?_
    obtain ⟨v1, e1⟩ : ∃ z, M 614 g = z := ⟨_, rfl⟩
    have b1 : (-1) ≤ v1 ∧ v1 ≤ 360 := by rw [← e1]; exact (by have q := hI_M 614 g (Nat.le_of_ble_eq_true rfl); rw [xri_row rfl rfl] at q; exact q)
    refine jr.iald (i := g) (x := v1) rfl (nlt rfl) rfl (Nat.le_of_ble_eq_true rfl) (by omega) (by omega) e1 ?_
    refine jr.icmp_ge rfl rfl (by first | (refine rgb (by assumption) ?_; exact rfl) | omega) (by first | (refine rgb (by assumption) ?_; exact rfl) | omega) (fun h230 => ?_) (fun h230 => ?_)
    · refine jr.aload_n rfl rfl ?_
      refine jr.getf (i := 32) (v := .ref 621) rfl rfl (nlt rfl) rfl (nlt rfl) rfl rfl rfl rfl ?_
      refine jr.iload_n rfl rfl ?_
      obtain ⟨v2, e2⟩ : ∃ z, M 621 g = z := ⟨_, rfl⟩
      have b2 : 0 ≤ v2 ∧ v2 ≤ 400 := by rw [← e2]; exact (by have q := hI_M 621 g (Nat.le_of_ble_eq_true rfl); rw [xri_row rfl rfl] at q; exact q)
      refine jr.iald (i := g) (x := v2) rfl (nlt rfl) rfl (Nat.le_of_ble_eq_true rfl) (by omega) (by omega) e2 ?_
      refine jr.istore (ls' := [_, _, _, _, _]) rfl (nlt rfl) rfl ?_
      refine jr.aload_n rfl rfl ?_
      refine jr.getf (i := 18) (v := .ref 607) rfl rfl (nlt rfl) rfl (nlt rfl) rfl rfl rfl rfl ?_
      refine jr.iload_n rfl rfl ?_
      obtain ⟨v3, e3⟩ : ∃ z, M 607 g = z := ⟨_, rfl⟩
      have b3 : 0 ≤ v3 ∧ v3 ≤ 11 := by rw [← e3]; exact (by have q := hI_M 607 g (Nat.le_of_ble_eq_true rfl); rw [xri_row rfl rfl] at q; exact q)
      refine jr.iald (i := g) (x := v3) rfl (nlt rfl) rfl (Nat.le_of_ble_eq_true rfl) (by omega) (by omega) e3 ?_
      refine jr.iconst rfl ?_
      refine jr.icmp_ne rfl rfl (by first | (refine rgb (by assumption) ?_; exact rfl) | omega) (rgl rfl) (fun h283 => ?_) (fun h283 => ?_)
      · refine jr.aload_n rfl rfl ?_
        refine jr.getf (i := 4) (v := .ref 601) rfl rfl (nlt rfl) rfl (nlt rfl) rfl rfl rfl rfl ?_
        refine jr.sipush rfl (by decide) ?_
        refine jr.iload_n rfl rfl ?_
        refine jr.imul rfl ?_
        refine jr.aload_n rfl rfl ?_
        refine jr.getf (i := 31) (v := .ref 620) rfl rfl (nlt rfl) rfl (nlt rfl) rfl rfl rfl rfl ?_
        refine jr.iload_n rfl rfl ?_
        obtain ⟨v4, e4⟩ : ∃ z, M 620 g = z := ⟨_, rfl⟩
        have b4 : 0 ≤ v4 ∧ v4 ≤ 400 := by rw [← e4]; exact (by have q := hI_M 620 g (Nat.le_of_ble_eq_true rfl); rw [xri_row rfl rfl] at q; exact q)
        refine jr.iald (i := g) (x := v4) rfl (nlt rfl) rfl (Nat.le_of_ble_eq_true rfl) (by omega) (by omega) e4 ?_
        refine jr.iadd rfl ?_
        refine jr.aload_n rfl rfl ?_
        refine jr.getf (i := 29) (v := .ref 618) rfl rfl (nlt rfl) rfl (nlt rfl) rfl rfl rfl rfl ?_
        refine jr.sipush rfl (by decide) ?_
        refine jr.iload_n rfl rfl ?_
        refine jr.imul rfl ?_
        refine jr.aload_n rfl rfl ?_
        refine jr.getf (i := 30) (v := .ref 619) rfl rfl (nlt rfl) rfl (nlt rfl) rfl rfl rfl rfl ?_
        refine jr.iload_n rfl rfl ?_
        obtain ⟨v5, e5⟩ : ∃ z, M 619 g = z := ⟨_, rfl⟩
        have b5 : 0 ≤ v5 ∧ v5 ≤ 400 := by rw [← e5]; exact (by have q := hI_M 619 g (Nat.le_of_ble_eq_true rfl); rw [xri_row rfl rfl] at q; exact q)
        refine jr.iald (i := g) (x := v5) rfl (nlt rfl) rfl (Nat.le_of_ble_eq_true rfl) (by omega) (by omega) e5 ?_
        refine jr.iadd rfl ?_
        obtain ⟨v6, e6⟩ : ∃ z, M 618 ((400 * g) + v5) = z := ⟨_, rfl⟩
        have b6 : 0 ≤ v6 ∧ v6 ≤ 255 := by rw [← e6]; exact (by have q := hI_M 618 ((400 * g) + v5) (by decide); rw [xri_row rfl rfl] at q; exact q)
        refine jr.iald (i := ((400 * g) + v5)) (x := v6) rfl (nlt rfl) rfl (Nat.le_of_ble_eq_true rfl) (by omega) (by omega) e6 ?_
        refine jr.iast (i := ((400 * p) + v4)) (x := v6) rfl (nlt rfl) rfl (Nat.le_of_ble_eq_true rfl) (by omega) (by omega) ?_
        refine jr.aload_n rfl rfl ?_
        refine jr.iload_n rfl rfl ?_
        refine jr.iload rfl rfl ?_
        refine jr.iconst rfl ?_
        refine jr.iadd rfl ?_
        refine jr.aload_n rfl rfl ?_
        refine jr.getf (i := 3) (v := .ref 600) rfl rfl (nlt rfl) rfl (nlt rfl) rfl rfl rfl rfl ?_
        refine jr.iload_n rfl rfl ?_
        obtain ⟨v7, e7⟩ : ∃ z, M 600 p = z := ⟨_, rfl⟩
        have b7 : (-1) ≤ v7 ∧ v7 ≤ 400 := by rw [← e7]; exact (by have q := hI_M 600 p (Nat.le_of_ble_eq_true rfl); rw [xri_row rfl rfl] at q; exact q)
        refine jr.iald (i := p) (x := v7) rfl (nlt rfl) rfl (Nat.le_of_ble_eq_true rfl) (by omega) (by omega) ((ju_c _ _ (by decide)).trans e7) ?_
        refine jr.iload rfl rfl ?_
        refine jr.isub rfl ?_
        refine jr.bipush rfl (jbp _ (nlt rfl)) ?_
        refine jr.isub rfl ?_
        refine jr_v rfl rfl (Or.inl rfl) rfl rfl (nlt rfl) rfl ⟨rfl, Nat.le_of_ble_eq_true rfl, Nat.le_of_ble_eq_true rfl⟩ rfl (jc.deep (r_layTwo_x (RI.u hI_M (a := 601) (i := ((400 * p) + v4)) (by rw [xri_row rfl rfl]; show (0 : Int) ≤ _ ∧ _ ≤ (255 : Int); omega)) (RH.o hH_M (by decide) (by decide) (by decide)) (RF.o hS_M (by decide) (by decide))  (by omega) (by omega) (by omega)  (fun M8 hI_M8 hH_M8 hS_M8  w8_0 w8_1 w8_2 => ?_)) (Nat.le_of_ble_eq_true rfl))
        refine jr.aload_n rfl rfl ?_
        refine jr.getf (i := 17) (v := .ref 606) rfl rfl (nlt rfl) rfl (nlt rfl) rfl rfl rfl rfl ?_
        refine jr.iload_n rfl rfl ?_
        refine jr.iconst rfl ?_
        refine jr.zast (i := g) (x := 0) rfl (nlt rfl) rfl (Nat.le_of_ble_eq_true rfl) (by omega) (by omega) (j_zn (by omega)) ?_
        refine jr.iload_n rfl rfl ?_
        have e9 : M8 600 p = v7 := ((w8_2 600 p (nne rfl)).trans ((ju_c _ _ (by decide)).trans e7))
        exact jr.ireturn rfl rfl rfl (q _ _ (RI.u hI_M8 (a := 606) (i := g) (by rw [xri_row rfl rfl]; show (0 : Int) ≤ _ ∧ _ ≤ (1 : Int); omega)) (RH.o hH_M8 (by decide) (by decide) (by decide)) (RF.o hS_M8 (by decide) (by decide))  (by omega) (RG1.off (RG1.fr (RG1.o hG1 rfl) (fun a i ha => w8_2 a i (fun e => absurd ha (by rw [e]; decide)))) _) (by have a7 := hF_M 607 g (nne rfl) (nne rfl) (nne rfl) (nne rfl); have a17 := hF_M 617 g (nne rfl) (nne rfl) (nne rfl) (nne rfl); have a14 := hF_M 614 g (nne rfl) (nne rfl) (nne rfl) (nne rfl); have a21 := hF_M 621 g (nne rfl) (nne rfl) (nne rfl) (nne rfl); have hd : hl2 (M0 607 g) (M0 617 g) = d := (by unfold hl2; rw [← a7, ← a17]; have h4 := hy4; rcases h4 with h4 | h4; (rw [if_pos h4.1]; omega); (rw [if_neg h4.1]; omega)); have hg0 : rf M p = mkG M0 g p := (by unfold mkG; rw [hy8, hd, ← a14, e1, show k = v1 from by omega]); exact Or.inr (Or.inr ⟨hy11.2, ⟨by rw [hy11.1]; omega, by rw [hd, ← a14, e1]; omega⟩, hy11.1.symm, ⟨(by rw [hd, ← a14, e1]; exact (((ju_c _ _ (by decide)).trans e9)).trans (by omega)), (ju_same _ _ _ _), (rf_e (M := M8) (fun i => ju_c _ _ (by decide))).trans (fin_6 (f0 := rf M p) (by rw [← a7]; omega) (by rw [← a21]; exact e2) hd (by rw [← a14]; exact e1) hg0 (show v7 = d + v1 by omega) (by rw [← hF_M 620 g (by decide) (by decide) (by decide) (by decide)]; exact e4) (by rw [← hF_M 618 _ (by decide) (by decide) (by decide) (by decide), ← hF_M 619 g (by decide) (by decide) (by decide) (by decide), e5]; exact e6) (rf_1 (by omega)) w8_0)⟩, (fun j hj => (ju_c _ _ (by decide)).trans ((w8_1 j hj).trans ((ju_i _ _ (by omega)).trans (hy9 j hj)))), (fun j hj => (ju_c _ _ (by decide)).trans ((w8_2 600 j (nne rfl)).trans ((ju_c _ _ (by decide)).trans (hy10 j hj)))), (fun j hj => (ju_i _ _ hj).trans ((w8_2 606 j (nne rfl)).trans ((ju_c _ _ (by decide)).trans (hy12 j))))⟩)) (fun a i f600 f601 f602 f606 => ((ju_c _ _ f606).trans ((w8_2 a i f601).trans ((ju_c _ _ f601).trans (hF_M a i f600 f601 f602 f606))))))
      · refine jr.aload_n rfl rfl ?_
        refine jr.iload_n rfl rfl ?_
        refine jr.iload rfl rfl ?_
        refine jr.iconst rfl ?_
        refine jr.iadd rfl ?_
        refine jr.aload_n rfl rfl ?_
        refine jr.getf (i := 3) (v := .ref 600) rfl rfl (nlt rfl) rfl (nlt rfl) rfl rfl rfl rfl ?_
        refine jr.iload_n rfl rfl ?_
        obtain ⟨v10, e10⟩ : ∃ z, M 600 p = z := ⟨_, rfl⟩
        have b10 : (-1) ≤ v10 ∧ v10 ≤ 400 := by rw [← e10]; exact (by have q := hI_M 600 p (Nat.le_of_ble_eq_true rfl); rw [xri_row rfl rfl] at q; exact q)
        refine jr.iald (i := p) (x := v10) rfl (nlt rfl) rfl (Nat.le_of_ble_eq_true rfl) (by omega) (by omega) e10 ?_
        refine jr.iload rfl rfl ?_
        refine jr.isub rfl ?_
        refine jr_v rfl rfl (Or.inl rfl) rfl rfl (nlt rfl) rfl ⟨rfl, Nat.le_of_ble_eq_true rfl, Nat.le_of_ble_eq_true rfl⟩ rfl (jc.deep (r_layTwo_x hI_M hH_M hS_M  (by omega) (by omega) (by omega)  (fun M11 hI_M11 hH_M11 hS_M11  w11_0 w11_1 w11_2 => ?_)) (Nat.le_of_ble_eq_true rfl))
        refine jr.aload_n rfl rfl ?_
        refine jr.iload_n rfl rfl ?_
        refine jr.iload rfl rfl ?_
        refine jr.bipush rfl (jbp _ (nlt rfl)) ?_
        refine jr.iadd rfl ?_
        refine jr.iconst rfl ?_
        refine jr_v rfl rfl (Or.inl rfl) rfl rfl (nlt rfl) rfl ⟨rfl, Nat.le_of_ble_eq_true rfl, Nat.le_of_ble_eq_true rfl⟩ rfl (jc.deep (r_layTwo_x hI_M11 hH_M11 hS_M11  (by omega) (by omega) (by omega)  (fun M12 hI_M12 hH_M12 hS_M12  w12_0 w12_1 w12_2 => ?_)) (Nat.le_of_ble_eq_true rfl))
        refine jr.aload_n rfl rfl ?_
        refine jr.iload_n rfl rfl ?_
        refine jr.iload rfl rfl ?_
        refine jr.bipush rfl (jbp _ (nlt rfl)) ?_
        refine jr.iadd rfl ?_
        refine jr.aload_n rfl rfl ?_
        refine jr.iload_n rfl rfl ?_
        refine jr.iload rfl rfl ?_
        refine jr.iload rfl rfl ?_
        refine jr.iconst rfl ?_
        refine jr.aload_n rfl rfl ?_
        refine jr.iload_n rfl rfl ?_
        refine jr.iload rfl rfl ?_
        refine jr_v rfl rfl (Or.inl rfl) rfl rfl (nlt rfl) rfl ⟨rfl, Nat.le_of_ble_eq_true rfl, Nat.le_of_ble_eq_true rfl⟩ rfl (jc.deep (r_one hI_M12 hH_M12 hS_M12 (Kp.rfl _) (by omega) (by omega)  (fun r13 z13 w13_0 => ?_)) (Nat.le_of_ble_eq_true rfl))
        have zz := (hG1 g (by omega) hy1).2 hy2
        have zb := hb (by omega) (by omega)
        rw [e2] at zb zz
        have z1 : M12 601 (400 * p + v2) = M11 601 (400 * p + v2) := (congrFun w12_0 v2).trans (ptn_o (by omega))
        have z2 : M11 601 (400 * p + v2) = M 601 (400 * p + v2) := (congrFun w11_0 v2).trans (ptn_o (by omega))
        refine jr.bipush rfl (jbp _ (nlt rfl)) ?_
        refine jr.iand rfl ?_
        have b14 : j_and r13 15 = r13 % 16 := j_and_mask 4 (by decide) (by omega) (by omega)
        generalize j_and r13 15 = v14 at b14 ⊢
        refine jr.imul rfl ?_
        refine jr.iadd rfl ?_
        refine jr.iload rfl rfl ?_
        refine jr.bipush rfl (jbp _ (nlt rfl)) ?_
        refine jr.iadd rfl ?_
        refine jr_v rfl rfl (Or.inl rfl) rfl rfl (nlt rfl) rfl ⟨rfl, Nat.le_of_ble_eq_true rfl, Nat.le_of_ble_eq_true rfl⟩ rfl (jc.deep (r_added_x hI_M12 hH_M12 hS_M12  (by omega) (by omega) (by omega) (by omega) (by omega) (fun r15 z15 w15_0 => ?_)) (Nat.le_of_ble_eq_true rfl))
        refine jr_s rfl rfl (Or.inl rfl) ⟨Nat.le_of_ble_eq_true rfl, Nat.le_of_ble_eq_true rfl⟩ rfl rfl (jc.deep (r_turned_x hI_M12 hH_M12 hS_M12  (by omega)  (fun r16 z16 w16_0 => ?_)) (Nat.le_of_ble_eq_true rfl))
        refine jr_v rfl rfl (Or.inl rfl) rfl rfl (nlt rfl) rfl ⟨rfl, Nat.le_of_ble_eq_true rfl, Nat.le_of_ble_eq_true rfl⟩ rfl (jc.deep (r_layTwo_x hI_M12 hH_M12 hS_M12  (by omega) (by omega) (by omega)  (fun M17 hI_M17 hH_M17 hS_M17  w17_0 w17_1 w17_2 => ?_)) (Nat.le_of_ble_eq_true rfl))
        refine jr.goto rfl rfl ?_
        refine jr.aload_n rfl rfl ?_
        refine jr.getf (i := 17) (v := .ref 606) rfl rfl (nlt rfl) rfl (nlt rfl) rfl rfl rfl rfl ?_
        refine jr.iload_n rfl rfl ?_
        refine jr.iconst rfl ?_
        refine jr.zast (i := g) (x := 0) rfl (nlt rfl) rfl (Nat.le_of_ble_eq_true rfl) (by omega) (by omega) (j_zn (by omega)) ?_
        refine jr.iload_n rfl rfl ?_
        have e18 : M11 600 p = v10 := ((w11_2 600 p (nne rfl)).trans e10)
        have e19 : M12 600 p = v10 := ((w12_2 600 p (nne rfl)).trans e18)
        have e20 : M17 600 p = v10 := ((w17_2 600 p (nne rfl)).trans e19)
        exact jr.ireturn rfl rfl rfl (q _ _ (RI.u hI_M17 (a := 606) (i := g) (by rw [xri_row rfl rfl]; show (0 : Int) ≤ _ ∧ _ ≤ (1 : Int); omega)) (RH.o hH_M17 (by decide) (by decide) (by decide)) (RF.o hS_M17 (by decide) (by decide))  (by omega) (RG1.off (RG1.fr (RG1.fr (RG1.fr hG1 (fun a i ha => w11_2 a i (fun e => absurd ha (by rw [e]; decide)))) (fun a i ha => w12_2 a i (fun e => absurd ha (by rw [e]; decide)))) (fun a i ha => w17_2 a i (fun e => absurd ha (by rw [e]; decide)))) _) (by have a7 := hF_M 607 g (nne rfl) (nne rfl) (nne rfl) (nne rfl); have a17 := hF_M 617 g (nne rfl) (nne rfl) (nne rfl) (nne rfl); have a14 := hF_M 614 g (nne rfl) (nne rfl) (nne rfl) (nne rfl); have a21 := hF_M 621 g (nne rfl) (nne rfl) (nne rfl) (nne rfl); have hd : hl2 (M0 607 g) (M0 617 g) = d := (by unfold hl2; rw [← a7, ← a17]; have h4 := hy4; rcases h4 with h4 | h4; (rw [if_pos h4.1]; omega); (rw [if_neg h4.1]; omega)); have hg0 : rf M p = mkG M0 g p := (by unfold mkG; rw [hy8, hd, ← a14, e1, show k = v1 from by omega]); exact Or.inr (Or.inr ⟨hy11.2, ⟨by rw [hy11.1]; omega, by rw [hd, ← a14, e1]; omega⟩, hy11.1.symm, ⟨(by rw [hd, ← a14, e1]; exact (((ju_c _ _ (by decide)).trans e20)).trans (by omega)), (ju_same _ _ _ _), (rf_e (M := M17) (fun i => ju_c _ _ (by decide))).trans (fin_2 (x := v14) (f0 := rf M p) (fa := rf M11 p) (fb := rf M12 p) (by rw [← a7]; omega) (by rw [← a21]; exact e2) hd (by rw [← a14]; exact e1) hg0 (show v10 = d + v1 by omega) w11_0 w12_0 (by have h9 := w13_0; rw [rf_a]; omega) w15_0 w16_0 w17_0)⟩, (fun j hj => (ju_c _ _ (by decide)).trans ((w17_1 j hj).trans ((w12_1 j hj).trans ((w11_1 j hj).trans (hy9 j hj))))), (fun j hj => (ju_c _ _ (by decide)).trans ((w17_2 600 j (nne rfl)).trans ((w12_2 600 j (nne rfl)).trans ((w11_2 600 j (nne rfl)).trans (hy10 j hj))))), (fun j hj => (ju_i _ _ hj).trans ((w17_2 606 j (nne rfl)).trans ((w12_2 606 j (nne rfl)).trans ((w11_2 606 j (nne rfl)).trans (hy12 j)))))⟩)) (fun a i f600 f601 f602 f606 => ((ju_c _ _ f606).trans ((w17_2 a i f601).trans ((w12_2 a i f601).trans ((w11_2 a i f601).trans (hF_M a i f600 f601 f602 f606)))))))
    · refine jr.aload_n rfl rfl ?_
      refine jr.getf (i := 4) (v := .ref 601) rfl rfl (nlt rfl) rfl (nlt rfl) rfl rfl rfl rfl ?_
      refine jr.sipush rfl (by decide) ?_
      refine jr.iload_n rfl rfl ?_
      refine jr.imul rfl ?_
      refine jr.iload rfl rfl ?_
      refine jr.iadd rfl ?_
      refine jr.iload rfl rfl ?_
      refine jr.iadd rfl ?_
      refine jr.aload_n rfl rfl ?_
      refine jr.getf (i := 26) (v := .ref 615) rfl rfl (nlt rfl) rfl (nlt rfl) rfl rfl rfl rfl ?_
      refine jr.sipush rfl (by decide) ?_
      refine jr.iload_n rfl rfl ?_
      refine jr.imul rfl ?_
      refine jr.iload rfl rfl ?_
      refine jr.iadd rfl ?_
      obtain ⟨v21, e21⟩ : ∃ z, M 615 ((360 * g) + k) = z := ⟨_, rfl⟩
      have b21 : 0 ≤ v21 ∧ v21 ≤ 255 := by rw [← e21]; exact (by have q := hI_M 615 ((360 * g) + k) (by decide); rw [xri_row rfl rfl] at q; exact q)
      refine jr.iald (i := ((360 * g) + k)) (x := v21) rfl (nlt rfl) rfl (Nat.le_of_ble_eq_true rfl) (by omega) (by omega) e21 ?_
      refine jr.iast (i := (((400 * p) + d) + k)) (x := v21) rfl (nlt rfl) rfl (Nat.le_of_ble_eq_true rfl) (by omega) (by omega) ?_
      refine jr.iinc (ls' := [_, _, _, _, _]) rfl rfl (nlt rfl) rfl ?_
      refine jr.goto rfl rfl ?_
      obtain ⟨v22, e22⟩ : ∃ z, M 606 g = z := ⟨_, rfl⟩
      have b22 : 0 ≤ v22 ∧ v22 ≤ 1 := by rw [← e22]; exact (by have q := hI_M 606 g (Nat.le_of_ble_eq_true rfl); rw [xri_row rfl rfl] at q; exact q)
      obtain ⟨v23, e23⟩ : ∃ z, M 617 g = z := ⟨_, rfl⟩
      have b23 : (-1) ≤ v23 ∧ v23 ≤ 400 := by rw [← e23]; exact (by have q := hI_M 617 g (Nat.le_of_ble_eq_true rfl); rw [xri_row rfl rfl] at q; exact q)
      obtain ⟨v24, e24⟩ : ∃ z, M 607 g = z := ⟨_, rfl⟩
      have b24 : 0 ≤ v24 ∧ v24 ≤ 11 := by rw [← e24]; exact (by have q := hI_M 607 g (Nat.le_of_ble_eq_true rfl); rw [xri_row rfl rfl] at q; exact q)
      obtain ⟨v25, e25⟩ : ∃ z, M 600 p = z := ⟨_, rfl⟩
      have b25 : (-1) ≤ v25 ∧ v25 ≤ 400 := by rw [← e25]; exact (by have q := hI_M 600 p (Nat.le_of_ble_eq_true rfl); rw [xri_row rfl rfl] at q; exact q)
      refine jr.pick (ls := [_, _, _, _, _]) [0, 1, 2, 3, 4] rfl rfl ?_
      exact ih (nM - 1) (by omega) (ju M 601 (((400 * p) + d) + k) v21) (k + 1) d p g (RI.u hI_M (a := 601) (i := (((400 * p) + d) + k)) (by rw [xri_row rfl rfl]; show (0 : Int) ≤ _ ∧ _ ≤ (255 : Int); omega)) (RH.o hH_M (by decide) (by decide) (by decide)) (RF.o hS_M (by decide) (by decide))  (fun a i f600 f601 f602 f606 => ((ju_c _ _ f601).trans (hF_M a i f600 f601 f602 f606))) (by omega) (by omega) (by omega) (by omega) (RG1.o hG1 rfl) (by rw [((ju_c _ _ (by decide)).trans e22)] <;> omega) (by rw [((ju_c _ _ (by decide)).trans e23)] <;> omega) (by rw [((ju_c _ _ (by decide)).trans e1)] <;> omega) (by rw [((ju_c _ _ (by decide)).trans e24), ((ju_c _ _ (by decide)).trans e23)] <;> omega) (by rw [((ju_c _ _ (by decide)).trans e1)] <;> omega) (by rw [((ju_c _ _ (by decide)).trans e25), ((ju_c _ _ (by decide)).trans e1)] <;> omega) (BF.w hb (fun q => by have z := (hG1 g (by omega) hy1).2 hy2; omega)) (mk0_w hy8 (by omega) (by omega) (by unfold rG1; rw [← hF_M 615 (360 * g + k) (by decide) (by decide) (by decide) (by decide)]; omega)) (fun j hj => (ju_i _ _ (by omega)).trans (hy9 j hj)) (fun j hj => (ju_c _ _ (by decide)).trans (hy10 j hj)) hy11 (fun j => (ju_c _ _ (by decide)).trans (hy12 j)) (by rw [((ju_c _ _ (by decide)).trans e1)] <;> omega) (by omega) (by omega)
theorem r_finish_L180_x {A : Nat → Option (Nat × (Nat → Int32))} {Q : Option Value → jm → Prop} {M0 : jm} {g0 : Int} (q : ∀ (r : Int) (M' : jm), RI M' → RH M' → RF M' → (-5) ≤ r ∧ r ≤ 23 → RG1 M' → FIN M0 M' g0 r → (∀ (a : Nat) (i : Int), a ≠ 600 → a ≠ 601 → a ≠ 602 → a ≠ 606 → M' a i = M0 a i) → Q (some (.int (Int32.ofInt r))) M') : ∀ (nM : Nat) (M : jm) (k : Int) (d : Int) (p : Int) (g : Int), RI M → RH M → RF M → (∀ (a : Nat) (i : Int), a ≠ 600 → a ≠ 601 → a ≠ 602 → a ≠ 606 → M a i = M0 a i) → 0 ≤ k ∧ k ≤ 400 → 0 ≤ d ∧ d ≤ 400 → 0 ≤ p ∧ p ≤ 23 → 0 ≤ g ∧ g ≤ 7 → RG1 M → M 606 g ≠ 0 → M 617 g ≠ -1 → 0 ≤ M 614 g → ((M 607 g = 2 ∧ d = M 617 g) ∨ (M 607 g ≠ 2 ∧ d = M 617 g - 8)) → d + M 614 g ≤ 400 → M 600 p = d + M 614 g → BF M g p k → rf M p = mk0 (kG M0 g) (rG1 M0 g) (rf M0 p) k 0 → OX M0 M p → (∀ j : Int, j ≠ p → M 600 j = M0 600 j) → (pG M0 24 0 = p ∧ ¬ NR6 M0 g) → (∀ j : Int, M 606 j = M0 606 j) → k ≤ d → g = g0 → 400 - k ≤ nM → jr A 2 xm_296 180 [(5, .int (Int32.ofInt (k))), (4, .int (Int32.ofInt (d))), (3, .int (Int32.ofInt (p))), (1, .int (Int32.ofInt (g))), (0, .ref (598))] [] M Q := by
  intro nM
  induction nM using Nat.strongRecOn with
  | ind nM ih =>
    intro M k d p g hI_M hH_M hS_M hF_M h_k h_d h_p h_g hy0 hy1 hy2 hy3 hy4 hy5 hy6 hy7 hy8 hy9 hy10 hy11 hy12 hy13 hy14 hm
    subst hy14
    have hG1 := hy0
    have hb := hy7
    have zg := (hG1 g (by omega) hy1).2 hy2
    refine jr.iload rfl rfl ?_
    refine jr.iload rfl rfl ?_
    refine jr.icmp_ge rfl rfl (by first | (refine rgb (by assumption) ?_; exact rfl) | omega) (by first | (refine rgb (by assumption) ?_; exact rfl) | omega) (fun h184 => ?_) (fun h184 => ?_)
    · refine jr.iconst rfl ?_
      refine jr.istore (ls' := [_, _, _, _, _]) rfl (nlt rfl) rfl ?_
      obtain ⟨v1, e1⟩ : ∃ z, M 606 g = z := ⟨_, rfl⟩
      have b1 : 0 ≤ v1 ∧ v1 ≤ 1 := by rw [← e1]; exact (by have q := hI_M 606 g (Nat.le_of_ble_eq_true rfl); rw [xri_row rfl rfl] at q; exact q)
      obtain ⟨v2, e2⟩ : ∃ z, M 617 g = z := ⟨_, rfl⟩
      have b2 : (-1) ≤ v2 ∧ v2 ≤ 400 := by rw [← e2]; exact (by have q := hI_M 617 g (Nat.le_of_ble_eq_true rfl); rw [xri_row rfl rfl] at q; exact q)
      obtain ⟨v3, e3⟩ : ∃ z, M 614 g = z := ⟨_, rfl⟩
      have b3 : (-1) ≤ v3 ∧ v3 ≤ 360 := by rw [← e3]; exact (by have q := hI_M 614 g (Nat.le_of_ble_eq_true rfl); rw [xri_row rfl rfl] at q; exact q)
      obtain ⟨v4, e4⟩ : ∃ z, M 607 g = z := ⟨_, rfl⟩
      have b4 : 0 ≤ v4 ∧ v4 ≤ 11 := by rw [← e4]; exact (by have q := hI_M 607 g (Nat.le_of_ble_eq_true rfl); rw [xri_row rfl rfl] at q; exact q)
      obtain ⟨v5, e5⟩ : ∃ z, M 600 p = z := ⟨_, rfl⟩
      have b5 : (-1) ≤ v5 ∧ v5 ≤ 400 := by rw [← e5]; exact (by have q := hI_M 600 p (Nat.le_of_ble_eq_true rfl); rw [xri_row rfl rfl] at q; exact q)
      refine jr.pick (ls := [_, _, _, _, _]) [0, 1, 2, 3, 4] rfl rfl ?_
      exact r_finish_L222_x q 360 M 0 d p g hI_M hH_M hS_M  (fun a i f600 f601 f602 f606 => (hF_M a i f600 f601 f602 f606)) (by omega) (by omega) (by omega) (by omega) hG1 (by rw [e1] <;> omega) (by rw [e2] <;> omega) (by rw [e3] <;> omega) (by rw [e4, e2] <;> omega) (by rw [e3] <;> omega) (by rw [e5, e3] <;> omega) (fun a b => hb a (by omega)) (by rw [hy8, show k = d from by omega]) hy9 hy10 hy11 hy12 (by rw [e3] <;> omega) (by omega) (by omega)
    · refine jr.aload_n rfl rfl ?_
      refine jr.getf (i := 4) (v := .ref 601) rfl rfl (nlt rfl) rfl (nlt rfl) rfl rfl rfl rfl ?_
      refine jr.sipush rfl (by decide) ?_
      refine jr.iload_n rfl rfl ?_
      refine jr.imul rfl ?_
      refine jr.iload rfl rfl ?_
      refine jr.iadd rfl ?_
      refine jr.aload_n rfl rfl ?_
      refine jr.getf (i := 29) (v := .ref 618) rfl rfl (nlt rfl) rfl (nlt rfl) rfl rfl rfl rfl ?_
      refine jr.sipush rfl (by decide) ?_
      refine jr.iload_n rfl rfl ?_
      refine jr.imul rfl ?_
      refine jr.iload rfl rfl ?_
      refine jr.iadd rfl ?_
      obtain ⟨v6, e6⟩ : ∃ z, M 618 ((400 * g) + k) = z := ⟨_, rfl⟩
      have b6 : 0 ≤ v6 ∧ v6 ≤ 255 := by rw [← e6]; exact (by have q := hI_M 618 ((400 * g) + k) (by decide); rw [xri_row rfl rfl] at q; exact q)
      refine jr.iald (i := ((400 * g) + k)) (x := v6) rfl (nlt rfl) rfl (Nat.le_of_ble_eq_true rfl) (by omega) (by omega) e6 ?_
      refine jr.iast (i := ((400 * p) + k)) (x := v6) rfl (nlt rfl) rfl (Nat.le_of_ble_eq_true rfl) (by omega) (by omega) ?_
      refine jr.iinc (ls' := [_, _, _, _, _]) rfl rfl (nlt rfl) rfl ?_
      refine jr.goto rfl rfl ?_
      obtain ⟨v7, e7⟩ : ∃ z, M 606 g = z := ⟨_, rfl⟩
      have b7 : 0 ≤ v7 ∧ v7 ≤ 1 := by rw [← e7]; exact (by have q := hI_M 606 g (Nat.le_of_ble_eq_true rfl); rw [xri_row rfl rfl] at q; exact q)
      obtain ⟨v8, e8⟩ : ∃ z, M 617 g = z := ⟨_, rfl⟩
      have b8 : (-1) ≤ v8 ∧ v8 ≤ 400 := by rw [← e8]; exact (by have q := hI_M 617 g (Nat.le_of_ble_eq_true rfl); rw [xri_row rfl rfl] at q; exact q)
      obtain ⟨v9, e9⟩ : ∃ z, M 614 g = z := ⟨_, rfl⟩
      have b9 : (-1) ≤ v9 ∧ v9 ≤ 360 := by rw [← e9]; exact (by have q := hI_M 614 g (Nat.le_of_ble_eq_true rfl); rw [xri_row rfl rfl] at q; exact q)
      obtain ⟨v10, e10⟩ : ∃ z, M 607 g = z := ⟨_, rfl⟩
      have b10 : 0 ≤ v10 ∧ v10 ≤ 11 := by rw [← e10]; exact (by have q := hI_M 607 g (Nat.le_of_ble_eq_true rfl); rw [xri_row rfl rfl] at q; exact q)
      obtain ⟨v11, e11⟩ : ∃ z, M 600 p = z := ⟨_, rfl⟩
      have b11 : (-1) ≤ v11 ∧ v11 ≤ 400 := by rw [← e11]; exact (by have q := hI_M 600 p (Nat.le_of_ble_eq_true rfl); rw [xri_row rfl rfl] at q; exact q)
      refine jr.pick (ls := [_, _, _, _, _]) [0, 1, 2, 3, 4] rfl rfl ?_
      exact ih (nM - 1) (by omega) (ju M 601 ((400 * p) + k) v6) (k + 1) d p g (RI.u hI_M (a := 601) (i := ((400 * p) + k)) (by rw [xri_row rfl rfl]; show (0 : Int) ≤ _ ∧ _ ≤ (255 : Int); omega)) (RH.o hH_M (by decide) (by decide) (by decide)) (RF.o hS_M (by decide) (by decide))  (fun a i f600 f601 f602 f606 => ((ju_c _ _ f601).trans (hF_M a i f600 f601 f602 f606))) (by omega) (by omega) (by omega) (by omega) (RG1.o hG1 rfl) (by rw [((ju_c _ _ (by decide)).trans e7)] <;> omega) (by rw [((ju_c _ _ (by decide)).trans e8)] <;> omega) (by rw [((ju_c _ _ (by decide)).trans e9)] <;> omega) (by rw [((ju_c _ _ (by decide)).trans e10), ((ju_c _ _ (by decide)).trans e8)] <;> omega) (by rw [((ju_c _ _ (by decide)).trans e9)] <;> omega) (by rw [((ju_c _ _ (by decide)).trans e11), ((ju_c _ _ (by decide)).trans e9)] <;> omega) (BF.step hb e6) (mk0_k hy8 (by omega) (by unfold kG; rw [← hF_M 618 (400 * g + k) (by decide) (by decide) (by decide) (by decide)]; omega)) (fun j hj => (ju_i _ _ (by omega)).trans (hy9 j hj)) (fun j hj => (ju_c _ _ (by decide)).trans (hy10 j hj)) hy11 (fun j => (ju_c _ _ (by decide)).trans (hy12 j)) (by omega) (by omega) (by omega)
theorem r_finish_L73_x {A : Nat → Option (Nat × (Nat → Int32))} {Q : Option Value → jm → Prop} {M0 : jm} {g0 : Int} (q : ∀ (r : Int) (M' : jm), RI M' → RH M' → RF M' → (-5) ≤ r ∧ r ≤ 23 → RG1 M' → FIN M0 M' g0 r → (∀ (a : Nat) (i : Int), a ≠ 600 → a ≠ 601 → a ≠ 602 → a ≠ 606 → M' a i = M0 a i) → Q (some (.int (Int32.ofInt r))) M') : ∀ (nM : Nat) (M : jm) (k : Int) (p : Int) (g : Int), RI M → RH M → RF M → (∀ (a : Nat) (i : Int), a ≠ 600 → a ≠ 601 → a ≠ 602 → a ≠ 606 → M a i = M0 a i) → (-1) ≤ k ∧ k ≤ 23 → (-1) ≤ p ∧ p ≤ 23 → 0 ≤ g ∧ g ≤ 7 → RG1 M → M 606 g ≠ 0 → M 617 g ≠ -1 → 0 ≤ M 614 g → M = M0 → rdy (wR M0 g) (M0 614 g).toNat 0 ≠ 0 → p = pG M0 (24 - (k + 1)).toNat (k + 1) → g = g0 → k + 1 ≤ nM → jr A 2 xm_296 73 [(4, .int (Int32.ofInt (k))), (3, .int (Int32.ofInt (p))), (1, .int (Int32.ofInt (g))), (0, .ref (598))] [] M Q := by
  intro nM
  induction nM using Nat.strongRecOn with
  | ind nM ih =>
    intro M k p g hI_M hH_M hS_M hF_M h_k h_p h_g hy0 hy1 hy2 hy3 hy4 hy5 hy6 hy7 hm
    subst hy7
    have hG1 := hy0
    have zg := (hG1 g (by omega) hy1).2 hy2
    have nt : (0 : Int) ≤ M 621 g ∧ M 621 g ≤ 400 := by have q := hI_M 621 g (Nat.le_of_ble_eq_true rfl); rw [xri_row rfl rfl] at q; exact q
    refine jr.iload rfl rfl ?_
    refine jr.if_lt rfl rfl (by first | (refine rgb (by assumption) ?_; exact rfl) | omega) (fun h75 => ?_) (fun h75 => ?_)
    · refine jr.aload_n rfl rfl ?_
      refine jr.getf (i := 18) (v := .ref 607) rfl rfl (nlt rfl) rfl (nlt rfl) rfl rfl rfl rfl ?_
      refine jr.iload_n rfl rfl ?_
      obtain ⟨v1, e1⟩ : ∃ z, M 607 g = z := ⟨_, rfl⟩
      have b1 : 0 ≤ v1 ∧ v1 ≤ 11 := by rw [← e1]; exact (by have q := hI_M 607 g (Nat.le_of_ble_eq_true rfl); rw [xri_row rfl rfl] at q; exact q)
      refine jr.iald (i := g) (x := v1) rfl (nlt rfl) rfl (Nat.le_of_ble_eq_true rfl) (by omega) (by omega) e1 ?_
      refine jr.iconst rfl ?_
      refine jr.icmp_ne rfl rfl (by first | (refine rgb (by assumption) ?_; exact rfl) | omega) (rgl rfl) (fun h109 => ?_) (fun h109 => ?_)
      · refine jr.aload_n rfl rfl ?_
        refine jr.getf (i := 28) (v := .ref 617) rfl rfl (nlt rfl) rfl (nlt rfl) rfl rfl rfl rfl ?_
        refine jr.iload_n rfl rfl ?_
        obtain ⟨v2, e2⟩ : ∃ z, M 617 g = z := ⟨_, rfl⟩
        have b2 : (-1) ≤ v2 ∧ v2 ≤ 400 := by rw [← e2]; exact (by have q := hI_M 617 g (Nat.le_of_ble_eq_true rfl); rw [xri_row rfl rfl] at q; exact q)
        refine jr.iald (i := g) (x := v2) rfl (nlt rfl) rfl (Nat.le_of_ble_eq_true rfl) (by omega) (by omega) e2 ?_
        refine jr.bipush rfl (jbp _ (nlt rfl)) ?_
        refine jr.isub rfl ?_
        refine jr.istore (ls' := [_, _, _, _]) rfl (nlt rfl) rfl ?_
        refine jr.iload_n rfl rfl ?_
        refine jr.iconst rfl ?_
        refine jr.icmp_eq rfl rfl (by first | (refine rgb (by assumption) ?_; exact rfl) | omega) (rgl rfl) (fun h134 => ?_) (fun h134 => ?_)
        · refine jr.bipush rfl (by decide) ?_
          exact jr.ireturn rfl rfl rfl (q _ _ hI_M hH_M hS_M  (by first | exact rgq rfl | omega) hG1 (Or.inr (Or.inl ⟨(fun h => by unfold NR6 at h; rw [hy4] at hy2 hy3; rcases h with h | h | h; (omega); (exact hy2 h); (exact hy5 h)), (by have hp : pG M0 24 0 = p := (by have h9 := hy6; rw [show (24 - (k + 1)).toNat = 24 from by omega, show k + 1 = 0 from by omega] at h9; exact h9.symm); rw [hp, ← hy4]; unfold hl2; first | (left; omega) | (right; rw [if_pos (by omega)]; omega) | (right; rw [if_neg (by omega)]; omega)), by omega, hy4⟩)) (fun a i f600 f601 f602 f606 => (hF_M a i f600 f601 f602 f606)))
        · have sx134 : (0 : Int) ≤ p := by omega
          clear h134
          refine jr.iload rfl rfl ?_
          refine jr.aload_n rfl rfl ?_
          refine jr.getf (i := 25) (v := .ref 614) rfl rfl (nlt rfl) rfl (nlt rfl) rfl rfl rfl rfl ?_
          refine jr.iload_n rfl rfl ?_
          obtain ⟨v3, e3⟩ : ∃ z, M 614 g = z := ⟨_, rfl⟩
          have b3 : (-1) ≤ v3 ∧ v3 ≤ 360 := by rw [← e3]; exact (by have q := hI_M 614 g (Nat.le_of_ble_eq_true rfl); rw [xri_row rfl rfl] at q; exact q)
          refine jr.iald (i := g) (x := v3) rfl (nlt rfl) rfl (Nat.le_of_ble_eq_true rfl) (by omega) (by omega) e3 ?_
          refine jr.iadd rfl ?_
          refine jr.sipush rfl (by decide) ?_
          refine jr.icmp_le rfl rfl (by first | (refine rgb (by assumption) ?_; exact rfl) | omega) (rgl rfl) (fun h149 => ?_) (fun h149 => ?_)
          · refine jr.aload_n rfl rfl ?_
            refine jr.getf (i := 3) (v := .ref 600) rfl rfl (nlt rfl) rfl (nlt rfl) rfl rfl rfl rfl ?_
            refine jr.iload_n rfl rfl ?_
            refine jr.iload rfl rfl ?_
            refine jr.aload_n rfl rfl ?_
            refine jr.getf (i := 25) (v := .ref 614) rfl rfl (nlt rfl) rfl (nlt rfl) rfl rfl rfl rfl ?_
            refine jr.iload_n rfl rfl ?_
            refine jr.iald (i := g) (x := v3) rfl (nlt rfl) rfl (Nat.le_of_ble_eq_true rfl) (by omega) (by omega) e3 ?_
            refine jr.iadd rfl ?_
            refine jr.iast (i := p) (x := ((v2 - 8) + v3)) rfl (nlt rfl) rfl (Nat.le_of_ble_eq_true rfl) (by omega) (by omega) ?_
            refine jr.aload_n rfl rfl ?_
            refine jr.getf (i := 5) (v := .ref 602) rfl rfl (nlt rfl) rfl (nlt rfl) rfl rfl rfl rfl ?_
            refine jr.iload_n rfl rfl ?_
            refine jr.lconst (x := 0) rfl (by decide) ?_
            refine jr.last (i := p) (x := 0) rfl (nlt rfl) rfl (Nat.le_of_ble_eq_true rfl) (by omega) (by omega) ?_
            refine jr.iconst rfl ?_
            refine jr.istore (ls' := [_, _, _, _, _]) rfl (nlt rfl) rfl ?_
            obtain ⟨v4, e4⟩ : ∃ z, M 606 g = z := ⟨_, rfl⟩
            have b4 : 0 ≤ v4 ∧ v4 ≤ 1 := by rw [← e4]; exact (by have q := hI_M 606 g (Nat.le_of_ble_eq_true rfl); rw [xri_row rfl rfl] at q; exact q)
            refine jr.pick (ls := [_, _, _, _, _]) [0, 1, 2, 3, 4] rfl rfl ?_
            exact r_finish_L180_x q 400 (ju (ju M 600 p ((v2 - 8) + v3)) 602 p 0) 0 (v2 - 8) p g (RI.u (RI.u hI_M (a := 600) (i := p) (by rw [xri_row rfl rfl]; show (-1 : Int) ≤ _ ∧ _ ≤ (400 : Int); omega)) (a := 602) (i := p) (by rw [xri_row rfl rfl]; show (-9223372036854775808 : Int) ≤ _ ∧ _ ≤ (9223372036854775807 : Int); omega)) (RH.o (RH.o hH_M (by decide) (by decide) (by decide)) (by decide) (by decide) (by decide)) (RF.o (RF.o hS_M (by decide) (by decide)) (by decide) (by decide))  (fun a i f600 f601 f602 f606 => ((ju_c _ _ f602).trans ((ju_c _ _ f600).trans (hF_M a i f600 f601 f602 f606)))) (by omega) (by omega) (by omega) (by omega) (RG1.o (RG1.o hG1 rfl) rfl) (by rw [((ju_c _ _ (by decide)).trans ((ju_c _ _ (by decide)).trans e4))] <;> omega) (by rw [((ju_c _ _ (by decide)).trans ((ju_c _ _ (by decide)).trans e2))] <;> omega) (by rw [((ju_c _ _ (by decide)).trans ((ju_c _ _ (by decide)).trans e3))] <;> omega) (by rw [((ju_c _ _ (by decide)).trans ((ju_c _ _ (by decide)).trans e1)), ((ju_c _ _ (by decide)).trans ((ju_c _ _ (by decide)).trans e2))] <;> omega) (by rw [((ju_c _ _ (by decide)).trans ((ju_c _ _ (by decide)).trans e3))] <;> omega) (by rw [((ju_c _ _ (by decide)).trans (ju_same _ _ _ _)), ((ju_c _ _ (by decide)).trans ((ju_c _ _ (by decide)).trans e3))] <;> omega) (fun _ q => by exfalso; rw [ju_c _ _ (by decide), ju_c _ _ (by decide)] at q; omega) (by rw [rf_e (M := M) (fun i => by rw [ju_c _ _ (by decide), ju_c _ _ (by decide)]), hy4]; exact mk0_z _ _ _) (fun j hj => by rw [ju_c _ _ (by decide), ju_c _ _ (by decide), hy4]) (fun j hj => by rw [ju_c _ _ (by decide), ju_i _ _ hj, hy4]) ⟨(by have h9 := hy6; rw [show (24 - (k + 1)).toNat = 24 from by omega, show k + 1 = 0 from by omega] at h9; exact h9.symm), (fun h => by unfold NR6 at h; rw [hy4] at hy2 hy3; rcases h with h | h | h; (omega); (exact hy2 h); (exact hy5 h))⟩ (fun j => by rw [ju_c _ _ (by decide), ju_c _ _ (by decide), hy4]) (by omega) (by omega) (by omega)
          · refine jr.bipush rfl (by decide) ?_
            exact jr.ireturn rfl rfl rfl (q _ _ hI_M hH_M hS_M  (by first | exact rgq rfl | omega) hG1 (Or.inr (Or.inl ⟨(fun h => by unfold NR6 at h; rw [hy4] at hy2 hy3; rcases h with h | h | h; (omega); (exact hy2 h); (exact hy5 h)), (by have hp : pG M0 24 0 = p := (by have h9 := hy6; rw [show (24 - (k + 1)).toNat = 24 from by omega, show k + 1 = 0 from by omega] at h9; exact h9.symm); rw [hp, ← hy4]; unfold hl2; first | (left; omega) | (right; rw [if_pos (by omega)]; omega) | (right; rw [if_neg (by omega)]; omega)), by omega, hy4⟩)) (fun a i f600 f601 f602 f606 => (hF_M a i f600 f601 f602 f606)))
      · refine jr.aload_n rfl rfl ?_
        refine jr.getf (i := 28) (v := .ref 617) rfl rfl (nlt rfl) rfl (nlt rfl) rfl rfl rfl rfl ?_
        refine jr.iload_n rfl rfl ?_
        obtain ⟨v5, e5⟩ : ∃ z, M 617 g = z := ⟨_, rfl⟩
        have b5 : (-1) ≤ v5 ∧ v5 ≤ 400 := by rw [← e5]; exact (by have q := hI_M 617 g (Nat.le_of_ble_eq_true rfl); rw [xri_row rfl rfl] at q; exact q)
        refine jr.iald (i := g) (x := v5) rfl (nlt rfl) rfl (Nat.le_of_ble_eq_true rfl) (by omega) (by omega) e5 ?_
        refine jr.goto rfl rfl ?_
        refine jr.istore (ls' := [_, _, _, _]) rfl (nlt rfl) rfl ?_
        refine jr.iload_n rfl rfl ?_
        refine jr.iconst rfl ?_
        refine jr.icmp_eq rfl rfl (by first | (refine rgb (by assumption) ?_; exact rfl) | omega) (rgl rfl) (fun h134 => ?_) (fun h134 => ?_)
        · refine jr.bipush rfl (by decide) ?_
          exact jr.ireturn rfl rfl rfl (q _ _ hI_M hH_M hS_M  (by first | exact rgq rfl | omega) hG1 (Or.inr (Or.inl ⟨(fun h => by unfold NR6 at h; rw [hy4] at hy2 hy3; rcases h with h | h | h; (omega); (exact hy2 h); (exact hy5 h)), (by have hp : pG M0 24 0 = p := (by have h9 := hy6; rw [show (24 - (k + 1)).toNat = 24 from by omega, show k + 1 = 0 from by omega] at h9; exact h9.symm); rw [hp, ← hy4]; unfold hl2; first | (left; omega) | (right; rw [if_pos (by omega)]; omega) | (right; rw [if_neg (by omega)]; omega)), by omega, hy4⟩)) (fun a i f600 f601 f602 f606 => (hF_M a i f600 f601 f602 f606)))
        · have sx134 : (0 : Int) ≤ p := by omega
          clear h134
          refine jr.iload rfl rfl ?_
          refine jr.aload_n rfl rfl ?_
          refine jr.getf (i := 25) (v := .ref 614) rfl rfl (nlt rfl) rfl (nlt rfl) rfl rfl rfl rfl ?_
          refine jr.iload_n rfl rfl ?_
          obtain ⟨v6, e6⟩ : ∃ z, M 614 g = z := ⟨_, rfl⟩
          have b6 : (-1) ≤ v6 ∧ v6 ≤ 360 := by rw [← e6]; exact (by have q := hI_M 614 g (Nat.le_of_ble_eq_true rfl); rw [xri_row rfl rfl] at q; exact q)
          refine jr.iald (i := g) (x := v6) rfl (nlt rfl) rfl (Nat.le_of_ble_eq_true rfl) (by omega) (by omega) e6 ?_
          refine jr.iadd rfl ?_
          refine jr.sipush rfl (by decide) ?_
          refine jr.icmp_le rfl rfl (by first | (refine rgb (by assumption) ?_; exact rfl) | omega) (rgl rfl) (fun h149 => ?_) (fun h149 => ?_)
          · refine jr.aload_n rfl rfl ?_
            refine jr.getf (i := 3) (v := .ref 600) rfl rfl (nlt rfl) rfl (nlt rfl) rfl rfl rfl rfl ?_
            refine jr.iload_n rfl rfl ?_
            refine jr.iload rfl rfl ?_
            refine jr.aload_n rfl rfl ?_
            refine jr.getf (i := 25) (v := .ref 614) rfl rfl (nlt rfl) rfl (nlt rfl) rfl rfl rfl rfl ?_
            refine jr.iload_n rfl rfl ?_
            refine jr.iald (i := g) (x := v6) rfl (nlt rfl) rfl (Nat.le_of_ble_eq_true rfl) (by omega) (by omega) e6 ?_
            refine jr.iadd rfl ?_
            refine jr.iast (i := p) (x := (v5 + v6)) rfl (nlt rfl) rfl (Nat.le_of_ble_eq_true rfl) (by omega) (by omega) ?_
            refine jr.aload_n rfl rfl ?_
            refine jr.getf (i := 5) (v := .ref 602) rfl rfl (nlt rfl) rfl (nlt rfl) rfl rfl rfl rfl ?_
            refine jr.iload_n rfl rfl ?_
            refine jr.lconst (x := 0) rfl (by decide) ?_
            refine jr.last (i := p) (x := 0) rfl (nlt rfl) rfl (Nat.le_of_ble_eq_true rfl) (by omega) (by omega) ?_
            refine jr.iconst rfl ?_
            refine jr.istore (ls' := [_, _, _, _, _]) rfl (nlt rfl) rfl ?_
            obtain ⟨v7, e7⟩ : ∃ z, M 606 g = z := ⟨_, rfl⟩
            have b7 : 0 ≤ v7 ∧ v7 ≤ 1 := by rw [← e7]; exact (by have q := hI_M 606 g (Nat.le_of_ble_eq_true rfl); rw [xri_row rfl rfl] at q; exact q)
            refine jr.pick (ls := [_, _, _, _, _]) [0, 1, 2, 3, 4] rfl rfl ?_
            exact r_finish_L180_x q 400 (ju (ju M 600 p (v5 + v6)) 602 p 0) 0 v5 p g (RI.u (RI.u hI_M (a := 600) (i := p) (by rw [xri_row rfl rfl]; show (-1 : Int) ≤ _ ∧ _ ≤ (400 : Int); omega)) (a := 602) (i := p) (by rw [xri_row rfl rfl]; show (-9223372036854775808 : Int) ≤ _ ∧ _ ≤ (9223372036854775807 : Int); omega)) (RH.o (RH.o hH_M (by decide) (by decide) (by decide)) (by decide) (by decide) (by decide)) (RF.o (RF.o hS_M (by decide) (by decide)) (by decide) (by decide))  (fun a i f600 f601 f602 f606 => ((ju_c _ _ f602).trans ((ju_c _ _ f600).trans (hF_M a i f600 f601 f602 f606)))) (by omega) (by omega) (by omega) (by omega) (RG1.o (RG1.o hG1 rfl) rfl) (by rw [((ju_c _ _ (by decide)).trans ((ju_c _ _ (by decide)).trans e7))] <;> omega) (by rw [((ju_c _ _ (by decide)).trans ((ju_c _ _ (by decide)).trans e5))] <;> omega) (by rw [((ju_c _ _ (by decide)).trans ((ju_c _ _ (by decide)).trans e6))] <;> omega) (by rw [((ju_c _ _ (by decide)).trans ((ju_c _ _ (by decide)).trans e1)), ((ju_c _ _ (by decide)).trans ((ju_c _ _ (by decide)).trans e5))] <;> omega) (by rw [((ju_c _ _ (by decide)).trans ((ju_c _ _ (by decide)).trans e6))] <;> omega) (by rw [((ju_c _ _ (by decide)).trans (ju_same _ _ _ _)), ((ju_c _ _ (by decide)).trans ((ju_c _ _ (by decide)).trans e6))] <;> omega) (fun _ q => by exfalso; rw [ju_c _ _ (by decide), ju_c _ _ (by decide)] at q; omega) (by rw [rf_e (M := M) (fun i => by rw [ju_c _ _ (by decide), ju_c _ _ (by decide)]), hy4]; exact mk0_z _ _ _) (fun j hj => by rw [ju_c _ _ (by decide), ju_c _ _ (by decide), hy4]) (fun j hj => by rw [ju_c _ _ (by decide), ju_i _ _ hj, hy4]) ⟨(by have h9 := hy6; rw [show (24 - (k + 1)).toNat = 24 from by omega, show k + 1 = 0 from by omega] at h9; exact h9.symm), (fun h => by unfold NR6 at h; rw [hy4] at hy2 hy3; rcases h with h | h | h; (omega); (exact hy2 h); (exact hy5 h))⟩ (fun j => by rw [ju_c _ _ (by decide), ju_c _ _ (by decide), hy4]) (by omega) (by omega) (by omega)
          · refine jr.bipush rfl (by decide) ?_
            exact jr.ireturn rfl rfl rfl (q _ _ hI_M hH_M hS_M  (by first | exact rgq rfl | omega) hG1 (Or.inr (Or.inl ⟨(fun h => by unfold NR6 at h; rw [hy4] at hy2 hy3; rcases h with h | h | h; (omega); (exact hy2 h); (exact hy5 h)), (by have hp : pG M0 24 0 = p := (by have h9 := hy6; rw [show (24 - (k + 1)).toNat = 24 from by omega, show k + 1 = 0 from by omega] at h9; exact h9.symm); rw [hp, ← hy4]; unfold hl2; first | (left; omega) | (right; rw [if_pos (by omega)]; omega) | (right; rw [if_neg (by omega)]; omega)), by omega, hy4⟩)) (fun a i f600 f601 f602 f606 => (hF_M a i f600 f601 f602 f606)))
    · refine jr.aload_n rfl rfl ?_
      refine jr.getf (i := 3) (v := .ref 600) rfl rfl (nlt rfl) rfl (nlt rfl) rfl rfl rfl rfl ?_
      refine jr.iload rfl rfl ?_
      obtain ⟨v8, e8⟩ : ∃ z, M 600 k = z := ⟨_, rfl⟩
      have b8 : (-1) ≤ v8 ∧ v8 ≤ 400 := by rw [← e8]; exact (by have q := hI_M 600 k (Nat.le_of_ble_eq_true rfl); rw [xri_row rfl rfl] at q; exact q)
      refine jr.iald (i := k) (x := v8) rfl (nlt rfl) rfl (Nat.le_of_ble_eq_true rfl) (by omega) (by omega) e8 ?_
      refine jr.iconst rfl ?_
      refine jr.icmp_ne rfl rfl (by first | (refine rgb (by assumption) ?_; exact rfl) | omega) (rgl rfl) (fun h86 => ?_) (fun h86 => ?_)
      · have sx86 : (0 : Int) ≤ v8 := by omega
        clear h86
        refine jr.iload_n rfl rfl ?_
        refine jr.istore_n (ls' := [_, _, _, _]) rfl (nlt rfl) rfl ?_
        refine jr.iinc (ls' := [_, _, _, _]) rfl rfl (nlt rfl) rfl ?_
        refine jr.goto rfl rfl ?_
        obtain ⟨v9, e9⟩ : ∃ z, M 606 g = z := ⟨_, rfl⟩
        have b9 : 0 ≤ v9 ∧ v9 ≤ 1 := by rw [← e9]; exact (by have q := hI_M 606 g (Nat.le_of_ble_eq_true rfl); rw [xri_row rfl rfl] at q; exact q)
        obtain ⟨v10, e10⟩ : ∃ z, M 617 g = z := ⟨_, rfl⟩
        have b10 : (-1) ≤ v10 ∧ v10 ≤ 400 := by rw [← e10]; exact (by have q := hI_M 617 g (Nat.le_of_ble_eq_true rfl); rw [xri_row rfl rfl] at q; exact q)
        obtain ⟨v11, e11⟩ : ∃ z, M 614 g = z := ⟨_, rfl⟩
        have b11 : (-1) ≤ v11 ∧ v11 ≤ 360 := by rw [← e11]; exact (by have q := hI_M 614 g (Nat.le_of_ble_eq_true rfl); rw [xri_row rfl rfl] at q; exact q)
        refine jr.pick (ls := [_, _, _, _]) [0, 1, 2, 3] rfl rfl ?_
        exact ih (nM - 1) (by omega) M (k + (-1)) p g hI_M hH_M hS_M  (fun a i f600 f601 f602 f606 => (hF_M a i f600 f601 f602 f606)) (by omega) (by omega) (by omega) hG1 (by rw [e9] <;> omega) (by rw [e10] <;> omega) (by rw [e11] <;> omega) hy4 hy5 (by rw [show k + -1 + 1 = k from by omega, pG_s (by omega), ← hy4]; first | (rw [if_pos (by omega)]; done) | (rw [if_neg (by omega), hy4]; exact hy6)) (by omega) (by omega)
      · refine jr.iload rfl rfl ?_
        refine jr.goto rfl rfl ?_
        refine jr.istore_n (ls' := [_, _, _, _]) rfl (nlt rfl) rfl ?_
        refine jr.iinc (ls' := [_, _, _, _]) rfl rfl (nlt rfl) rfl ?_
        refine jr.goto rfl rfl ?_
        obtain ⟨v12, e12⟩ : ∃ z, M 606 g = z := ⟨_, rfl⟩
        have b12 : 0 ≤ v12 ∧ v12 ≤ 1 := by rw [← e12]; exact (by have q := hI_M 606 g (Nat.le_of_ble_eq_true rfl); rw [xri_row rfl rfl] at q; exact q)
        obtain ⟨v13, e13⟩ : ∃ z, M 617 g = z := ⟨_, rfl⟩
        have b13 : (-1) ≤ v13 ∧ v13 ≤ 400 := by rw [← e13]; exact (by have q := hI_M 617 g (Nat.le_of_ble_eq_true rfl); rw [xri_row rfl rfl] at q; exact q)
        obtain ⟨v14, e14⟩ : ∃ z, M 614 g = z := ⟨_, rfl⟩
        have b14 : (-1) ≤ v14 ∧ v14 ≤ 360 := by rw [← e14]; exact (by have q := hI_M 614 g (Nat.le_of_ble_eq_true rfl); rw [xri_row rfl rfl] at q; exact q)
        refine jr.pick (ls := [_, _, _, _]) [0, 1, 2, 3] rfl rfl ?_
        exact ih (nM - 1) (by omega) M (k + (-1)) k g hI_M hH_M hS_M  (fun a i f600 f601 f602 f606 => (hF_M a i f600 f601 f602 f606)) (by omega) (by omega) (by omega) hG1 (by rw [e12] <;> omega) (by rw [e13] <;> omega) (by rw [e14] <;> omega) hy4 hy5 (by rw [show k + -1 + 1 = k from by omega, pG_s (by omega), ← hy4]; first | (rw [if_pos (by omega)]; done) | (rw [if_neg (by omega), hy4]; exact hy6)) (by omega) (by omega)
theorem r_finish_L28_x {A : Nat → Option (Nat × (Nat → Int32))} {Q : Option Value → jm → Prop} {M0 : jm} {g0 : Int} (q : ∀ (r : Int) (M' : jm), RI M' → RH M' → RF M' → (-5) ≤ r ∧ r ≤ 23 → RG1 M' → FIN M0 M' g0 r → (∀ (a : Nat) (i : Int), a ≠ 600 → a ≠ 601 → a ≠ 602 → a ≠ 606 → M' a i = M0 a i) → Q (some (.int (Int32.ofInt r))) M') : ∀ (nM : Nat) (M : jm) (k : Int) (w : Int) (g : Int), RI M → RH M → RF M → (∀ (a : Nat) (i : Int), a ≠ 600 → a ≠ 601 → a ≠ 602 → a ≠ 606 → M a i = M0 a i) → 0 ≤ k ∧ k ≤ 360 → 0 ≤ w ∧ w ≤ 1 → 0 ≤ g ∧ g ≤ 7 → RG1 M → M 606 g ≠ 0 → (w = 1 → M 614 g ≠ -1 ∧ M 617 g ≠ -1) → ((M0 614 g = -1 ∨ M0 617 g = -1) ∧ w = 0) ∨ ((M0 614 g ≠ -1 ∧ M0 617 g ≠ -1) ∧ ((w = 1 ∧ k ≤ M0 614 g ∧ rdy (wR M0 g) (M0 614 g).toNat 0 = rdy (wR M0 g) (M0 614 g - k).toNat k) ∨ (w = 0 ∧ rdy (wR M0 g) (M0 614 g).toNat 0 = 0))) → M = M0 → g = g0 → 360 - k ≤ nM → jr A 2 xm_296 28 [(3, .int (Int32.ofInt (k))), (2, .int (Int32.ofInt (w))), (1, .int (Int32.ofInt (g))), (0, .ref (598))] [] M Q := by
  intro nM
  induction nM using Nat.strongRecOn with
  | ind nM ih =>
    intro M k w g hI_M hH_M hS_M hF_M h_k h_w h_g hy0 hy1 hy2 hy3 hy4 hy5 hm
    subst hy5
    have hG1 := hy0
    refine jr.iload_n rfl rfl ?_
    refine jr.if_eq rfl rfl (by first | (refine rgb (by assumption) ?_; exact rfl) | omega) (fun h29 => ?_) (fun h29 => ?_)
    · refine jr.iload_n rfl rfl ?_
      refine jr.if_ne rfl rfl (by first | (refine rgb (by assumption) ?_; exact rfl) | omega) (fun h62 => ?_) (fun h62 => ?_)
      · exact absurd h62 (by omega)
      · refine jr.iconst rfl ?_
        exact jr.ireturn rfl rfl rfl (q _ _ hI_M hH_M hS_M  (by first | exact rgq rfl | omega) hG1 (Or.inl ⟨(by unfold NR6; have h3 := hy3; rcases h3 with h3 | ⟨h3, h4 | h4⟩; (rcases h3.1 with u | u; (exact Or.inl u); (exact Or.inr (Or.inl u))); (exfalso; omega); (exact Or.inr (Or.inr h4.2))), by omega, hy4⟩) (fun a i f600 f601 f602 f606 => (hF_M a i f600 f601 f602 f606)))
    · have sx29 : (1 : Int) ≤ w := by omega
      clear h29
      refine jr.iload_n rfl rfl ?_
      refine jr.aload_n rfl rfl ?_
      refine jr.getf (i := 25) (v := .ref 614) rfl rfl (nlt rfl) rfl (nlt rfl) rfl rfl rfl rfl ?_
      refine jr.iload_n rfl rfl ?_
      obtain ⟨v1, e1⟩ : ∃ z, M 614 g = z := ⟨_, rfl⟩
      have b1 : (-1) ≤ v1 ∧ v1 ≤ 360 := by rw [← e1]; exact (by have q := hI_M 614 g (Nat.le_of_ble_eq_true rfl); rw [xri_row rfl rfl] at q; exact q)
      refine jr.iald (i := g) (x := v1) rfl (nlt rfl) rfl (Nat.le_of_ble_eq_true rfl) (by omega) (by omega) e1 ?_
      refine jr.icmp_ge rfl rfl (by first | (refine rgb (by assumption) ?_; exact rfl) | omega) (by first | (refine rgb (by assumption) ?_; exact rfl) | omega) (fun h39 => ?_) (fun h39 => ?_)
      · refine jr.iload_n rfl rfl ?_
        refine jr.if_ne rfl rfl (by first | (refine rgb (by assumption) ?_; exact rfl) | omega) (fun h62 => ?_) (fun h62 => ?_)
        · refine jr.iconst rfl ?_
          refine jr.istore_n (ls' := [_, _, _, _]) rfl (nlt rfl) rfl ?_
          refine jr.bipush rfl (jbp _ (nlt rfl)) ?_
          refine jr.istore (ls' := [_, _, _, _, _]) rfl (nlt rfl) rfl ?_
          obtain ⟨v2, e2⟩ : ∃ z, M 606 g = z := ⟨_, rfl⟩
          have b2 : 0 ≤ v2 ∧ v2 ≤ 1 := by rw [← e2]; exact (by have q := hI_M 606 g (Nat.le_of_ble_eq_true rfl); rw [xri_row rfl rfl] at q; exact q)
          obtain ⟨v3, e3⟩ : ∃ z, M 617 g = z := ⟨_, rfl⟩
          have b3 : (-1) ≤ v3 ∧ v3 ≤ 400 := by rw [← e3]; exact (by have q := hI_M 617 g (Nat.le_of_ble_eq_true rfl); rw [xri_row rfl rfl] at q; exact q)
          refine jr.pick (ls := [_, _, _, _]) [0, 1, 3, 4] rfl rfl ?_
          exact r_finish_L73_x q 24 M 23 (-1) g hI_M hH_M hS_M  (fun a i f600 f601 f602 f606 => (hF_M a i f600 f601 f602 f606)) (by omega) (by omega) (by omega) hG1 (by rw [e2] <;> omega) (by rw [e3] <;> omega) (by rw [e1] <;> omega) hy4 (by have h3 := hy3; rcases h3 with h3 | ⟨h3, h4 | h4⟩; (exfalso; omega); (rw [h4.2.2, rdy_e (by rw [hy4] at *; omega)]; decide); (exfalso; omega)) rfl (by omega) (by omega)
        · exact absurd (by omega) h62
      · refine jr.aload_n rfl rfl ?_
        refine jr.getf (i := 27) (v := .ref 616) rfl rfl (nlt rfl) rfl (nlt rfl) rfl rfl rfl rfl ?_
        refine jr.sipush rfl (by decide) ?_
        refine jr.iload_n rfl rfl ?_
        refine jr.imul rfl ?_
        refine jr.iload_n rfl rfl ?_
        refine jr.iadd rfl ?_
        obtain ⟨v4, e4⟩ : ∃ z, M 616 ((360 * g) + k) = z := ⟨_, rfl⟩
        have b4 : 0 ≤ v4 ∧ v4 ≤ 1 := by rw [← e4]; exact (by have q := hI_M 616 ((360 * g) + k) (by decide); rw [xri_row rfl rfl] at q; exact q)
        refine jr.zald (i := ((360 * g) + k)) (x := v4) rfl (nlt rfl) rfl (Nat.le_of_ble_eq_true rfl) (by omega) (by omega) e4 ?_
        refine jr.istore_n (ls' := [_, _, _, _]) rfl (nlt rfl) rfl ?_
        refine jr.iinc (ls' := [_, _, _, _]) rfl rfl (nlt rfl) rfl ?_
        refine jr.goto rfl rfl ?_
        obtain ⟨v5, e5⟩ : ∃ z, M 606 g = z := ⟨_, rfl⟩
        have b5 : 0 ≤ v5 ∧ v5 ≤ 1 := by rw [← e5]; exact (by have q := hI_M 606 g (Nat.le_of_ble_eq_true rfl); rw [xri_row rfl rfl] at q; exact q)
        refine jr.pick (ls := [_, _, _, _]) [0, 1, 2, 3] rfl rfl ?_
        exact ih (nM - 1) (by omega) M (k + 1) v4 g hI_M hH_M hS_M  (fun a i f600 f601 f602 f606 => (hF_M a i f600 f601 f602 f606)) (by omega) (by omega) (by omega) hG1 (by rw [e5] <;> omega) (by omega) (by have h3 := hy3; have f16 : M 616 (360 * g + k) = M0 616 (360 * g + k) := (by rw [hy4]); have f14 : M 614 g = M0 614 g := (by rw [hy4]); have bz : (0 : Int) ≤ M 616 (360 * g + k) ∧ M 616 (360 * g + k) ≤ 1 := (by have q := hI_M 616 (360 * g + k) (Nat.le_of_ble_eq_true rfl); rw [xri_row rfl rfl] at q; exact q); refine Or.inr ?_; rcases h3 with h3 | ⟨h3, h4 | h4⟩; (exfalso; omega); (refine ⟨h3, ?_⟩; have rs := rdy_s (w := wR M0 g) (L := M0 614 g) (i := k) (by omega); by_cases z : v4 = 0; (exact Or.inr ⟨z, by rw [h4.2.2, rs, if_pos (by unfold wR; rw [if_neg (by omega)])]⟩); (exact Or.inl ⟨by omega, by omega, by rw [h4.2.2, rs, if_neg (by unfold wR; rw [if_pos (by omega)]; have bd : (0 : Int) ≤ M0 615 (360 * g + k) := (by rw [← hy4]; have q := hI_M 615 (360 * g + k) (Nat.le_of_ble_eq_true rfl); rw [xri_row rfl rfl] at q; exact q.1); omega)]⟩)); (exfalso; omega)) hy4 (by omega) (by omega)
theorem r_finish_x {A : Nat → Option (Nat × (Nat → Int32))} {Q : Option Value → jm → Prop} {M : jm} (hI_M : RI M) (hH_M : RH M) (hS_M : RF M) {g : Int} (h_g : 0 ≤ g ∧ g ≤ 7) (p0 : RG1 M) (p1 : M 606 g ≠ 0) (q : ∀ (r : Int) (M' : jm), RI M' → RH M' → RF M' → (-5) ≤ r ∧ r ≤ 23 → RG1 M' → FIN M M' g r → (∀ (a : Nat) (i : Int), a ≠ 600 → a ≠ 601 → a ≠ 602 → a ≠ 606 → M' a i = M a i) → Q (some (.int (Int32.ofInt r))) M') : jc A 3 296 [.ref (598), .int (Int32.ofInt (g))] M Q := by
  have hG1 := p0
  refine jc_of (m := xm_296) rfl (Nat.le_of_ble_eq_true rfl) rfl ?_
  refine jr.aload_n rfl rfl ?_
  refine jr.getf (i := 25) (v := .ref 614) rfl rfl (nlt rfl) rfl (nlt rfl) rfl rfl rfl rfl ?_
  refine jr.iload_n rfl rfl ?_
  obtain ⟨v1, e1⟩ : ∃ z, M 614 g = z := ⟨_, rfl⟩
  have b1 : (-1) ≤ v1 ∧ v1 ≤ 360 := by rw [← e1]; exact (by have q := hI_M 614 g (Nat.le_of_ble_eq_true rfl); rw [xri_row rfl rfl] at q; exact q)
  refine jr.iald (i := g) (x := v1) rfl (nlt rfl) rfl (Nat.le_of_ble_eq_true rfl) (by omega) (by omega) e1 ?_
  refine jr.iconst rfl ?_
  refine jr.icmp_eq rfl rfl (by first | (refine rgb (by assumption) ?_; exact rfl) | omega) (rgl rfl) (fun h7 => ?_) (fun h7 => ?_)
  · refine jr.iconst rfl ?_
    refine jr.istore_n (ls' := [_, _, _]) rfl (nlt rfl) rfl ?_
    refine jr.iconst rfl ?_
    refine jr.istore_n (ls' := [_, _, _, _]) rfl (nlt rfl) rfl ?_
    obtain ⟨v2, e2⟩ : ∃ z, M 606 g = z := ⟨_, rfl⟩
    have b2 : 0 ≤ v2 ∧ v2 ≤ 1 := by rw [← e2]; exact (by have q := hI_M 606 g (Nat.le_of_ble_eq_true rfl); rw [xri_row rfl rfl] at q; exact q)
    refine jr.pick (ls := [_, _, _, _]) [0, 1, 3, 2] rfl rfl ?_
    exact r_finish_L28_x q 360 M 0 0 g hI_M hH_M hS_M  (fun a i f600 f601 f602 f606 => rfl) (by omega) (by omega) (by omega) hG1 (by rw [e2] <;> omega) (by omega) (by first | exact Or.inl ⟨by omega, rfl⟩ | exact Or.inr ⟨by omega, Or.inl ⟨rfl, by have h9 : (-1 : Int) ≤ M 614 g := (by have q := hI_M 614 g (Nat.le_of_ble_eq_true rfl); rw [xri_row rfl rfl] at q; exact q.1); omega, by rw [show M 614 g - 0 = M 614 g from by omega]⟩⟩) rfl (by omega) (by omega)
  · have sx7 : (0 : Int) ≤ v1 := by omega
    clear h7
    refine jr.aload_n rfl rfl ?_
    refine jr.getf (i := 28) (v := .ref 617) rfl rfl (nlt rfl) rfl (nlt rfl) rfl rfl rfl rfl ?_
    refine jr.iload_n rfl rfl ?_
    obtain ⟨v3, e3⟩ : ∃ z, M 617 g = z := ⟨_, rfl⟩
    have b3 : (-1) ≤ v3 ∧ v3 ≤ 400 := by rw [← e3]; exact (by have q := hI_M 617 g (Nat.le_of_ble_eq_true rfl); rw [xri_row rfl rfl] at q; exact q)
    refine jr.iald (i := g) (x := v3) rfl (nlt rfl) rfl (Nat.le_of_ble_eq_true rfl) (by omega) (by omega) e3 ?_
    refine jr.iconst rfl ?_
    refine jr.icmp_eq rfl rfl (by first | (refine rgb (by assumption) ?_; exact rfl) | omega) (rgl rfl) (fun h17 => ?_) (fun h17 => ?_)
    · refine jr.iconst rfl ?_
      refine jr.istore_n (ls' := [_, _, _]) rfl (nlt rfl) rfl ?_
      refine jr.iconst rfl ?_
      refine jr.istore_n (ls' := [_, _, _, _]) rfl (nlt rfl) rfl ?_
      obtain ⟨v4, e4⟩ : ∃ z, M 606 g = z := ⟨_, rfl⟩
      have b4 : 0 ≤ v4 ∧ v4 ≤ 1 := by rw [← e4]; exact (by have q := hI_M 606 g (Nat.le_of_ble_eq_true rfl); rw [xri_row rfl rfl] at q; exact q)
      refine jr.pick (ls := [_, _, _, _]) [0, 1, 3, 2] rfl rfl ?_
      exact r_finish_L28_x q 360 M 0 0 g hI_M hH_M hS_M  (fun a i f600 f601 f602 f606 => rfl) (by omega) (by omega) (by omega) hG1 (by rw [e4] <;> omega) (by omega) (by first | exact Or.inl ⟨by omega, rfl⟩ | exact Or.inr ⟨by omega, Or.inl ⟨rfl, by have h9 : (-1 : Int) ≤ M 614 g := (by have q := hI_M 614 g (Nat.le_of_ble_eq_true rfl); rw [xri_row rfl rfl] at q; exact q.1); omega, by rw [show M 614 g - 0 = M 614 g from by omega]⟩⟩) rfl (by omega) (by omega)
    · have sx17 : (0 : Int) ≤ v3 := by omega
      clear h17
      refine jr.iconst rfl ?_
      refine jr.goto rfl rfl ?_
      refine jr.istore_n (ls' := [_, _, _]) rfl (nlt rfl) rfl ?_
      refine jr.iconst rfl ?_
      refine jr.istore_n (ls' := [_, _, _, _]) rfl (nlt rfl) rfl ?_
      obtain ⟨v5, e5⟩ : ∃ z, M 606 g = z := ⟨_, rfl⟩
      have b5 : 0 ≤ v5 ∧ v5 ≤ 1 := by rw [← e5]; exact (by have q := hI_M 606 g (Nat.le_of_ble_eq_true rfl); rw [xri_row rfl rfl] at q; exact q)
      refine jr.pick (ls := [_, _, _, _]) [0, 1, 3, 2] rfl rfl ?_
      exact r_finish_L28_x q 360 M 0 1 g hI_M hH_M hS_M  (fun a i f600 f601 f602 f606 => rfl) (by omega) (by omega) (by omega) hG1 (by rw [e5] <;> omega) (by omega) (by first | exact Or.inl ⟨by omega, rfl⟩ | exact Or.inr ⟨by omega, Or.inl ⟨rfl, by have h9 : (-1 : Int) ≤ M 614 g := (by have q := hI_M 614 g (Nat.le_of_ble_eq_true rfl); rw [xri_row rfl rfl] at q; exact q.1); omega, by rw [show M 614 g - 0 = M 614 g from by omega]⟩⟩) rfl (by omega) (by omega)
end
section
/-! ===== the reference: gather, what stands at its joints ===== -/
noncomputable def LKO (T M : jm) : Prop := (∀ (b : Nat) (i : Int), b ≠ 598 → b ≠ 603 → b ≠ 604 → b ≠ 605 → M b i = T b i) ∧ ∀ i : Int, i ≠ 6 → i ≠ 10 → i ≠ 11 → i ≠ 12 → M 598 i = T 598 i
noncomputable def PX1 (T M : jm) (x h t k a : Int) : Prop := HT M (rf T x) (T 600 x) (M 598 6) ∧ (HE (rf T x) (T 600 x) (M 598 6) ∧ hX (rf T x) (T 600 x) (M 598 6) = -1) ∧ (h = pcf (rf T x) (T 600 x) (M 598 6) ∧ h ≠ -1) ∧ t = ntf (rf T x) (T 600 x) (M 598 6) ∧ k = hX (rf T x) (T 600 x) h ∧ a = hY (rf T x) (T 600 x) h ∧ rf M x = rf T x ∧ ((0 ≤ x ∧ x ≤ 23) ∧ T 600 x ≠ -1) ∧ LKO T M
theorem hx6_z {M : jm} {f : Int → Int} {N : Int} (h : HQ6 M f N) (h0 : M 598 10 = 0) : hX f N (M 598 6) = -1 := by
  rcases h.2.2 with g | g
  · exact g.1
  · exact absurd (g.2.2.1.symm.trans h0) g.2.1
theorem hx6_n {M : jm} {f : Int → Int} {N : Int} (h : HQ6 M f N) (h0 : M 598 10 ≠ 0) : hX f N (M 598 6) ≠ -1 := by
  rcases h.2.2 with g | g
  · exact absurd g.2.1 h0
  · exact g.1
theorem pcf_3 {f : Int → Int} {N C : Int} (hC : 0 ≤ C) (h : hX f N (pcf f N C) = 6) (h1 : pcf f N C ≠ -1) : hX f N (ntf f N C) = 3 ∧ (0 ≤ ntf f N C ∧ ntf f N C < C) := by
  have hn := ntf_r (f := f) (N := N) hC
  unfold pcf at h h1
  split at h
  · rename_i q; rw [if_pos q] at h1; exact absurd rfl h1
  · rename_i q
    have hn2 := hn.resolve_left q
    split at h
    · rename_i q2
      rw [kA_i hn2.1] at q2
      split at h
      · omega
      · rename_i q3
        rw [if_neg q, if_pos (by rw [kA_i hn2.1]; exact q2), if_neg q3] at h1
        exact absurd rfl h1
    · rename_i q2
      rw [kA_i hn2.1] at q2
      exact ⟨by omega, hn2.1⟩
theorem PX1.c {T M : jm} {x h t k a : Int} (p : PX1 T M x h t k a) : (0 ≤ h ∧ h < M 598 6) ∧ ((k = 2 ∧ t = h) ∨ (k = 6 ∧ hX (rf T x) (T 600 x) t = 3 ∧ (0 ≤ t ∧ t < M 598 6))) := by
  obtain ⟨p1, p2, p3, p4, p5, p6, p7, p8, p9⟩ := p
  have hC := p2.1.1.1
  have q := (pcf_r (f := rf T x) (N := T 600 x) hC).resolve_left (by rw [← p3.1]; exact p3.2)
  rw [← p3.1] at q
  refine ⟨q.1, ?_⟩
  rcases q.2 with u | u
  · exact Or.inl ⟨by rw [p5]; exact u.1, by rw [p4]; exact u.2.symm⟩
  · refine Or.inr ⟨by rw [p5]; exact u, ?_⟩
    have w := pcf_3 hC (by rw [← p3.1]; exact u) (by rw [← p3.1]; exact p3.2)
    rw [p4]
    exact w
theorem PX1.v {T M : jm} {x h t k a : Int} (p : PX1 T M x h t k a) (j : Int) (hj : 0 ≤ j ∧ j < xcv_2 k) : vA (rf T x) (T 600 x) (M 598 6) h j = vof (rf M x) (hZ (rf T x) (T 600 x) h) k a j := by
  rw [vA_k p.c.1 p.2.2.2.2.1.symm hj, p.2.2.2.2.2.2.1, p.2.2.2.2.2.1]
theorem PX1.n {T M : jm} {x h t k a : Int} (p : PX1 T M x h t k a) (hk : k = 6) (j : Int) (hj : 0 ≤ j ∧ j < 7) : vA (rf T x) (T 600 x) (M 598 6) t j = vof (rf M x) (hZ (rf T x) (T 600 x) t) 3 (hY (rf T x) (T 600 x) t) j := by
  rcases p.c.2 with u | u
  · omega
  · rw [vA_k u.2.2 u.2.1 (by rw [show xcv_2 3 = 7 by decide +kernel]; exact hj), p.2.2.2.2.2.2.1]
theorem PX1.k {T M : jm} {x h t k a : Int} (p : PX1 T M x h t k a) : kA (rf T x) (T 600 x) (M 598 6) h = k := by rw [kA_i p.c.1]; exact p.2.2.2.2.1.symm
theorem PX1.kt {T M : jm} {x h t k a : Int} (p : PX1 T M x h t k a) : (k = 2 → kA (rf T x) (T 600 x) (M 598 6) t = 2) ∧ (k = 6 → kA (rf T x) (T 600 x) (M 598 6) t = 3) := by
  refine ⟨fun hk => ?_, fun hk => ?_⟩
  · rcases p.c.2 with u | u
    · rw [u.2, p.k, hk]
    · omega
  · rcases p.c.2 with u | u
    · omega
    · rw [kA_i u.2.2]; exact u.2.1
/-- offset, flag, next, number, sender, getter of the piece, as the reference reads them -/
theorem PX1.o2 {T M : jm} {x h t k a r : Int} (p : PX1 T M x h t k a) (hk : k = 2) (hr : ∀ z : Int, r = vof (rf M x) z 2 a 5) : 8 * r = ofs (rf T x) (T 600 x) (M 598 6) h := by
  unfold ofs
  subst hk
  rw [p.k, if_pos rfl, p.v 5 (by decide +kernel), ← hr]
theorem PX1.o6 {T M : jm} {x h t k a r s : Int} (p : PX1 T M x h t k a) (hk : k = 6) (hr : r = tw (rf M x) (a + 2)) (h0 : 0 ≤ r ∧ r ≤ 65535) (hs : s = r / 8) : 8 * s = ofs (rf T x) (T 600 x) (M 598 6) h := by
  unfold ofs
  subst hk
  rw [p.k, if_neg (by decide), p.v 1 (by decide +kernel), vof_6_1, nbs_2t, ← hr, hs]
  omega
theorem PX1.m2 {T M : jm} {x h t k a r : Int} (p : PX1 T M x h t k a) (hk : k = 2) (hr : ∀ z : Int, r = vof (rf M x) z 2 a 4) : r % 2 = mrf (rf T x) (T 600 x) (M 598 6) h := by
  unfold mrf
  subst hk
  rw [p.k, if_pos rfl, p.v 4 (by decide +kernel), ← hr]
theorem PX1.m6 {T M : jm} {x h t k a r : Int} (p : PX1 T M x h t k a) (hk : k = 6) (hr : r = tw (rf M x) (a + 2)) (h0 : 0 ≤ r ∧ r ≤ 65535) : r % 2 = mrf (rf T x) (T 600 x) (M 598 6) h := by
  unfold mrf
  subst hk
  rw [p.k, if_neg (by decide), p.v 2 (by decide +kernel), vof_6_2, nbs_2t, ← hr]
  omega
theorem PX1.e2 {T M : jm} {x h t k a r : Int} (p : PX1 T M x h t k a) (hk : k = 2) (hr : r = M 601 (400 * x + (a + 9))) (h0 : 0 ≤ r ∧ r ≤ 255) : r = vA (rf T x) (T 600 x) (M 598 6) h (if kA (rf T x) (T 600 x) (M 598 6) h = 2 then 7 else 0) := by
  subst hk
  rw [p.k, if_pos rfl, p.v 7 (by decide +kernel), vof_2_7, nbs_1, rf_a, ← hr]
  omega
theorem PX1.e6 {T M : jm} {x h t k a r : Int} (p : PX1 T M x h t k a) (hk : k = 6) (hr : r = M 601 (400 * x + a)) (h0 : 0 ≤ r ∧ r ≤ 255) : r = vA (rf T x) (T 600 x) (M 598 6) h (if kA (rf T x) (T 600 x) (M 598 6) h = 2 then 7 else 0) := by
  subst hk
  rw [p.k, if_neg (by decide), p.v 0 (by decide +kernel), vof_6_0, nbs_1, rf_a, Int.add_zero, ← hr]
  omega
theorem PX1.d2 {T M : jm} {x h t k a r : Int} (p : PX1 T M x h t k a) (hk : k = 2) (hr : r = tw (rf M x) (a + 4)) (h0 : 0 ≤ r ∧ r ≤ 65535) : r = vA (rf T x) (T 600 x) (M 598 6) h 3 := by
  subst hk
  rw [p.v 3 (by decide +kernel), vof_2_3, nbs_2t, ← hr]
  omega
theorem PX1.d6 {T M : jm} {x h t k a r : Int} (p : PX1 T M x h t k a) (hk : k = 6) (hr : r = nbs (rf M x) (a + 4) 4) (h0 : 0 ≤ r ∧ r ≤ 4294967295) : r = vA (rf T x) (T 600 x) (M 598 6) h 3 := by
  subst hk
  rw [p.v 3 (by decide +kernel), vof_6_3, ← hr]
  omega
theorem PX1.a2 {T M : jm} {x h t k a r s j : Int} (p : PX1 T M x h t k a) (hk : k = 2) (hj : j = 9 + s) (hs : s = 0 ∨ s = 1) (hr : ∀ z : Int, r = vof (rf M x) z 2 a j) : r = adf (rf T x) (T 600 x) (M 598 6) t s := by
  have e : t = h := by
    rcases p.c.2 with u | u
    · exact u.2
    · omega
  subst hk
  subst hj
  unfold adf
  rw [p.kt.1 rfl, if_pos rfl, e, p.v (9 + s) (by rw [show xcv_2 2 = 11 by decide +kernel]; omega), ← hr]
theorem PX1.a6 {T M : jm} {x h t k a r s j y : Int} (p : PX1 T M x h t k a) (hk : k = 6) (hj : j = 5 + s) (hs : s = 0 ∨ s = 1) (hy : y = hY (rf T x) (T 600 x) t) (hr : ∀ z : Int, r = vof (rf M x) z 3 y j) : r = adf (rf T x) (T 600 x) (M 598 6) t s := by
  subst hj
  unfold adf
  rw [p.kt.2 hk, if_neg (by decide), p.n hk (5 + s) (by omega), ← hy, ← hr]
end
section
/-! ===== the reference: gather ===== -/
noncomputable def g6 (M : jm) (f : Int → Int) (N C y : Int) : Int := gL M (hX f N y) (adf f N C (ntf f N C) 0) (adf f N C (ntf f N C) 1) (vA f N C y 3) (vA f N C y (if kA f N C y = 2 then 7 else 0)) 8
noncomputable def fst6 (M : jm) (f : Int → Int) (N C y : Int) : Int := if g6 M f N C y = -1 ∨ M 614 (g6 M f N C y) = -1 then 1 else 0
noncomputable def BG6 (M1 M : jm) (g k a b c o : Int) : Prop := (M 606 g = 1 ∧ M 607 g = k ∧ M 614 g = -1 ∧ M 617 g = -1 ∧ M 613 g = 64 ∧ M 608 g = a ∧ M 609 g = b ∧ M 610 g = c ∧ M 611 g = o) ∧ M 612 g = M1 598 2 + 30 ∧ (∀ (b0 : Nat) (j : Int), b0 ≠ 616 → j ≠ g → M b0 j = M1 b0 j) ∧ (∀ j : Int, (j < 360 * g ∨ 360 * g + 360 ≤ j) → M 616 j = M1 616 j) ∧ (∀ k : Int, 0 ≤ k → k < 360 → M 616 (360 * g + k) = 0) ∧ ∀ (b0 : Nat) (j : Int), b0 < 606 ∨ 617 < b0 ∨ b0 = 615 → M b0 j = M1 b0 j
noncomputable def GB6 (M1 M : jm) (f : Int → Int) (N C y g : Int) : Prop := (g6 M1 f N C y ≠ -1 ∧ g = g6 M1 f N C y ∧ M = M1) ∨ (g6 M1 f N C y = -1 ∧ g = gE M1 8 0 ∧ g ≠ -1 ∧ BG6 M1 M g (hX f N y) (adf f N C (ntf f N C) 0) (adf f N C (ntf f N C) 1) (vA f N C y 3) (vA f N C y (if kA f N C y = 2 then 7 else 0)))
noncomputable def WH6 (M2 M : jm) (g i w : Int) : Prop := (i = 1 ∧ (M 614 g = w ∧ M 613 g = w) ∧ (∀ j : Int, j ≠ g → M 614 j = M2 614 j ∧ M 613 j = M2 613 j) ∧ (∀ j : Int, ¬ (360 * g + w ≤ j ∧ j < 360 * g + 360) → M 616 j = M2 616 j) ∧ ∀ (b : Nat) (j : Int), b ≠ 613 → b ≠ 614 → b ≠ 616 → M b j = M2 b j) ∨ (i = 0 ∧ M2 614 g = -1 ∧ M 613 g = (if szf w ≤ M2 613 g then M2 613 g else szf w) ∧ (∀ j : Int, j ≠ g → M 613 j = M2 613 j) ∧ ∀ (b : Nat) (j : Int), b ≠ 613 → M b j = M2 b j) ∨ (i = 0 ∧ M2 614 g ≠ -1 ∧ M = M2)
noncomputable def LY6 (M M' : jm) (g x f c o : Int) : Prop := (((∀ j : Int, 0 ≤ j → j < 360 → wR M' g j = glay (wR M g) (rf M x) o f (mlf c o (lpf (M 614 g))) j) ∧ (∀ j : Int, (j < 360 * g ∨ 360 * g + 360 ≤ j) → M' 616 j = M 616 j ∧ M' 615 j = M 615 j)) ∧ M' 598 34 = 1 ∧ M' 622 0 = mlf c o (lpf (M 614 g)) - gov (wR M g) o (mlf c o (lpf (M 614 g))).toNat ∧ M' 622 1 = gov (wR M g) o (mlf c o (lpf (M 614 g))).toNat ∧ M' 622 2 = c - mlf c o (lpf (M 614 g)) ∧ M' 622 3 = M 613 g ∧ M' 622 4 = M 614 g) ∧ (∀ (b : Nat) (i : Int), b ≠ 598 → b ≠ 615 → b ≠ 616 → b ≠ 622 → M' b i = M b i) ∧ ∀ i : Int, i ≠ 34 → M' 598 i = M 598 i
noncomputable def KH6 (M M' : jm) (g x h t : Int) : Prop := ((M' 617 g = M 604 h + M 605 h ∧ M' 619 g = M 604 h ∧ M' 621 g = M 604 t ∧ M' 620 g = (if h = 0 then 0 else M 604 (h - 1) + (if M 603 (h - 1) = 3 then 4 else 0))) ∧ (∀ i : Int, 0 ≤ i → i < M 604 h + M 605 h → M' 618 (400 * g + i) = rf M x i) ∧ (∀ (b : Nat) (j : Int), b ≠ 618 → j ≠ g → M' b j = M b j) ∧ (∀ j : Int, (j < 400 * g ∨ 400 * g + 400 ≤ j) → M' 618 j = M 618 j)) ∧ ∀ (b : Nat) (i : Int), b ≠ 617 → b ≠ 618 → b ≠ 619 → b ≠ 620 → b ≠ 621 → M' b i = M b i
noncomputable def PX2 (T M : jm) (x h t k g i o c f : Int) : Prop := ∃ M1 : jm, PX1 T M1 x h t k (hY (rf T x) (T 600 x) h) ∧ (o = ofs (rf T x) (T 600 x) (M1 598 6) h ∧ c = T 600 x - enf (rf T x) (T 600 x) (M1 598 6) h ∧ f = enf (rf T x) (T 600 x) (M1 598 6) h) ∧ ¬ rfq (rf T x) (T 600 x) (M1 598 6) h (fst6 M1 (rf T x) (T 600 x) (M1 598 6) h) ∧ ((i = 1 ∧ mrf (rf T x) (T 600 x) (M1 598 6) h ≠ 1 ∧ fst6 M1 (rf T x) (T 600 x) (M1 598 6) h = 1) ∨ (i = 0 ∧ ¬ (mrf (rf T x) (T 600 x) (M1 598 6) h ≠ 1 ∧ fst6 M1 (rf T x) (T 600 x) (M1 598 6) h = 1))) ∧ GB6 M1 M (rf T x) (T 600 x) (M1 598 6) h g
noncomputable def PX3 (T M : jm) (x h t k g o c f : Int) : Prop := ∃ (M2 : jm) (i : Int), PX2 T M2 x h t k g i o c f ∧ WH6 M2 M g i (o + c)
/-- what gather of the reference does -/
noncomputable def GAR (T M : jm) (x r : Int) : Prop := ((x < 0 ∨ 23 < x ∨ T 600 x = -1) ∧ r = -2 ∧ M = T) ∨ (((0 ≤ x ∧ x ≤ 23) ∧ T 600 x ≠ -1) ∧ ∃ M1 : jm, LKO T M1 ∧ HE (rf T x) (T 600 x) (M1 598 6) ∧ (((hX (rf T x) (T 600 x) (M1 598 6) ≠ -1 ∨ pcf (rf T x) (T 600 x) (M1 598 6) = -1) ∧ r = -4 ∧ M = M1) ∨ ((hX (rf T x) (T 600 x) (M1 598 6) = -1 ∧ pcf (rf T x) (T 600 x) (M1 598 6) ≠ -1) ∧ ((rfq (rf T x) (T 600 x) (M1 598 6) (pcf (rf T x) (T 600 x) (M1 598 6)) (fst6 M1 (rf T x) (T 600 x) (M1 598 6) (pcf (rf T x) (T 600 x) (M1 598 6))) ∧ r = -4 ∧ M = M1) ∨ (¬ rfq (rf T x) (T 600 x) (M1 598 6) (pcf (rf T x) (T 600 x) (M1 598 6)) (fst6 M1 (rf T x) (T 600 x) (M1 598 6) (pcf (rf T x) (T 600 x) (M1 598 6))) ∧ (g6 M1 (rf T x) (T 600 x) (M1 598 6) (pcf (rf T x) (T 600 x) (M1 598 6)) = -1 ∧ gE M1 8 0 = -1) ∧ r = -5 ∧ M = M1))))) ∨ ∃ (h t k g o c f : Int) (M3 M4 M5 : jm), PX3 T M3 x h t k g o c f ∧ LY6 M3 M4 g x f c o ∧ ((o = 0 ∧ M4 617 g = -1 ∧ KH6 M4 M5 g x h t) ∨ (¬ (o = 0 ∧ M4 617 g = -1) ∧ M5 = M4)) ∧ FIN M5 M g r ∧ ∀ (b : Nat) (i : Int), b ≠ 600 → b ≠ 601 → b ≠ 602 → b ≠ 606 → M b i = M5 b i
/-- sizes of the gatherings' rows -/
noncomputable def GQ6 (M : jm) : Prop := ∀ g : Int, 0 ≤ g → g < 8 → M 606 g ≠ 0 → (M 614 g = -1 ∧ (M 613 g = 64 ∨ M 613 g = 128 ∨ M 613 g = 256 ∨ M 613 g = 360)) ∨ (0 ≤ M 614 g ∧ M 614 g ≤ 360)
theorem PX1.r {T M : jm} {x h t k a : Int} (p : PX1 T M x h t k a) {r : Int} (hq : rfq (rf T x) (T 600 x) (M 598 6) h (fst6 M (rf T x) (T 600 x) (M 598 6) h)) (hr : r = -4) : GAR T M x r := by
  obtain ⟨p1, p2, p3, p4, p5, p6, p7, p8, p9⟩ := p
  rw [p3.1] at hq
  refine Or.inr (Or.inl ⟨p8, M, p9, p2.1, Or.inr ⟨⟨p2.2, by rw [← p3.1]; exact p3.2⟩, Or.inl ⟨hq, hr, rfl⟩⟩⟩)
theorem PX1.f {T M : jm} {x h t k a : Int} (p : PX1 T M x h t k a) {r : Int} (hq : ¬ rfq (rf T x) (T 600 x) (M 598 6) h (fst6 M (rf T x) (T 600 x) (M 598 6) h)) (hg : g6 M (rf T x) (T 600 x) (M 598 6) h = -1) (he : gE M 8 0 = -1) (hr : r = -5) : GAR T M x r := by
  obtain ⟨p1, p2, p3, p4, p5, p6, p7, p8, p9⟩ := p
  rw [p3.1] at hq hg
  refine Or.inr (Or.inl ⟨p8, M, p9, p2.1, Or.inr ⟨⟨p2.2, by rw [← p3.1]; exact p3.2⟩, Or.inr ⟨hq, ⟨hg, he⟩, hr, rfl⟩⟩⟩)
end
