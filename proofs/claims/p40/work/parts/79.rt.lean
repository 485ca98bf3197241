section
/-! ===== the reference: carried, sums, repair ===== -/
theorem hsN_k {f : Int → Int} {n k a z : Int} (h : 4 ≤ hsN f n k a z ∧ hsN f n k a z ≤ 9) : 2 ≤ k ∧ k ≤ 6 := by
  unfold hsN byK byN byQ at h
  (repeat' split at h) <;> omega
theorem hX_n (f : Int → Int) (N : Int) : ∀ n : Nat, 4 ≤ hX f N (n : Int) ∧ hX f N (n : Int) ≤ 9 → nxD f N n ≠ -1 := by
  intro n
  induction n with
  | zero => intro h; have : hX f N ((0 : Nat) : Int) = 0 := rfl; omega
  | succ n ih =>
    intro h
    have s := (hst_s (f := f) (N := N) (i := (n : Int)) (by omega)).1
    rw [show ((n + 1 : Nat) : Int) = (n : Int) + 1 by omega, s] at h
    unfold hsB at h
    split at h
    · omega
    · have q := hsN_k h
      unfold nxD
      by_cases e : hX f N (n : Int) = 2 ∨ hX f N (n : Int) = 3
      · rw [if_pos e]; omega
      · rw [if_neg e]; exact ih (by omega)
theorem rf_r {M : jm} (h : RI M) (x i : Int) : 0 ≤ rf M x i ∧ rf M x i ≤ 255 := by
  have q := h 601 (400 * x + i) (by decide)
  rw [xri_row rfl rfl] at q
  exact q
theorem lay2 {M : jm} {x i w a b : Int} (ha : a = bt w 1) (hb : b = bt w 0) : rf (ju (ju M 601 (400 * x + i) a) 601 (400 * x + i + 1) b) x = ptn (rf M x) i 2 w := by
  funext k
  unfold rf ptn
  by_cases q : k = i + 1
  · subst q
    rw [show 400 * x + (i + 1) = 400 * x + i + 1 by omega, ju_same, if_pos (by omega), show i + 2 - 1 - (i + 1) = 0 by omega, hb]
  · rw [ju_i _ _ (by omega)]
    by_cases q2 : k = i
    · subst q2
      rw [ju_same, if_pos (by omega), show k + 2 - 1 - k = 1 by omega, ha]
    · rw [ju_i _ _ (by omega), if_neg (by omega)]
theorem ptn_id {f : Int → Int} {y v : Int} (h : tw f y = v) (h0 : 0 ≤ f y ∧ f y ≤ 255) (h1 : 0 ≤ f (y + 1) ∧ f (y + 1) ≤ 255) : ptn f y 2 v = f := by
  funext k
  unfold ptn
  by_cases q : y ≤ k ∧ k < y + 2
  · rw [if_pos q]
    unfold tw at h
    rcases (show k = y ∨ k = y + 1 by omega) with e | e
    · subst e
      rw [show k + 2 - 1 - k = 1 by omega]
      show v / 256 % 256 = f k
      omega
    · subst e
      rw [show y + 2 - 1 - (y + 1) = 0 by omega]
      show v % 256 = f (y + 1)
      omega
  · rw [if_neg q]
theorem sb_9 {f : Int → Int} {a : Int} (h : 0 ≤ a) (n : Nat) : sb (fz f (-9)) a n = sb f a n := sb_e n (fun i h0 h1 => by unfold fz; rw [if_neg (by omega)])
/-- a row of bytes with two more -/
noncomputable def OX (M M' : jm) (x : Int) : Prop := ∀ j : Int, (j < 400 * x ∨ 400 * x + 400 ≤ j) → M' 601 j = M 601 j
theorem r_carried_L44_x {A : Nat → Option (Nat × (Nat → Int32))} {Q : Option Value → jm → Prop} {M0 : jm} {x0 : Int} {h0 : Int} {c0 : Int} (q : ∀ (r : Int) (M' : jm), RI M' → RH M' → RF M' → (-3) ≤ r ∧ r ≤ 12 → (((x0 < 0 ∨ 23 < x0 ∨ M0 600 x0 = -1) ∧ r = -2) ∨ (((0 ≤ x0 ∧ x0 ≤ 23) ∧ M0 600 x0 ≠ -1) ∧ ∃ C : Int, HE (rf M0 x0) (M0 600 x0) C ∧ (((h0 < 0 ∨ c0 < 0 ∨ C < h0 + c0) ∧ r = -3) ∨ ((0 ≤ h0 ∧ 0 ≤ c0 ∧ h0 + c0 ≤ C) ∧ r = crr (rf M0 x0) (M0 600 x0) c0.toNat h0)))) → (∀ (a : Nat) (i : Int), a ≠ 598 → a ≠ 603 → a ≠ 604 → a ≠ 605 → M' a i = M0 a i) → (∀ (i : Int), i ≠ 6 → i ≠ 10 → i ≠ 11 → i ≠ 12 → M' 598 i = M0 598 i) → Q (some (.int (Int32.ofInt r))) M') : ∀ (nM : Nat) (M : jm) (w : Int) (c : Int) (h : Int) (x : Int), RI M → RH M → RF M → (∀ (a : Nat) (i : Int), a ≠ 598 → a ≠ 603 → a ≠ 604 → a ≠ 605 → M a i = M0 a i) → (∀ (i : Int), i ≠ 6 → i ≠ 10 → i ≠ 11 → i ≠ 12 → M 598 i = M0 598 i) → 0 ≤ w ∧ w ≤ 12 → 0 ≤ c ∧ c ≤ 12 → 0 ≤ h ∧ h ≤ 12 → 0 ≤ x ∧ x ≤ 23 → w ≤ c → h + c ≤ 12 → HQ6 M (rf M0 x) (M0 600 x) → crr (rf M0 x) (M0 600 x) c.toNat h = w + crr (rf M0 x) (M0 600 x) (c - w).toNat (h + w) → h + c ≤ M 598 6 ∧ M0 600 x ≠ -1 → x = x0 → h = h0 → c = c0 → c - w ≤ nM → jr A 4 xm_278 44 [(4, .int (Int32.ofInt (w))), (3, .int (Int32.ofInt (c))), (2, .int (Int32.ofInt (h))), (1, .int (Int32.ofInt (x))), (0, .ref (598))] [] M Q := by
  intro nM
  induction nM using Nat.strongRecOn with
  | ind nM ih =>
    intro M w c h x hI_M hH_M hS_M hF_M hG_M h_w h_c h_h h_x hy0 hy1 hy2 hy3 hy4 hy5 hy6 hy7 hm
    subst hy5
    subst hy6
    subst hy7
    refine jr.iload rfl rfl ?_
    refine jr.iload_n rfl rfl ?_
    refine jr.icmp_ge rfl rfl (by first | (refine rgb (by assumption) ?_; exact rfl) | omega) (by first | (refine rgb (by assumption) ?_; exact rfl) | omega) (fun h47 => ?_) (fun h47 => ?_)
    · refine jr.iload rfl rfl ?_
      exact jr.ireturn rfl rfl rfl (q _ _ hI_M hH_M hS_M  (by omega) (Or.inr ⟨by omega, M 598 6, HQ6.e hy2, Or.inr ⟨by omega, by (rw [hy3, cr_0 (by omega)]; omega)⟩⟩) (fun a i f598 f603 f604 f605 => (hF_M a i f598 f603 f604 f605)) (fun i g6 g10 g11 g12 => (hG_M i g6 g10 g11 g12)))
    · refine jr.aload_n rfl rfl ?_
      refine jr.getf (i := 7) (v := .ref 603) rfl rfl (nlt rfl) rfl (nlt rfl) rfl rfl rfl rfl ?_
      refine jr.iload_n rfl rfl ?_
      refine jr.iload rfl rfl ?_
      refine jr.iadd rfl ?_
      obtain ⟨v1, e1⟩ : ∃ z, M 603 (h + w) = z := ⟨_, rfl⟩
      have b1 : 0 ≤ v1 ∧ v1 ≤ 11 := by rw [← e1]; exact (by have q := hI_M 603 (h + w) (Nat.le_of_ble_eq_true rfl); rw [xri_row rfl rfl] at q; exact q)
      refine jr.iald (i := (h + w)) (x := v1) rfl (nlt rfl) rfl (Nat.le_of_ble_eq_true rfl) (by omega) (by omega) e1 ?_
      refine jr_s rfl rfl (Or.inl rfl) ⟨Nat.le_of_ble_eq_true rfl, Nat.le_of_ble_eq_true rfl⟩ rfl rfl (jc.deep (c_isCarried (by omega) (fun c59 => ?_) (fun c59 => ?_)) (Nat.le_of_ble_eq_true rfl))
      · refine jr.if_eq rfl rfl (by first | exact rgl rfl | omega) (fun h => absurd h (by decide)) (fun _ => ?_)
        refine jr.iinc (ls' := [_, _, _, _, _]) rfl rfl (nlt rfl) rfl ?_
        refine jr.goto rfl rfl ?_
        refine jr.pick (ls := [_, _, _, _, _]) [0, 1, 2, 3, 4] rfl rfl ?_
        exact ih (nM - 1) (by omega) M (w + 1) c h x hI_M hH_M hS_M  (fun a i f598 f603 f604 f605 => (hF_M a i f598 f603 f604 f605)) (fun i g6 g10 g11 g12 => (hG_M i g6 g10 g11 g12)) (by omega) (by omega) (by omega) (by omega) (by omega) (by omega) hy2 (by have hr : M 603 (h + w) = _ := (hy2.2.1 (h + w) (by omega) (by omega)).2.1; rw [hy3, cr_s (by omega), if_pos (by omega), show c - w - 1 = c - (w + 1) from by omega, show h + w + 1 = h + (w + 1) from by omega]; omega) hy4 (by omega) (by omega) (by omega) (by omega)
      · refine jr.if_eq rfl rfl (by first | exact rgl rfl | omega) (fun _ => ?_) (fun h => absurd (by decide) h)
        refine jr.iload rfl rfl ?_
        exact jr.ireturn rfl rfl rfl (q _ _ hI_M hH_M hS_M  (by omega) (Or.inr ⟨by omega, M 598 6, HQ6.e hy2, Or.inr ⟨by omega, by (have hr : M 603 (h + w) = _ := (hy2.2.1 (h + w) (by omega) (by omega)).2.1; rw [hy3, cr_s (by omega), if_neg (by omega)]; omega)⟩⟩) (fun a i f598 f603 f604 f605 => (hF_M a i f598 f603 f604 f605)) (fun i g6 g10 g11 g12 => (hG_M i g6 g10 g11 g12)))
theorem r_carried_x {A : Nat → Option (Nat × (Nat → Int32))} {Q : Option Value → jm → Prop} {M : jm} (hI_M : RI M) (hH_M : RH M) (hS_M : RF M) {x : Int} (h_x : (-2147483648) ≤ x ∧ x ≤ 2147483647) {h : Int} (h_h : (-2147483648) ≤ h ∧ h ≤ 2147483647) {c : Int} (h_c : (-2147483648) ≤ c ∧ c ≤ 2147483647) (q : ∀ (r : Int) (M' : jm), RI M' → RH M' → RF M' → (-3) ≤ r ∧ r ≤ 12 → (((x < 0 ∨ 23 < x ∨ M 600 x = -1) ∧ r = -2) ∨ (((0 ≤ x ∧ x ≤ 23) ∧ M 600 x ≠ -1) ∧ ∃ C : Int, HE (rf M x) (M 600 x) C ∧ (((h < 0 ∨ c < 0 ∨ C < h + c) ∧ r = -3) ∨ ((0 ≤ h ∧ 0 ≤ c ∧ h + c ≤ C) ∧ r = crr (rf M x) (M 600 x) c.toNat h)))) → (∀ (a : Nat) (i : Int), a ≠ 598 → a ≠ 603 → a ≠ 604 → a ≠ 605 → M' a i = M a i) → (∀ (i : Int), i ≠ 6 → i ≠ 10 → i ≠ 11 → i ≠ 12 → M' 598 i = M 598 i) → Q (some (.int (Int32.ofInt r))) M') : jc A 5 278 [.ref (598), .int (Int32.ofInt (x)), .int (Int32.ofInt (h)), .int (Int32.ofInt (c))] M Q := by
  refine jc_of (m := xm_278) rfl (Nat.le_of_ble_eq_true rfl) rfl ?_
  refine jr.aload_n rfl rfl ?_
  refine jr.iload_n rfl rfl ?_
  refine jr_v rfl rfl (Or.inl rfl) rfl rfl (nlt rfl) rfl ⟨rfl, Nat.le_of_ble_eq_true rfl, Nat.le_of_ble_eq_true rfl⟩ rfl (jc.deep (c_isThere hI_M (by omega) (fun l2 u2 t2 => ?_) (fun n2 => ?_)) (Nat.le_of_ble_eq_true rfl))
  · refine jr.if_ne rfl rfl (by first | exact rgl rfl | omega) (fun _ => ?_) (fun h => absurd (by decide) h)
    refine jr.aload_n rfl rfl ?_
    refine jr.iload_n rfl rfl ?_
    obtain ⟨v2, e2⟩ : ∃ z, M 600 x = z := ⟨_, rfl⟩
    have b2 : (-1) ≤ v2 ∧ v2 ≤ 400 := by rw [← e2]; exact (by have q := hI_M 600 x (Nat.le_of_ble_eq_true rfl); rw [xri_row rfl rfl] at q; exact q)
    refine jr_v rfl rfl (Or.inl rfl) rfl rfl (nlt rfl) rfl ⟨rfl, Nat.le_of_ble_eq_true rfl, Nat.le_of_ble_eq_true rfl⟩ rfl (jc.deep (r_look_x hI_M hH_M hS_M  (by omega) (by rw [e2]; omega) (fun M1 hI_M1 hH_M1 hS_M1  w1_0 w1_1 w1_2 w1_3 => ?_)) (Nat.le_of_ble_eq_true rfl))
    refine jr.iload_n rfl rfl ?_
    refine jr.if_lt rfl rfl (by first | (refine rgb (by assumption) ?_; exact rfl) | omega) (fun h17 => ?_) (fun h17 => ?_)
    · refine jr.bipush rfl (by decide) ?_
      exact jr.ireturn rfl rfl rfl (q _ _ hI_M1 hH_M1 hS_M1  (by first | exact rgq rfl | omega) (Or.inr ⟨by omega, M1 598 6, HQ6.e w1_1, Or.inl ⟨by omega, by omega⟩⟩) (fun a i f598 f603 f604 f605 => ((w1_2 a i f598 f603 f604 f605).trans rfl)) (fun i g6 g10 g11 g12 => ((w1_3 i g6 g10 g11 g12).trans rfl)))
    · refine jr.iload_n rfl rfl ?_
      refine jr.if_lt rfl rfl (by first | (refine rgb (by assumption) ?_; exact rfl) | omega) (fun h21 => ?_) (fun h21 => ?_)
      · refine jr.bipush rfl (by decide) ?_
        exact jr.ireturn rfl rfl rfl (q _ _ hI_M1 hH_M1 hS_M1  (by first | exact rgq rfl | omega) (Or.inr ⟨by omega, M1 598 6, HQ6.e w1_1, Or.inl ⟨by omega, by omega⟩⟩) (fun a i f598 f603 f604 f605 => ((w1_2 a i f598 f603 f604 f605).trans rfl)) (fun i g6 g10 g11 g12 => ((w1_3 i g6 g10 g11 g12).trans rfl)))
      · refine jr.iload_n rfl rfl ?_
        refine jr.i2l rfl (by omega) ?_
        refine jr.iload_n rfl rfl ?_
        refine jr.i2l rfl (by omega) ?_
        refine jr.ladd rfl ?_
        refine jr.aload_n rfl rfl ?_
        obtain ⟨v3, e3⟩ : ∃ z, M1 598 6 = z := ⟨_, rfl⟩
        have b3 : 0 ≤ v3 ∧ v3 ≤ 12 := by rw [← e3]; exact hI_M1 598 6 (Nat.le_of_ble_eq_true rfl)
        refine jr.getf (i := 6) (x := v3) (v := .int (Int32.ofInt (v3))) rfl rfl (nlt rfl) rfl (nlt rfl) rfl rfl e3 rfl ?_
        refine jr.i2l rfl (by omega) ?_
        refine jr.lcmp_le rfl rfl rfl (by omega) (by omega) (fun h34 => ?_) (fun h34 => ?_)
        · refine jr.iconst rfl ?_
          refine jr.istore (ls' := [_, _, _, _, _]) rfl (nlt rfl) rfl ?_
          refine jr.pick (ls := [_, _, _, _, _]) [0, 4, 3, 2, 1] rfl rfl ?_
          exact r_carried_L44_x q 12 M1 0 c h x hI_M1 hH_M1 hS_M1  (fun a i f598 f603 f604 f605 => ((w1_2 a i f598 f603 f604 f605).trans rfl)) (fun i g6 g10 g11 g12 => ((w1_3 i g6 g10 g11 g12).trans rfl)) (by omega) (by omega) (by omega) (by omega) (by omega) (by omega) w1_1 (by rw [show c - 0 = c from by omega, show h + 0 = h from by omega]; omega) (by omega) (by omega) (by omega) (by omega) (by omega)
        · refine jr.bipush rfl (by decide) ?_
          exact jr.ireturn rfl rfl rfl (q _ _ hI_M1 hH_M1 hS_M1  (by first | exact rgq rfl | omega) (Or.inr ⟨by omega, M1 598 6, HQ6.e w1_1, Or.inl ⟨by omega, by omega⟩⟩) (fun a i f598 f603 f604 f605 => ((w1_2 a i f598 f603 f604 f605).trans rfl)) (fun i g6 g10 g11 g12 => ((w1_3 i g6 g10 g11 g12).trans rfl)))
  · refine jr.if_ne rfl rfl (by first | exact rgl rfl | omega) (fun h => absurd h (by decide)) (fun _ => ?_)
    refine jr.bipush rfl (by decide) ?_
    exact jr.ireturn rfl rfl rfl (q _ _ hI_M hH_M hS_M  (by first | exact rgq rfl | omega) (Or.inl ⟨by omega, by omega⟩) (fun a i f598 f603 f604 f605 => rfl) (fun i g6 g10 g11 g12 => rfl))
theorem r_added_L6_x {A : Nat → Option (Nat × (Nat → Int32))} {Q : Option Value → jm → Prop} {x0 : Int} {u0 : Int} {t0 : Int} {b0 : Int} {M : jm} (hI_M : RI M) (hH_M : RH M) (hS_M : RF M) (q : ∀ (r : Int), 0 ≤ r ∧ r ≤ 30000000 → r = sb (fz (rf M x0) b0) u0 (t0 - u0).toNat → Q (some (.long (Int64.ofInt r))) M) : ∀ (nM : Nat) (k : Int) (s : Int) (b : Int) (t : Int) (u : Int) (x : Int), 0 ≤ k ∧ k ≤ 400 → 0 ≤ s ∧ s ≤ 30000000 → (-2000) ≤ b ∧ b ≤ 2000 → 0 ≤ t ∧ t ≤ 400 → 0 ≤ u ∧ u ≤ 400 → 0 ≤ x ∧ x ≤ 23 → s = sb (fz (rf M x) b) u (k - u).toNat → u ≤ k ∧ k ≤ t → s ≤ 65280 * (k - u) → x = x0 → u = u0 → t = t0 → b = b0 → 400 - k ≤ nM → jr A 1 xm_279 6 [(7, .int (Int32.ofInt (k))), (5, .long (Int64.ofInt (s))), (4, .int (Int32.ofInt (b))), (3, .int (Int32.ofInt (t))), (2, .int (Int32.ofInt (u))), (1, .int (Int32.ofInt (x))), (0, .ref (598))] [] M Q := by
  intro nM
  induction nM using Nat.strongRecOn with
  | ind nM ih =>
    intro k s b t u x h_k h_s h_b h_t h_u h_x hy0 hy1 hy2 hy3 hy4 hy5 hy6 hm
    subst hy3
    subst hy4
    subst hy5
    subst hy6
    refine jr.iload rfl rfl ?_
    refine jr.iload_n rfl rfl ?_
    refine jr.icmp_ge rfl rfl (by first | (refine rgb (by assumption) ?_; exact rfl) | omega) (by first | (refine rgb (by assumption) ?_; exact rfl) | omega) (fun h9 => ?_) (fun h9 => ?_)
    · refine jr.lload rfl rfl ?_
      exact jr.lreturn rfl rfl (q _ (by omega) (by rw [← show k = t from by omega]; exact hy0))
    · refine jr.iload rfl rfl ?_
      refine jr.iload rfl rfl ?_
      refine jr.icmp_eq rfl rfl (by first | (refine rgb (by assumption) ?_; exact rfl) | omega) (by first | (refine rgb (by assumption) ?_; exact rfl) | omega) (fun h16 => ?_) (fun h16 => ?_)
      · refine jr.iconst rfl ?_
        refine jr.goto rfl rfl ?_
        refine jr.istore (ls' := [_, _, _, _, _, _, _, _]) rfl (nlt rfl) rfl ?_
        refine jr.lload rfl rfl ?_
        refine jr.iload rfl rfl ?_
        refine jr.iload_n rfl rfl ?_
        refine jr.isub rfl ?_
        refine jr.iconst rfl ?_
        refine jr.irem rfl (by decide) ?_
        have b1 : j_rem (k - u) 2 = (k - u) % 2 := j_rem_ex (by omega) (by omega)
        generalize j_rem (k - u) 2 = v1 at b1 ⊢
        refine jr.if_ne rfl rfl (by first | (refine rgb (by assumption) ?_; exact rfl) | omega) (fun h49 => ?_) (fun h49 => ?_)
        · have sx49 : (1 : Int) ≤ v1 := by omega
          clear h49
          refine jr.iload rfl rfl ?_
          refine jr.i2l rfl (by omega) ?_
          refine jr.ladd rfl ?_
          refine jr.lstore (ls' := [_, _, _, _, _, _, _, _]) rfl (nlt rfl) rfl ?_
          refine jr.iinc (ls' := [_, _, _, _, _, _, _, _]) rfl rfl (nlt rfl) rfl ?_
          refine jr.goto rfl rfl ?_
          refine jr.pick (ls := [_, _, _, _, _, _, _]) [0, 1, 3, 4, 5, 6, 7] rfl rfl ?_
          exact ih (nM - 1) (by omega) (k + 1) (s + 0) b t u x (by omega) (by omega) (by omega) (by omega) (by omega) (by omega) (by rw [sb_s (by omega), ← hy0]; unfold fz; (try rw [rf_a]); (repeat' split) <;> omega) (by omega) (by omega) (by omega) (by omega) (by omega) (by omega) (by omega)
        · refine jr.iload rfl rfl ?_
          refine jr.bipush rfl (jbp _ (nlt rfl)) ?_
          refine jr.ishl rfl ?_
          have b2 : j_shl 0 8 = 0 * 256 := j_shl_ex 8 (by decide) (by omega) (by omega)
          generalize j_shl 0 8 = v2 at b2 ⊢
          refine jr.i2l rfl (by omega) ?_
          refine jr.goto rfl rfl ?_
          refine jr.ladd rfl ?_
          refine jr.lstore (ls' := [_, _, _, _, _, _, _, _]) rfl (nlt rfl) rfl ?_
          refine jr.iinc (ls' := [_, _, _, _, _, _, _, _]) rfl rfl (nlt rfl) rfl ?_
          refine jr.goto rfl rfl ?_
          refine jr.pick (ls := [_, _, _, _, _, _, _]) [0, 1, 3, 4, 5, 6, 7] rfl rfl ?_
          exact ih (nM - 1) (by omega) (k + 1) (s + v2) b t u x (by omega) (by omega) (by omega) (by omega) (by omega) (by omega) (by rw [sb_s (by omega), ← hy0]; unfold fz; (try rw [rf_a]); (repeat' split) <;> omega) (by omega) (by omega) (by omega) (by omega) (by omega) (by omega) (by omega)
      · refine jr.iload rfl rfl ?_
        refine jr.iload rfl rfl ?_
        refine jr.iconst rfl ?_
        refine jr.iadd rfl ?_
        refine jr.icmp_ne rfl rfl (by first | (refine rgb (by assumption) ?_; exact rfl) | omega) (by first | (refine rgb (by assumption) ?_; exact rfl) | omega) (fun h25 => ?_) (fun h25 => ?_)
        · refine jr.aload_n rfl rfl ?_
          refine jr.iload_n rfl rfl ?_
          refine jr.iload rfl rfl ?_
          refine jr_v rfl rfl (Or.inl rfl) rfl rfl (nlt rfl) rfl ⟨rfl, Nat.le_of_ble_eq_true rfl, Nat.le_of_ble_eq_true rfl⟩ rfl (jc.deep (r_one hI_M hH_M hS_M (Kp.rfl _) (by omega) (by omega)  (fun r3 z3 w3_0 => ?_)) (Nat.le_of_ble_eq_true rfl))
          refine jr.istore (ls' := [_, _, _, _, _, _, _, _]) rfl (nlt rfl) rfl ?_
          refine jr.lload rfl rfl ?_
          refine jr.iload rfl rfl ?_
          refine jr.iload_n rfl rfl ?_
          refine jr.isub rfl ?_
          refine jr.iconst rfl ?_
          refine jr.irem rfl (by decide) ?_
          have b4 : j_rem (k - u) 2 = (k - u) % 2 := j_rem_ex (by omega) (by omega)
          generalize j_rem (k - u) 2 = v4 at b4 ⊢
          refine jr.if_ne rfl rfl (by first | (refine rgb (by assumption) ?_; exact rfl) | omega) (fun h49 => ?_) (fun h49 => ?_)
          · have sx49 : (1 : Int) ≤ v4 := by omega
            clear h49
            refine jr.iload rfl rfl ?_
            refine jr.i2l rfl (by omega) ?_
            refine jr.ladd rfl ?_
            refine jr.lstore (ls' := [_, _, _, _, _, _, _, _]) rfl (nlt rfl) rfl ?_
            refine jr.iinc (ls' := [_, _, _, _, _, _, _, _]) rfl rfl (nlt rfl) rfl ?_
            refine jr.goto rfl rfl ?_
            refine jr.pick (ls := [_, _, _, _, _, _, _]) [0, 1, 3, 4, 5, 6, 7] rfl rfl ?_
            exact ih (nM - 1) (by omega) (k + 1) (s + r3) b t u x (by omega) (by omega) (by omega) (by omega) (by omega) (by omega) (by rw [sb_s (by omega), ← hy0]; unfold fz; (try rw [rf_a]); (repeat' split) <;> omega) (by omega) (by omega) (by omega) (by omega) (by omega) (by omega) (by omega)
          · refine jr.iload rfl rfl ?_
            refine jr.bipush rfl (jbp _ (nlt rfl)) ?_
            refine jr.ishl rfl ?_
            have b5 : j_shl r3 8 = r3 * 256 := j_shl_ex 8 (by decide) (by omega) (by omega)
            generalize j_shl r3 8 = v5 at b5 ⊢
            refine jr.i2l rfl (by omega) ?_
            refine jr.goto rfl rfl ?_
            refine jr.ladd rfl ?_
            refine jr.lstore (ls' := [_, _, _, _, _, _, _, _]) rfl (nlt rfl) rfl ?_
            refine jr.iinc (ls' := [_, _, _, _, _, _, _, _]) rfl rfl (nlt rfl) rfl ?_
            refine jr.goto rfl rfl ?_
            refine jr.pick (ls := [_, _, _, _, _, _, _]) [0, 1, 3, 4, 5, 6, 7] rfl rfl ?_
            exact ih (nM - 1) (by omega) (k + 1) (s + v5) b t u x (by omega) (by omega) (by omega) (by omega) (by omega) (by omega) (by rw [sb_s (by omega), ← hy0]; unfold fz; (try rw [rf_a]); (repeat' split) <;> omega) (by omega) (by omega) (by omega) (by omega) (by omega) (by omega) (by omega)
        · refine jr.iconst rfl ?_
          refine jr.goto rfl rfl ?_
          refine jr.istore (ls' := [_, _, _, _, _, _, _, _]) rfl (nlt rfl) rfl ?_
          refine jr.lload rfl rfl ?_
          refine jr.iload rfl rfl ?_
          refine jr.iload_n rfl rfl ?_
          refine jr.isub rfl ?_
          refine jr.iconst rfl ?_
          refine jr.irem rfl (by decide) ?_
          have b6 : j_rem (k - u) 2 = (k - u) % 2 := j_rem_ex (by omega) (by omega)
          generalize j_rem (k - u) 2 = v6 at b6 ⊢
          refine jr.if_ne rfl rfl (by first | (refine rgb (by assumption) ?_; exact rfl) | omega) (fun h49 => ?_) (fun h49 => ?_)
          · have sx49 : (1 : Int) ≤ v6 := by omega
            clear h49
            refine jr.iload rfl rfl ?_
            refine jr.i2l rfl (by omega) ?_
            refine jr.ladd rfl ?_
            refine jr.lstore (ls' := [_, _, _, _, _, _, _, _]) rfl (nlt rfl) rfl ?_
            refine jr.iinc (ls' := [_, _, _, _, _, _, _, _]) rfl rfl (nlt rfl) rfl ?_
            refine jr.goto rfl rfl ?_
            refine jr.pick (ls := [_, _, _, _, _, _, _]) [0, 1, 3, 4, 5, 6, 7] rfl rfl ?_
            exact ih (nM - 1) (by omega) (k + 1) (s + 0) b t u x (by omega) (by omega) (by omega) (by omega) (by omega) (by omega) (by rw [sb_s (by omega), ← hy0]; unfold fz; (try rw [rf_a]); (repeat' split) <;> omega) (by omega) (by omega) (by omega) (by omega) (by omega) (by omega) (by omega)
          · refine jr.iload rfl rfl ?_
            refine jr.bipush rfl (jbp _ (nlt rfl)) ?_
            refine jr.ishl rfl ?_
            have b7 : j_shl 0 8 = 0 * 256 := j_shl_ex 8 (by decide) (by omega) (by omega)
            generalize j_shl 0 8 = v7 at b7 ⊢
            refine jr.i2l rfl (by omega) ?_
            refine jr.goto rfl rfl ?_
            refine jr.ladd rfl ?_
            refine jr.lstore (ls' := [_, _, _, _, _, _, _, _]) rfl (nlt rfl) rfl ?_
            refine jr.iinc (ls' := [_, _, _, _, _, _, _, _]) rfl rfl (nlt rfl) rfl ?_
            refine jr.goto rfl rfl ?_
            refine jr.pick (ls := [_, _, _, _, _, _, _]) [0, 1, 3, 4, 5, 6, 7] rfl rfl ?_
            exact ih (nM - 1) (by omega) (k + 1) (s + v7) b t u x (by omega) (by omega) (by omega) (by omega) (by omega) (by omega) (by rw [sb_s (by omega), ← hy0]; unfold fz; (try rw [rf_a]); (repeat' split) <;> omega) (by omega) (by omega) (by omega) (by omega) (by omega) (by omega) (by omega)
theorem r_added_x {A : Nat → Option (Nat × (Nat → Int32))} {Q : Option Value → jm → Prop} {M : jm} (hI_M : RI M) (hH_M : RH M) (hS_M : RF M) {x : Int} (h_x : 0 ≤ x ∧ x ≤ 23) {u : Int} (h_u : 0 ≤ u ∧ u ≤ 400) {t : Int} (h_t : 0 ≤ t ∧ t ≤ 400) {b : Int} (h_b : (-2000) ≤ b ∧ b ≤ 2000) (p0 : u ≤ t) (q : ∀ (r : Int), 0 ≤ r ∧ r ≤ 30000000 → r = sb (fz (rf M x) b) u (t - u).toNat → Q (some (.long (Int64.ofInt r))) M) : jc A 2 279 [.ref (598), .int (Int32.ofInt (x)), .int (Int32.ofInt (u)), .int (Int32.ofInt (t)), .int (Int32.ofInt (b))] M Q := by
  refine jc_of (m := xm_279) rfl (Nat.le_of_ble_eq_true rfl) rfl ?_
  refine jr.lconst (x := 0) rfl (by decide) ?_
  refine jr.lstore (ls' := [_, _, _, _, _, _]) rfl (nlt rfl) rfl ?_
  refine jr.iload_n rfl rfl ?_
  refine jr.istore (ls' := [_, _, _, _, _, _, _]) rfl (nlt rfl) rfl ?_
  refine jr.pick (ls := [_, _, _, _, _, _, _]) [0, 1, 6, 5, 4, 3, 2] rfl rfl ?_
  exact r_added_L6_x hI_M hH_M hS_M q 400 u 0 b t u x (by omega) (by omega) (by omega) (by omega) (by omega) (by omega) (sb_0 _ _).symm (by omega) (by omega) (by omega) (by omega) (by omega) (by omega) (by omega)
theorem r_turned_L2_x {A : Nat → Option (Nat × (Nat → Int32))} {Q : Option Value → jm → Prop} {w0 : Int} {M : jm} (hI_M : RI M) (hH_M : RH M) (hS_M : RF M) (q : ∀ (r : Int), 0 ≤ r ∧ r ≤ 65535 → r = tn w0 → Q (some (.int (Int32.ofInt r))) M) : ∀ (nM : Nat) (v : Int) (w : Int), 0 ≤ v ∧ v ≤ 4294967295 → 0 ≤ w ∧ w ≤ 4294967295 → fin v = fin w → w = w0 → v ≤ nM → jr A 0 xm_280 2 [(2, .long (Int64.ofInt (v))), (0, .long (Int64.ofInt (w)))] [] M Q := by
  intro nM
  induction nM using Nat.strongRecOn with
  | ind nM ih =>
    intro v w h_v h_w hy0 hy1 hm
    subst hy1
    refine jr.lload_n rfl rfl ?_
    refine jr.ldc2 (x := 65535) rfl rfl (by decide) ?_
    refine jr.lcmp_le rfl rfl rfl (by omega) (by omega) (fun h6 => ?_) (fun h6 => ?_)
    · refine jr.ldc2 (x := 65535) rfl rfl (by decide) ?_
      refine jr.lload_n rfl rfl ?_
      refine jr.lsub rfl ?_
      refine jr.l2i rfl ?_
      exact jr.ireturn rfl rfl rfl (q _ (by omega) (by unfold tn; rw [← hy0, fin_e (by omega)]))
    · refine jr.lload_n rfl rfl ?_
      refine jr.ldc2 (x := 65535) rfl rfl (by decide) ?_
      refine jr.land rfl ?_
      have b1 : jl_and v 65535 = v % 65536 := jl_and_mask 16 (by decide) (by omega) (by omega)
      generalize jl_and v 65535 = v1 at b1 ⊢
      refine jr.lload_n rfl rfl ?_
      refine jr.bipush rfl (jbp _ (nlt rfl)) ?_
      refine jr.lshr rfl ?_
      have b2 : jl_shr v 16 = v / 65536 := jl_shr_ex 16 (by decide) (by omega) (by omega)
      generalize jl_shr v 16 = v2 at b2 ⊢
      refine jr.ladd rfl ?_
      refine jr.lstore_n (ls' := [_, _]) rfl (nlt rfl) rfl ?_
      refine jr.goto rfl rfl ?_
      refine jr.pick (ls := [_, _]) [0, 1] rfl rfl ?_
      exact ih (nM - 1) (by omega) (v1 + v2) w (by omega) (by omega) (by have hq := fin_s (v := v) (by omega) (by omega); rw [← hy0, ← hq.1]; unfold fo; congr 1; omega) (by omega) (by omega)
theorem r_turned_x {A : Nat → Option (Nat × (Nat → Int32))} {Q : Option Value → jm → Prop} {M : jm} (hI_M : RI M) (hH_M : RH M) (hS_M : RF M) {w : Int} (h_w : 0 ≤ w ∧ w ≤ 4294967295) (q : ∀ (r : Int), 0 ≤ r ∧ r ≤ 65535 → r = tn w → Q (some (.int (Int32.ofInt r))) M) : jc A 1 280 [.long (Int64.ofInt (w))] M Q := by
  refine jc_of (m := xm_280) rfl (Nat.le_of_ble_eq_true rfl) rfl ?_
  refine jr.lload_n rfl rfl ?_
  refine jr.lstore_n (ls' := [_, _]) rfl (nlt rfl) rfl ?_
  refine jr.pick (ls := [_, _]) [0, 1] rfl rfl ?_
  exact r_turned_L2_x hI_M hH_M hS_M q 4294967295 w w (by omega) (by omega) rfl (by omega) (by omega)
end
section
/-! ===== the reference: sumOf, right, repair ===== -/
/-- headers of f, N stand in the reference, C of them -/
noncomputable def HT (M : jm) (f : Int → Int) (N C : Int) : Prop := M 598 6 = C ∧ HR M 602 f N C ∧ (0 ≤ N ∧ N ≤ 400) ∧ ∀ i : Int, 0 ≤ i → i < 400 → 0 ≤ f i ∧ f i ≤ 255
theorem HQ6.t {M : jm} {f : Int → Int} {N : Int} (h : HQ6 M f N) (hN : 0 ≤ N ∧ N ≤ 400) (hf : ∀ i : Int, 0 ≤ i → i < 400 → 0 ≤ f i ∧ f i ≤ 255) : HT M f N (M 598 6) := ⟨rfl, h.2.1, hN, hf⟩
theorem HT.f {M : jm} {f : Int → Int} {N C x : Int} (h : HT M f N C) (hx : 0 ≤ x ∧ x < C) : M 603 x = hX f N x ∧ M 604 x = hY f N x ∧ M 605 x = hZ f N x ∧ hY f N x + lst (hX f N x) ≤ N ∧ hY f N x + hZ f N x ≤ N ∧ 0 ≤ hZ f N x ∧ ¬ ((hX f N x = 2 ∨ hX f N x = 8) ∧ hZ f N x < 20) := by
  have hr := h.2.1 x hx.1 hx.2
  have hl := hok_l hr.1 h.2.2.2 h.2.2.1.2
  exact ⟨hr.2.1, hr.2.2.1, hr.2.2.2, hl.1, hl.2.1, hl.2.2.1, hl.2.2.2⟩
theorem HT.o {M M1 : jm} {f : Int → Int} {N C : Int} (h : HT M f N C) (g : ∀ (b : Nat) (i : Int), b ≠ 601 → M1 b i = M b i) : HT M1 f N C := by
  refine ⟨by rw [g 598 6 (by decide)]; exact h.1, fun i h0 h1 => ?_, h.2.2.1, h.2.2.2⟩
  have q := h.2.1 i h0 h1
  rw [g (602 + 1) i (by decide), g (602 + 2) i (by decide), g (602 + 3) i (by decide)]
  exact q
theorem dS_2 {f f1 : Int → Int} {N C x Y Z : Int} (hx : 0 ≤ x ∧ x < C) (hk : hX f N x = 2) (hy : hY f N x = Y) (hz : hZ f N x = Z) : dS f f1 N C x = tn (sb (fz f1 (Y + 10)) Y (Y + Z - Y).toNat) := by
  unfold dS dS0
  rw [kA_i hx, hk, if_pos (Or.inl rfl), if_pos rfl, hy, hz]
  rfl
theorem dS_7 {f f1 : Int → Int} {N C x Y : Int} (hx : 0 ≤ x ∧ x < C) (hk : hX f N x = 7) (hy : hY f N x = Y) : dS f f1 N C x = tn (sb (fz f1 (Y + sof 7)) Y (N - Y).toNat) := by
  unfold dS dS0
  rw [kA_i hx, hk, if_pos (Or.inr rfl), if_neg (by decide), hy]
theorem dS_n {f f1 : Int → Int} {N C x k : Int} (hx : 0 ≤ x ∧ x < C) (hk : hX f N x = k) (h8 : k = 8 ∨ k = 9) (hn : nxD f N x.toNat = -1) : dS f f1 N C x = -1 := by
  unfold dS
  rw [kA_i hx, hk, if_neg (by omega), if_pos h8, if_pos hn]
theorem dS_8 {f f1 : Int → Int} {N C x k n Y s : Int} (hx : 0 ≤ x ∧ x < C) (hk : hX f N x = k) (h8 : k = 8 ∨ k = 9) (hn : nxD f N x.toNat = n) (h1 : n ≠ -1) (hy : hY f N x = Y) (hs : s = sb (fz f1 (Y + sof k)) Y (N - Y).toNat + aD f f1 N n + (N - Y + (if k = 8 then 6 else 17))) : dS f f1 N C x = dsu k (tn s) := by
  unfold dS dS0
  rw [kA_i hx, hk, if_neg (by omega), if_pos h8, hn, if_neg h1, if_neg (by omega), hy, hs]
  congr 2
  omega
theorem dS_o {f f1 : Int → Int} {N C x k : Int} (hx : 0 ≤ x ∧ x < C) (hk : hX f N x = k) (h8 : ¬ (k = 2 ∨ k = 7 ∨ k = 8 ∨ k = 9)) : dS f f1 N C x = -1 := by
  unfold dS
  rw [kA_i hx, hk, if_neg (by omega), if_neg (by omega)]
theorem r_sumAt_x {A : Nat → Option (Nat × (Nat → Int32))} {Q : Option Value → jm → Prop} {M : jm} (hI_M : RI M) (hH_M : RH M) (hS_M : RF M) {h : Int} (h_h : 0 ≤ h ∧ h ≤ 11) (q : ∀ (r : Int), (-1) ≤ r ∧ r ≤ 398 → (((M 603 h = 2 ∨ M 603 h = 7 ∨ M 603 h = 8 ∨ M 603 h = 9) ∧ 0 ≤ r ∧ r = M 604 h + sof (M 603 h)) ∨ (¬ (M 603 h = 2 ∨ M 603 h = 7 ∨ M 603 h = 8 ∨ M 603 h = 9) ∧ r = -1)) → Q (some (.int (Int32.ofInt r))) M) : jc A 1 281 [.ref (598), .int (Int32.ofInt (h))] M Q := by
  have rh := hH_M h
  have lk := lst_k (M 603 h)
  have so := sof_r (M 603 h)
  refine jc_of (m := xm_281) rfl (Nat.le_of_ble_eq_true rfl) rfl ?_
  refine jr.aload_n rfl rfl ?_
  refine jr.getf (i := 7) (v := .ref 603) rfl rfl (nlt rfl) rfl (nlt rfl) rfl rfl rfl rfl ?_
  refine jr.iload_n rfl rfl ?_
  obtain ⟨v1, e1⟩ : ∃ z, M 603 h = z := ⟨_, rfl⟩
  have b1 : 0 ≤ v1 ∧ v1 ≤ 11 := by rw [← e1]; exact (by have q := hI_M 603 h (Nat.le_of_ble_eq_true rfl); rw [xri_row rfl rfl] at q; exact q)
  refine jr.iald (i := h) (x := v1) rfl (nlt rfl) rfl (Nat.le_of_ble_eq_true rfl) (by omega) (by omega) e1 ?_
  refine jr.istore_n (ls' := [_, _, _]) rfl (nlt rfl) rfl ?_
  refine jr.iload_n rfl rfl ?_
  refine jr.iconst rfl ?_
  refine jr.icmp_ne rfl rfl (by first | (refine rgb (by assumption) ?_; exact rfl) | omega) (rgl rfl) (fun h9 => ?_) (fun h9 => ?_)
  · refine jr.iload_n rfl rfl ?_
    refine jr.bipush rfl (jbp _ (nlt rfl)) ?_
    refine jr.icmp_ne rfl rfl (by first | (refine rgb (by assumption) ?_; exact rfl) | omega) (rgl rfl) (fun h27 => ?_) (fun h27 => ?_)
    · refine jr.iload_n rfl rfl ?_
      refine jr.bipush rfl (jbp _ (nlt rfl)) ?_
      refine jr.icmp_ne rfl rfl (by first | (refine rgb (by assumption) ?_; exact rfl) | omega) (rgl rfl) (fun h44 => ?_) (fun h44 => ?_)
      · refine jr.iload_n rfl rfl ?_
        refine jr.bipush rfl (jbp _ (nlt rfl)) ?_
        refine jr.icmp_ne rfl rfl (by first | (refine rgb (by assumption) ?_; exact rfl) | omega) (rgl rfl) (fun h62 => ?_) (fun h62 => ?_)
        · refine jr.iconst rfl ?_
          exact jr.ireturn rfl rfl rfl (q _ (by first | exact rgq rfl | omega) (by omega))
        · refine jr.aload_n rfl rfl ?_
          refine jr.getf (i := 8) (v := .ref 604) rfl rfl (nlt rfl) rfl (nlt rfl) rfl rfl rfl rfl ?_
          refine jr.iload_n rfl rfl ?_
          obtain ⟨v2, e2⟩ : ∃ z, M 604 h = z := ⟨_, rfl⟩
          have b2 : 0 ≤ v2 ∧ v2 ≤ 400 := by rw [← e2]; exact (by have q := hI_M 604 h (Nat.le_of_ble_eq_true rfl); rw [xri_row rfl rfl] at q; exact q)
          refine jr.iald (i := h) (x := v2) rfl (nlt rfl) rfl (Nat.le_of_ble_eq_true rfl) (by omega) (by omega) e2 ?_
          refine jr.bipush rfl (jbp _ (nlt rfl)) ?_
          refine jr.iadd rfl ?_
          refine jr.goto rfl rfl ?_
          exact jr.ireturn rfl rfl rfl (q _ (by omega) (by omega))
      · refine jr.aload_n rfl rfl ?_
        refine jr.getf (i := 8) (v := .ref 604) rfl rfl (nlt rfl) rfl (nlt rfl) rfl rfl rfl rfl ?_
        refine jr.iload_n rfl rfl ?_
        obtain ⟨v3, e3⟩ : ∃ z, M 604 h = z := ⟨_, rfl⟩
        have b3 : 0 ≤ v3 ∧ v3 ≤ 400 := by rw [← e3]; exact (by have q := hI_M 604 h (Nat.le_of_ble_eq_true rfl); rw [xri_row rfl rfl] at q; exact q)
        refine jr.iald (i := h) (x := v3) rfl (nlt rfl) rfl (Nat.le_of_ble_eq_true rfl) (by omega) (by omega) e3 ?_
        refine jr.bipush rfl (jbp _ (nlt rfl)) ?_
        refine jr.iadd rfl ?_
        refine jr.goto rfl rfl ?_
        exact jr.ireturn rfl rfl rfl (q _ (by omega) (by omega))
    · refine jr.aload_n rfl rfl ?_
      refine jr.getf (i := 8) (v := .ref 604) rfl rfl (nlt rfl) rfl (nlt rfl) rfl rfl rfl rfl ?_
      refine jr.iload_n rfl rfl ?_
      obtain ⟨v4, e4⟩ : ∃ z, M 604 h = z := ⟨_, rfl⟩
      have b4 : 0 ≤ v4 ∧ v4 ≤ 400 := by rw [← e4]; exact (by have q := hI_M 604 h (Nat.le_of_ble_eq_true rfl); rw [xri_row rfl rfl] at q; exact q)
      refine jr.iald (i := h) (x := v4) rfl (nlt rfl) rfl (Nat.le_of_ble_eq_true rfl) (by omega) (by omega) e4 ?_
      refine jr.iconst rfl ?_
      refine jr.iadd rfl ?_
      refine jr.goto rfl rfl ?_
      exact jr.ireturn rfl rfl rfl (q _ (by omega) (by omega))
  · refine jr.aload_n rfl rfl ?_
    refine jr.getf (i := 8) (v := .ref 604) rfl rfl (nlt rfl) rfl (nlt rfl) rfl rfl rfl rfl ?_
    refine jr.iload_n rfl rfl ?_
    obtain ⟨v5, e5⟩ : ∃ z, M 604 h = z := ⟨_, rfl⟩
    have b5 : 0 ≤ v5 ∧ v5 ≤ 400 := by rw [← e5]; exact (by have q := hI_M 604 h (Nat.le_of_ble_eq_true rfl); rw [xri_row rfl rfl] at q; exact q)
    refine jr.iald (i := h) (x := v5) rfl (nlt rfl) rfl (Nat.le_of_ble_eq_true rfl) (by omega) (by omega) e5 ?_
    refine jr.bipush rfl (jbp _ (nlt rfl)) ?_
    refine jr.iadd rfl ?_
    refine jr.goto rfl rfl ?_
    exact jr.ireturn rfl rfl rfl (q _ (by omega) (by omega))
theorem r_sumOf_L61_x {A : Nat → Option (Nat × (Nat → Int32))} {Q : Option Value → jm → Prop} {f : Int → Int} {N C : Int} {x0 : Int} {h0 : Int} {M : jm} (hI_M : RI M) (hH_M : RH M) (hS_M : RF M) (q : ∀ (r : Int), (-1) ≤ r ∧ r ≤ 65535 → r = dS f (rf M x0) N C h0 → Q (some (.int (Int32.ofInt r))) M) : ∀ (nM : Nat) (t : Int) (a : Int) (k : Int) (h : Int) (x : Int), (-1) ≤ t ∧ t ≤ 10 → 0 ≤ a ∧ a ≤ 400 → 0 ≤ k ∧ k ≤ 11 → 0 ≤ h ∧ h ≤ 11 → 0 ≤ x ∧ x ≤ 23 → M 604 h = a → M 603 h = k → (k = 7 ∨ k = 8 ∨ k = 9) → HT M f N C → nxD f N h.toNat = nxD f N (t + 1).toNat → M 600 x = N → h < C → t < h → x = x0 → h = h0 → t + 1 ≤ nM → jr A 2 xm_282 61 [(5, .int (Int32.ofInt (t))), (4, .int (Int32.ofInt (a))), (3, .int (Int32.ofInt (k))), (2, .int (Int32.ofInt (h))), (1, .int (Int32.ofInt (x))), (0, .ref (598))] [] M Q := by
  intro nM
  induction nM using Nat.strongRecOn with
  | ind nM ih =>
    intro t a k h x h_t h_a h_k h_h h_x hy0 hy1 hy2 hy3 hy4 hy5 hy6 hy7 hy8 hy9 hm
    subst hy8
    subst hy9
    have hk9 : 7 ≤ k ∧ k ≤ 9 := by omega
    clear hy2
    have rt := RH.two hH_M t
    have hh0 := HT.f hy3 (x := h) (by omega)
    have hN4 := hy3.2.2.1
    refine jr.iload rfl rfl ?_
    refine jr.if_lt rfl rfl (by first | (refine rgb (by assumption) ?_; exact rfl) | omega) (fun h63 => ?_) (fun h63 => ?_)
    · refine jr.iload rfl rfl ?_
      refine jr.if_ge rfl rfl (by first | (refine rgb (by assumption) ?_; exact rfl) | omega) (fun h96 => ?_) (fun h96 => ?_)
      · exact absurd h96 (by omega)
      · refine jr.iconst rfl ?_
        exact jr.ireturn rfl rfl rfl (q _ (by first | exact rgq rfl | omega) (by have hh := HT.f hy3 (x := h) (by omega); exact Or.elim (show k = 7 ∨ (k = 8 ∨ k = 9) by omega) (fun h7 => absurd (by rw [hy4, nxD_e (by omega)]) (hX_n f N h.toNat (by rw [Int.toNat_of_nonneg (by omega)]; omega))) (fun h8 => (dS_n (k := k) (by omega) (by omega) h8 (by rw [hy4, nxD_e (by omega)])).symm)))
    · refine jr.aload_n rfl rfl ?_
      refine jr.getf (i := 7) (v := .ref 603) rfl rfl (nlt rfl) rfl (nlt rfl) rfl rfl rfl rfl ?_
      refine jr.iload rfl rfl ?_
      obtain ⟨v1, e1⟩ : ∃ z, M 603 t = z := ⟨_, rfl⟩
      have b1 : 0 ≤ v1 ∧ v1 ≤ 11 := by rw [← e1]; exact (by have q := hI_M 603 t (Nat.le_of_ble_eq_true rfl); rw [xri_row rfl rfl] at q; exact q)
      refine jr.iald (i := t) (x := v1) rfl (nlt rfl) rfl (Nat.le_of_ble_eq_true rfl) (by omega) (by omega) e1 ?_
      refine jr.iconst rfl ?_
      refine jr.icmp_eq rfl rfl (by first | (refine rgb (by assumption) ?_; exact rfl) | omega) (rgl rfl) (fun h74 => ?_) (fun h74 => ?_)
      · refine jr.iload rfl rfl ?_
        refine jr.if_ge rfl rfl (by first | (refine rgb (by assumption) ?_; exact rfl) | omega) (fun h96 => ?_) (fun h96 => ?_)
        · refine jr.aload_n rfl rfl ?_
          refine jr.iload_n rfl rfl ?_
          refine jr.iload rfl rfl ?_
          refine jr.aload_n rfl rfl ?_
          refine jr.getf (i := 3) (v := .ref 600) rfl rfl (nlt rfl) rfl (nlt rfl) rfl rfl rfl rfl ?_
          refine jr.iload_n rfl rfl ?_
          obtain ⟨v2, e2⟩ : ∃ z, M 600 x = z := ⟨_, rfl⟩
          have b2 : (-1) ≤ v2 ∧ v2 ≤ 400 := by rw [← e2]; exact (by have q := hI_M 600 x (Nat.le_of_ble_eq_true rfl); rw [xri_row rfl rfl] at q; exact q)
          refine jr.iald (i := x) (x := v2) rfl (nlt rfl) rfl (Nat.le_of_ble_eq_true rfl) (by omega) (by omega) e2 ?_
          refine jr.aload_n rfl rfl ?_
          refine jr.iload_n rfl rfl ?_
          refine jr_v rfl rfl (Or.inl rfl) rfl rfl (nlt rfl) rfl ⟨rfl, Nat.le_of_ble_eq_true rfl, Nat.le_of_ble_eq_true rfl⟩ rfl (jc.deep (r_sumAt_x hI_M hH_M hS_M  (by omega)  (fun r3 z3 w3_0 => ?_)) (Nat.le_of_ble_eq_true rfl))
          refine jr_v rfl rfl (Or.inl rfl) rfl rfl (nlt rfl) rfl ⟨rfl, Nat.le_of_ble_eq_true rfl, Nat.le_of_ble_eq_true rfl⟩ rfl (jc.deep (r_added_x hI_M hH_M hS_M  (by omega) (by omega) (by omega) (by omega) (by omega) (fun r4 z4 w4_0 => ?_)) (Nat.le_of_ble_eq_true rfl))
          refine jr.lstore (ls' := [_, _, _, _, _, _, _]) rfl (nlt rfl) rfl ?_
          refine jr.iload_n rfl rfl ?_
          refine jr.bipush rfl (jbp _ (nlt rfl)) ?_
          refine jr.icmp_ne rfl rfl (by first | (refine rgb (by assumption) ?_; exact rfl) | omega) (rgl rfl) (fun h124 => ?_) (fun h124 => ?_)
          · refine jr.aload_n rfl rfl ?_
            refine jr.getf (i := 7) (v := .ref 603) rfl rfl (nlt rfl) rfl (nlt rfl) rfl rfl rfl rfl ?_
            refine jr.iload rfl rfl ?_
            refine jr.iald (i := t) (x := v1) rfl (nlt rfl) rfl (Nat.le_of_ble_eq_true rfl) (by omega) (by omega) e1 ?_
            refine jr.iconst rfl ?_
            refine jr.icmp_ne rfl rfl (by first | (refine rgb (by assumption) ?_; exact rfl) | omega) (rgl rfl) (fun h141 => ?_) (fun h141 => ?_)
            · exact absurd h141 (by omega)
            · refine jr.aload_n rfl rfl ?_
              refine jr.getf (i := 8) (v := .ref 604) rfl rfl (nlt rfl) rfl (nlt rfl) rfl rfl rfl rfl ?_
              refine jr.iload rfl rfl ?_
              obtain ⟨v5, e5⟩ : ∃ z, M 604 t = z := ⟨_, rfl⟩
              have b5 : 0 ≤ v5 ∧ v5 ≤ 400 := by rw [← e5]; exact (by have q := hI_M 604 t (Nat.le_of_ble_eq_true rfl); rw [xri_row rfl rfl] at q; exact q)
              refine jr.iald (i := t) (x := v5) rfl (nlt rfl) rfl (Nat.le_of_ble_eq_true rfl) (by omega) (by omega) e5 ?_
              refine jr.bipush rfl (jbp _ (nlt rfl)) ?_
              refine jr.iadd rfl ?_
              refine jr.goto rfl rfl ?_
              refine jr.istore (ls' := [_, _, _, _, _, _, _, _]) rfl (nlt rfl) rfl ?_
              refine jr.lload rfl rfl ?_
              refine jr.aload_n rfl rfl ?_
              refine jr.iload_n rfl rfl ?_
              refine jr.iload rfl rfl ?_
              refine jr.aload_n rfl rfl ?_
              refine jr.getf (i := 7) (v := .ref 603) rfl rfl (nlt rfl) rfl (nlt rfl) rfl rfl rfl rfl ?_
              refine jr.iload rfl rfl ?_
              refine jr.iald (i := t) (x := v1) rfl (nlt rfl) rfl (Nat.le_of_ble_eq_true rfl) (by omega) (by omega) e1 ?_
              refine jr.iconst rfl ?_
              refine jr.icmp_ne rfl rfl (by first | (refine rgb (by assumption) ?_; exact rfl) | omega) (rgl rfl) (fun h183 => ?_) (fun h183 => ?_)
              · exact absurd h183 (by omega)
              · refine jr.iload rfl rfl ?_
                refine jr.bipush rfl (jbp _ (nlt rfl)) ?_
                refine jr.iadd rfl ?_
                refine jr.goto rfl rfl ?_
                refine jr.bipush rfl (by decide) ?_
                refine jr_v rfl rfl (Or.inl rfl) rfl rfl (nlt rfl) rfl ⟨rfl, Nat.le_of_ble_eq_true rfl, Nat.le_of_ble_eq_true rfl⟩ rfl (jc.deep (r_added_x hI_M hH_M hS_M  (by omega) (by omega) (by omega) (by omega) (by omega) (fun r6 z6 w6_0 => ?_)) (Nat.le_of_ble_eq_true rfl))
                refine jr.ladd rfl ?_
                refine jr.lstore (ls' := [_, _, _, _, _, _, _, _]) rfl (nlt rfl) rfl ?_
                refine jr.lload rfl rfl ?_
                refine jr.aload_n rfl rfl ?_
                refine jr.getf (i := 3) (v := .ref 600) rfl rfl (nlt rfl) rfl (nlt rfl) rfl rfl rfl rfl ?_
                refine jr.iload_n rfl rfl ?_
                refine jr.iald (i := x) (x := v2) rfl (nlt rfl) rfl (Nat.le_of_ble_eq_true rfl) (by omega) (by omega) e2 ?_
                refine jr.iload rfl rfl ?_
                refine jr.isub rfl ?_
                refine jr.iload_n rfl rfl ?_
                refine jr.bipush rfl (jbp _ (nlt rfl)) ?_
                refine jr.icmp_ne rfl rfl (by first | (refine rgb (by assumption) ?_; exact rfl) | omega) (rgl rfl) (fun h221 => ?_) (fun h221 => ?_)
                · refine jr.bipush rfl (jbp _ (nlt rfl)) ?_
                  refine jr.iadd rfl ?_
                  refine jr.i2l rfl (by omega) ?_
                  refine jr.ladd rfl ?_
                  refine jr.lstore (ls' := [_, _, _, _, _, _, _, _]) rfl (nlt rfl) rfl ?_
                  refine jr.lload rfl rfl ?_
                  refine jr_s rfl rfl (Or.inl rfl) ⟨Nat.le_of_ble_eq_true rfl, Nat.le_of_ble_eq_true rfl⟩ rfl rfl (jc.deep (r_turned_x hI_M hH_M hS_M  (by omega)  (fun r7 z7 w7_0 => ?_)) (Nat.le_of_ble_eq_true rfl))
                  refine jr.istore (ls' := [_, _, _, _, _, _, _, _, _]) rfl (nlt rfl) rfl ?_
                  refine jr.iload_n rfl rfl ?_
                  refine jr.bipush rfl (jbp _ (nlt rfl)) ?_
                  refine jr.icmp_ne rfl rfl (by first | (refine rgb (by assumption) ?_; exact rfl) | omega) (rgl rfl) (fun h246 => ?_) (fun h246 => ?_)
                  · refine jr.iload rfl rfl ?_
                    exact jr.ireturn rfl rfl rfl (q _ (by omega) (by exfalso; omega))
                  · refine jr.iload rfl rfl ?_
                    refine jr.if_ne rfl rfl (by first | (refine rgb (by assumption) ?_; exact rfl) | omega) (fun h251 => ?_) (fun h251 => ?_)
                    · have sx251 : (1 : Int) ≤ r7 := by omega
                      clear h251
                      refine jr.iload rfl rfl ?_
                      exact jr.ireturn rfl rfl rfl (q _ (by omega) (by have hh := HT.f hy3 (x := h) (by omega); have htt := HT.f hy3 (x := t) (by omega); have hA1 : sb (fz (rf M x) (a + sof k)) a (N - a).toNat = r4 := (by rw [show a + sof k = r3 from by have h9 := w3_0; rw [hy1] at h9; omega, ← hy5, e2]; exact w4_0.symm); (have hA2 : aD f (rf M x) N t = r6 := (by unfold aD; rw [← htt.1, ← htt.2.1, e1, e5, if_pos (by omega), if_pos (by omega)]; have h9 := w6_0; rw [sb_9 (by omega), show v5 + 12 + 8 - (v5 + 12) = 8 from by omega] at h9; exact h9.symm); rw [dS_8 (k := k) (n := t) (Y := a) (s := r4 + r6 + (v2 - a + 17)) (by omega) (by omega) (by omega) (by rw [hy4, nxD_s (by omega), if_pos (by omega)]) (by omega) (by omega) (by rw [hA1, hA2, if_neg (by omega)]; omega), ← w7_0]; unfold dsu; rw [if_neg (by omega)])))
                    · refine jr.ldcw (x := 65535) rfl rfl (by decide) ?_
                      refine jr.goto rfl rfl ?_
                      exact jr.ireturn rfl rfl rfl (q _ (by omega) (by have hh := HT.f hy3 (x := h) (by omega); have htt := HT.f hy3 (x := t) (by omega); have hA1 : sb (fz (rf M x) (a + sof k)) a (N - a).toNat = r4 := (by rw [show a + sof k = r3 from by have h9 := w3_0; rw [hy1] at h9; omega, ← hy5, e2]; exact w4_0.symm); (have hA2 : aD f (rf M x) N t = r6 := (by unfold aD; rw [← htt.1, ← htt.2.1, e1, e5, if_pos (by omega), if_pos (by omega)]; have h9 := w6_0; rw [sb_9 (by omega), show v5 + 12 + 8 - (v5 + 12) = 8 from by omega] at h9; exact h9.symm); rw [dS_8 (k := k) (n := t) (Y := a) (s := r4 + r6 + (v2 - a + 17)) (by omega) (by omega) (by omega) (by rw [hy4, nxD_s (by omega), if_pos (by omega)]) (by omega) (by omega) (by rw [hA1, hA2, if_neg (by omega)]; omega), ← w7_0]; unfold dsu; rw [if_pos (by omega)])))
                · refine jr.bipush rfl (jbp _ (nlt rfl)) ?_
                  refine jr.goto rfl rfl ?_
                  refine jr.iadd rfl ?_
                  refine jr.i2l rfl (by omega) ?_
                  refine jr.ladd rfl ?_
                  refine jr.lstore (ls' := [_, _, _, _, _, _, _, _]) rfl (nlt rfl) rfl ?_
                  refine jr.lload rfl rfl ?_
                  refine jr_s rfl rfl (Or.inl rfl) ⟨Nat.le_of_ble_eq_true rfl, Nat.le_of_ble_eq_true rfl⟩ rfl rfl (jc.deep (r_turned_x hI_M hH_M hS_M  (by omega)  (fun r8 z8 w8_0 => ?_)) (Nat.le_of_ble_eq_true rfl))
                  refine jr.istore (ls' := [_, _, _, _, _, _, _, _, _]) rfl (nlt rfl) rfl ?_
                  refine jr.iload_n rfl rfl ?_
                  refine jr.bipush rfl (jbp _ (nlt rfl)) ?_
                  refine jr.icmp_ne rfl rfl (by first | (refine rgb (by assumption) ?_; exact rfl) | omega) (rgl rfl) (fun h246 => ?_) (fun h246 => ?_)
                  · refine jr.iload rfl rfl ?_
                    exact jr.ireturn rfl rfl rfl (q _ (by omega) (by have hh := HT.f hy3 (x := h) (by omega); have htt := HT.f hy3 (x := t) (by omega); have hA1 : sb (fz (rf M x) (a + sof k)) a (N - a).toNat = r4 := (by rw [show a + sof k = r3 from by have h9 := w3_0; rw [hy1] at h9; omega, ← hy5, e2]; exact w4_0.symm); (have hA2 : aD f (rf M x) N t = r6 := (by unfold aD; rw [← htt.1, ← htt.2.1, e1, e5, if_pos (by omega), if_pos (by omega)]; have h9 := w6_0; rw [sb_9 (by omega), show v5 + 12 + 8 - (v5 + 12) = 8 from by omega] at h9; exact h9.symm); rw [dS_8 (k := k) (n := t) (Y := a) (s := r4 + r6 + (v2 - a + 6)) (by omega) (by omega) (by omega) (by rw [hy4, nxD_s (by omega), if_pos (by omega)]) (by omega) (by omega) (by rw [hA1, hA2, if_pos (by omega)]; omega), ← w8_0]; unfold dsu; rw [if_neg (by omega)])))
                  · exact absurd (by omega) h246
          · refine jr.lload rfl rfl ?_
            refine jr_s rfl rfl (Or.inl rfl) ⟨Nat.le_of_ble_eq_true rfl, Nat.le_of_ble_eq_true rfl⟩ rfl rfl (jc.deep (r_turned_x hI_M hH_M hS_M  (by omega)  (fun r9 z9 w9_0 => ?_)) (Nat.le_of_ble_eq_true rfl))
            exact jr.ireturn rfl rfl rfl (q _ (by omega) (by have hh := HT.f hy3 (x := h) (by omega); rw [dS_7 (Y := a) (by omega) (by omega) (by omega), ← show k = 7 from by omega, show a + sof k = r3 from by have h9 := w3_0; rw [hy1] at h9; omega, ← hy5, e2, ← w4_0, ← w9_0]))
        · exact absurd (by omega) h96
      · refine jr.aload_n rfl rfl ?_
        refine jr.getf (i := 7) (v := .ref 603) rfl rfl (nlt rfl) rfl (nlt rfl) rfl rfl rfl rfl ?_
        refine jr.iload rfl rfl ?_
        refine jr.iald (i := t) (x := v1) rfl (nlt rfl) rfl (Nat.le_of_ble_eq_true rfl) (by omega) (by omega) e1 ?_
        refine jr.iconst rfl ?_
        refine jr.icmp_eq rfl rfl (by first | (refine rgb (by assumption) ?_; exact rfl) | omega) (rgl rfl) (fun h85 => ?_) (fun h85 => ?_)
        · refine jr.iload rfl rfl ?_
          refine jr.if_ge rfl rfl (by first | (refine rgb (by assumption) ?_; exact rfl) | omega) (fun h96 => ?_) (fun h96 => ?_)
          · refine jr.aload_n rfl rfl ?_
            refine jr.iload_n rfl rfl ?_
            refine jr.iload rfl rfl ?_
            refine jr.aload_n rfl rfl ?_
            refine jr.getf (i := 3) (v := .ref 600) rfl rfl (nlt rfl) rfl (nlt rfl) rfl rfl rfl rfl ?_
            refine jr.iload_n rfl rfl ?_
            obtain ⟨v10, e10⟩ : ∃ z, M 600 x = z := ⟨_, rfl⟩
            have b10 : (-1) ≤ v10 ∧ v10 ≤ 400 := by rw [← e10]; exact (by have q := hI_M 600 x (Nat.le_of_ble_eq_true rfl); rw [xri_row rfl rfl] at q; exact q)
            refine jr.iald (i := x) (x := v10) rfl (nlt rfl) rfl (Nat.le_of_ble_eq_true rfl) (by omega) (by omega) e10 ?_
            refine jr.aload_n rfl rfl ?_
            refine jr.iload_n rfl rfl ?_
            refine jr_v rfl rfl (Or.inl rfl) rfl rfl (nlt rfl) rfl ⟨rfl, Nat.le_of_ble_eq_true rfl, Nat.le_of_ble_eq_true rfl⟩ rfl (jc.deep (r_sumAt_x hI_M hH_M hS_M  (by omega)  (fun r11 z11 w11_0 => ?_)) (Nat.le_of_ble_eq_true rfl))
            refine jr_v rfl rfl (Or.inl rfl) rfl rfl (nlt rfl) rfl ⟨rfl, Nat.le_of_ble_eq_true rfl, Nat.le_of_ble_eq_true rfl⟩ rfl (jc.deep (r_added_x hI_M hH_M hS_M  (by omega) (by omega) (by omega) (by omega) (by omega) (fun r12 z12 w12_0 => ?_)) (Nat.le_of_ble_eq_true rfl))
            refine jr.lstore (ls' := [_, _, _, _, _, _, _]) rfl (nlt rfl) rfl ?_
            refine jr.iload_n rfl rfl ?_
            refine jr.bipush rfl (jbp _ (nlt rfl)) ?_
            refine jr.icmp_ne rfl rfl (by first | (refine rgb (by assumption) ?_; exact rfl) | omega) (rgl rfl) (fun h124 => ?_) (fun h124 => ?_)
            · refine jr.aload_n rfl rfl ?_
              refine jr.getf (i := 7) (v := .ref 603) rfl rfl (nlt rfl) rfl (nlt rfl) rfl rfl rfl rfl ?_
              refine jr.iload rfl rfl ?_
              refine jr.iald (i := t) (x := v1) rfl (nlt rfl) rfl (Nat.le_of_ble_eq_true rfl) (by omega) (by omega) e1 ?_
              refine jr.iconst rfl ?_
              refine jr.icmp_ne rfl rfl (by first | (refine rgb (by assumption) ?_; exact rfl) | omega) (rgl rfl) (fun h141 => ?_) (fun h141 => ?_)
              · refine jr.aload_n rfl rfl ?_
                refine jr.getf (i := 8) (v := .ref 604) rfl rfl (nlt rfl) rfl (nlt rfl) rfl rfl rfl rfl ?_
                refine jr.iload rfl rfl ?_
                obtain ⟨v13, e13⟩ : ∃ z, M 604 t = z := ⟨_, rfl⟩
                have b13 : 0 ≤ v13 ∧ v13 ≤ 400 := by rw [← e13]; exact (by have q := hI_M 604 t (Nat.le_of_ble_eq_true rfl); rw [xri_row rfl rfl] at q; exact q)
                refine jr.iald (i := t) (x := v13) rfl (nlt rfl) rfl (Nat.le_of_ble_eq_true rfl) (by omega) (by omega) e13 ?_
                refine jr.bipush rfl (jbp _ (nlt rfl)) ?_
                refine jr.iadd rfl ?_
                refine jr.istore (ls' := [_, _, _, _, _, _, _, _]) rfl (nlt rfl) rfl ?_
                refine jr.lload rfl rfl ?_
                refine jr.aload_n rfl rfl ?_
                refine jr.iload_n rfl rfl ?_
                refine jr.iload rfl rfl ?_
                refine jr.aload_n rfl rfl ?_
                refine jr.getf (i := 7) (v := .ref 603) rfl rfl (nlt rfl) rfl (nlt rfl) rfl rfl rfl rfl ?_
                refine jr.iload rfl rfl ?_
                refine jr.iald (i := t) (x := v1) rfl (nlt rfl) rfl (Nat.le_of_ble_eq_true rfl) (by omega) (by omega) e1 ?_
                refine jr.iconst rfl ?_
                refine jr.icmp_ne rfl rfl (by first | (refine rgb (by assumption) ?_; exact rfl) | omega) (rgl rfl) (fun h183 => ?_) (fun h183 => ?_)
                · refine jr.iload rfl rfl ?_
                  refine jr.bipush rfl (jbp _ (nlt rfl)) ?_
                  refine jr.iadd rfl ?_
                  refine jr.bipush rfl (by decide) ?_
                  refine jr_v rfl rfl (Or.inl rfl) rfl rfl (nlt rfl) rfl ⟨rfl, Nat.le_of_ble_eq_true rfl, Nat.le_of_ble_eq_true rfl⟩ rfl (jc.deep (r_added_x hI_M hH_M hS_M  (by omega) (by omega) (by omega) (by omega) (by omega) (fun r14 z14 w14_0 => ?_)) (Nat.le_of_ble_eq_true rfl))
                  refine jr.ladd rfl ?_
                  refine jr.lstore (ls' := [_, _, _, _, _, _, _, _]) rfl (nlt rfl) rfl ?_
                  refine jr.lload rfl rfl ?_
                  refine jr.aload_n rfl rfl ?_
                  refine jr.getf (i := 3) (v := .ref 600) rfl rfl (nlt rfl) rfl (nlt rfl) rfl rfl rfl rfl ?_
                  refine jr.iload_n rfl rfl ?_
                  refine jr.iald (i := x) (x := v10) rfl (nlt rfl) rfl (Nat.le_of_ble_eq_true rfl) (by omega) (by omega) e10 ?_
                  refine jr.iload rfl rfl ?_
                  refine jr.isub rfl ?_
                  refine jr.iload_n rfl rfl ?_
                  refine jr.bipush rfl (jbp _ (nlt rfl)) ?_
                  refine jr.icmp_ne rfl rfl (by first | (refine rgb (by assumption) ?_; exact rfl) | omega) (rgl rfl) (fun h221 => ?_) (fun h221 => ?_)
                  · refine jr.bipush rfl (jbp _ (nlt rfl)) ?_
                    refine jr.iadd rfl ?_
                    refine jr.i2l rfl (by omega) ?_
                    refine jr.ladd rfl ?_
                    refine jr.lstore (ls' := [_, _, _, _, _, _, _, _]) rfl (nlt rfl) rfl ?_
                    refine jr.lload rfl rfl ?_
                    refine jr_s rfl rfl (Or.inl rfl) ⟨Nat.le_of_ble_eq_true rfl, Nat.le_of_ble_eq_true rfl⟩ rfl rfl (jc.deep (r_turned_x hI_M hH_M hS_M  (by omega)  (fun r15 z15 w15_0 => ?_)) (Nat.le_of_ble_eq_true rfl))
                    refine jr.istore (ls' := [_, _, _, _, _, _, _, _, _]) rfl (nlt rfl) rfl ?_
                    refine jr.iload_n rfl rfl ?_
                    refine jr.bipush rfl (jbp _ (nlt rfl)) ?_
                    refine jr.icmp_ne rfl rfl (by first | (refine rgb (by assumption) ?_; exact rfl) | omega) (rgl rfl) (fun h246 => ?_) (fun h246 => ?_)
                    · refine jr.iload rfl rfl ?_
                      exact jr.ireturn rfl rfl rfl (q _ (by omega) (by exfalso; omega))
                    · refine jr.iload rfl rfl ?_
                      refine jr.if_ne rfl rfl (by first | (refine rgb (by assumption) ?_; exact rfl) | omega) (fun h251 => ?_) (fun h251 => ?_)
                      · have sx251 : (1 : Int) ≤ r15 := by omega
                        clear h251
                        refine jr.iload rfl rfl ?_
                        exact jr.ireturn rfl rfl rfl (q _ (by omega) (by have hh := HT.f hy3 (x := h) (by omega); have htt := HT.f hy3 (x := t) (by omega); have hA1 : sb (fz (rf M x) (a + sof k)) a (N - a).toNat = r12 := (by rw [show a + sof k = r11 from by have h9 := w11_0; rw [hy1] at h9; omega, ← hy5, e10]; exact w12_0.symm); (have hA2 : aD f (rf M x) N t = r14 := (by unfold aD; rw [← htt.1, ← htt.2.1, e1, e13, if_neg (by omega), if_neg (by omega)]; have h9 := w14_0; rw [sb_9 (by omega), show v13 + 8 + 16 - (v13 + 8) = 16 from by omega] at h9; exact h9.symm); rw [dS_8 (k := k) (n := t) (Y := a) (s := r12 + r14 + (v10 - a + 17)) (by omega) (by omega) (by omega) (by rw [hy4, nxD_s (by omega), if_pos (by omega)]) (by omega) (by omega) (by rw [hA1, hA2, if_neg (by omega)]; omega), ← w15_0]; unfold dsu; rw [if_neg (by omega)])))
                      · refine jr.ldcw (x := 65535) rfl rfl (by decide) ?_
                        refine jr.goto rfl rfl ?_
                        exact jr.ireturn rfl rfl rfl (q _ (by omega) (by have hh := HT.f hy3 (x := h) (by omega); have htt := HT.f hy3 (x := t) (by omega); have hA1 : sb (fz (rf M x) (a + sof k)) a (N - a).toNat = r12 := (by rw [show a + sof k = r11 from by have h9 := w11_0; rw [hy1] at h9; omega, ← hy5, e10]; exact w12_0.symm); (have hA2 : aD f (rf M x) N t = r14 := (by unfold aD; rw [← htt.1, ← htt.2.1, e1, e13, if_neg (by omega), if_neg (by omega)]; have h9 := w14_0; rw [sb_9 (by omega), show v13 + 8 + 16 - (v13 + 8) = 16 from by omega] at h9; exact h9.symm); rw [dS_8 (k := k) (n := t) (Y := a) (s := r12 + r14 + (v10 - a + 17)) (by omega) (by omega) (by omega) (by rw [hy4, nxD_s (by omega), if_pos (by omega)]) (by omega) (by omega) (by rw [hA1, hA2, if_neg (by omega)]; omega), ← w15_0]; unfold dsu; rw [if_pos (by omega)])))
                  · refine jr.bipush rfl (jbp _ (nlt rfl)) ?_
                    refine jr.goto rfl rfl ?_
                    refine jr.iadd rfl ?_
                    refine jr.i2l rfl (by omega) ?_
                    refine jr.ladd rfl ?_
                    refine jr.lstore (ls' := [_, _, _, _, _, _, _, _]) rfl (nlt rfl) rfl ?_
                    refine jr.lload rfl rfl ?_
                    refine jr_s rfl rfl (Or.inl rfl) ⟨Nat.le_of_ble_eq_true rfl, Nat.le_of_ble_eq_true rfl⟩ rfl rfl (jc.deep (r_turned_x hI_M hH_M hS_M  (by omega)  (fun r16 z16 w16_0 => ?_)) (Nat.le_of_ble_eq_true rfl))
                    refine jr.istore (ls' := [_, _, _, _, _, _, _, _, _]) rfl (nlt rfl) rfl ?_
                    refine jr.iload_n rfl rfl ?_
                    refine jr.bipush rfl (jbp _ (nlt rfl)) ?_
                    refine jr.icmp_ne rfl rfl (by first | (refine rgb (by assumption) ?_; exact rfl) | omega) (rgl rfl) (fun h246 => ?_) (fun h246 => ?_)
                    · refine jr.iload rfl rfl ?_
                      exact jr.ireturn rfl rfl rfl (q _ (by omega) (by have hh := HT.f hy3 (x := h) (by omega); have htt := HT.f hy3 (x := t) (by omega); have hA1 : sb (fz (rf M x) (a + sof k)) a (N - a).toNat = r12 := (by rw [show a + sof k = r11 from by have h9 := w11_0; rw [hy1] at h9; omega, ← hy5, e10]; exact w12_0.symm); (have hA2 : aD f (rf M x) N t = r14 := (by unfold aD; rw [← htt.1, ← htt.2.1, e1, e13, if_neg (by omega), if_neg (by omega)]; have h9 := w14_0; rw [sb_9 (by omega), show v13 + 8 + 16 - (v13 + 8) = 16 from by omega] at h9; exact h9.symm); rw [dS_8 (k := k) (n := t) (Y := a) (s := r12 + r14 + (v10 - a + 6)) (by omega) (by omega) (by omega) (by rw [hy4, nxD_s (by omega), if_pos (by omega)]) (by omega) (by omega) (by rw [hA1, hA2, if_pos (by omega)]; omega), ← w16_0]; unfold dsu; rw [if_neg (by omega)])))
                    · exact absurd (by omega) h246
                · exact absurd (by omega) h183
              · exact absurd (by omega) h141
            · refine jr.lload rfl rfl ?_
              refine jr_s rfl rfl (Or.inl rfl) ⟨Nat.le_of_ble_eq_true rfl, Nat.le_of_ble_eq_true rfl⟩ rfl rfl (jc.deep (r_turned_x hI_M hH_M hS_M  (by omega)  (fun r17 z17 w17_0 => ?_)) (Nat.le_of_ble_eq_true rfl))
              exact jr.ireturn rfl rfl rfl (q _ (by omega) (by have hh := HT.f hy3 (x := h) (by omega); rw [dS_7 (Y := a) (by omega) (by omega) (by omega), ← show k = 7 from by omega, show a + sof k = r11 from by have h9 := w11_0; rw [hy1] at h9; omega, ← hy5, e10, ← w12_0, ← w17_0]))
          · exact absurd (by omega) h96
        · refine jr.iinc (ls' := [_, _, _, _, _, _]) rfl rfl (nlt rfl) rfl ?_
          refine jr.goto rfl rfl ?_
          refine jr.pick (ls := [_, _, _, _, _, _]) [0, 1, 2, 3, 4, 5] rfl rfl ?_
          exact ih (nM - 1) (by omega) (t + (-1)) a k h x (by omega) (by omega) (by omega) (by omega) (by omega) (by omega) (by omega) (by omega) hy3 (by have htt := HT.f hy3 (x := t) (by omega); rw [hy4, nxD_s (by omega), if_neg (by omega), show t + -1 + 1 = t from by omega]) (by omega) (by omega) (by omega) (by omega) (by omega) (by omega)
theorem r_sumOf_x {A : Nat → Option (Nat × (Nat → Int32))} {Q : Option Value → jm → Prop} {f : Int → Int} {N C : Int} {M : jm} (hI_M : RI M) (hH_M : RH M) (hS_M : RF M) {x : Int} (h_x : 0 ≤ x ∧ x ≤ 23) {h : Int} (h_h : 0 ≤ h ∧ h ≤ 11) (p0 : HT M f N C) (p1 : h < C) (p2 : M 600 x = N) (q : ∀ (r : Int), (-1) ≤ r ∧ r ≤ 65535 → r = dS f (rf M x) N C h → Q (some (.int (Int32.ofInt r))) M) : jc A 3 282 [.ref (598), .int (Int32.ofInt (x)), .int (Int32.ofInt (h))] M Q := by
  have rh := (hH_M h).2
  have hh0 := HT.f p0 (x := h) (by omega)
  have hN4 := p0.2.2.1
  refine jc_of (m := xm_282) rfl (Nat.le_of_ble_eq_true rfl) rfl ?_
  refine jr.aload_n rfl rfl ?_
  refine jr.getf (i := 7) (v := .ref 603) rfl rfl (nlt rfl) rfl (nlt rfl) rfl rfl rfl rfl ?_
  refine jr.iload_n rfl rfl ?_
  obtain ⟨v1, e1⟩ : ∃ z, M 603 h = z := ⟨_, rfl⟩
  have b1 : 0 ≤ v1 ∧ v1 ≤ 11 := by rw [← e1]; exact (by have q := hI_M 603 h (Nat.le_of_ble_eq_true rfl); rw [xri_row rfl rfl] at q; exact q)
  refine jr.iald (i := h) (x := v1) rfl (nlt rfl) rfl (Nat.le_of_ble_eq_true rfl) (by omega) (by omega) e1 ?_
  refine jr.istore_n (ls' := [_, _, _, _]) rfl (nlt rfl) rfl ?_
  refine jr.aload_n rfl rfl ?_
  refine jr.getf (i := 8) (v := .ref 604) rfl rfl (nlt rfl) rfl (nlt rfl) rfl rfl rfl rfl ?_
  refine jr.iload_n rfl rfl ?_
  obtain ⟨v2, e2⟩ : ∃ z, M 604 h = z := ⟨_, rfl⟩
  have b2 : 0 ≤ v2 ∧ v2 ≤ 400 := by rw [← e2]; exact (by have q := hI_M 604 h (Nat.le_of_ble_eq_true rfl); rw [xri_row rfl rfl] at q; exact q)
  refine jr.iald (i := h) (x := v2) rfl (nlt rfl) rfl (Nat.le_of_ble_eq_true rfl) (by omega) (by omega) e2 ?_
  refine jr.istore (ls' := [_, _, _, _, _]) rfl (nlt rfl) rfl ?_
  refine jr.aload_n rfl rfl ?_
  refine jr.iload_n rfl rfl ?_
  refine jr_v rfl rfl (Or.inl rfl) rfl rfl (nlt rfl) rfl ⟨rfl, Nat.le_of_ble_eq_true rfl, Nat.le_of_ble_eq_true rfl⟩ rfl (jc.deep (r_sumAt_x hI_M hH_M hS_M  (by omega)  (fun r3 z3 w3_0 => ?_)) (Nat.le_of_ble_eq_true rfl))
  refine jr.iconst rfl ?_
  refine jr.icmp_ne rfl rfl (by first | (refine rgb (by assumption) ?_; exact rfl) | omega) (rgl rfl) (fun h21 => ?_) (fun h21 => ?_)
  · have sx21 : (0 : Int) ≤ r3 := by omega
    clear h21
    refine jr.iload_n rfl rfl ?_
    refine jr.iconst rfl ?_
    refine jr.icmp_ne rfl rfl (by first | (refine rgb (by assumption) ?_; exact rfl) | omega) (rgl rfl) (fun h28 => ?_) (fun h28 => ?_)
    · refine jr.iload_n rfl rfl ?_
      refine jr.iconst rfl ?_
      refine jr.isub rfl ?_
      refine jr.istore (ls' := [_, _, _, _, _, _]) rfl (nlt rfl) rfl ?_
      refine jr.pick (ls := [_, _, _, _, _, _]) [0, 1, 2, 5, 4, 3] rfl rfl ?_
      exact r_sumOf_L61_x hI_M hH_M hS_M q 12 (h - 1) v2 v1 h x (by omega) (by omega) (by omega) (by omega) (by omega) (by omega) (by omega) (by omega) p0 (by rw [show h - 1 + 1 = h from by omega]) (by omega) (by omega) (by omega) (by omega) (by omega) (by omega)
    · refine jr.aload_n rfl rfl ?_
      refine jr.iload_n rfl rfl ?_
      refine jr.iload rfl rfl ?_
      refine jr.iload rfl rfl ?_
      refine jr.aload_n rfl rfl ?_
      refine jr.getf (i := 9) (v := .ref 605) rfl rfl (nlt rfl) rfl (nlt rfl) rfl rfl rfl rfl ?_
      refine jr.iload_n rfl rfl ?_
      obtain ⟨v4, e4⟩ : ∃ z, M 605 h = z := ⟨_, rfl⟩
      have b4 : 0 ≤ v4 ∧ v4 ≤ 400 := by rw [← e4]; exact (by have q := hI_M 605 h (Nat.le_of_ble_eq_true rfl); rw [xri_row rfl rfl] at q; exact q)
      refine jr.iald (i := h) (x := v4) rfl (nlt rfl) rfl (Nat.le_of_ble_eq_true rfl) (by omega) (by omega) e4 ?_
      refine jr.iadd rfl ?_
      refine jr.iload rfl rfl ?_
      refine jr.bipush rfl (jbp _ (nlt rfl)) ?_
      refine jr.iadd rfl ?_
      refine jr_v rfl rfl (Or.inl rfl) rfl rfl (nlt rfl) rfl ⟨rfl, Nat.le_of_ble_eq_true rfl, Nat.le_of_ble_eq_true rfl⟩ rfl (jc.deep (r_added_x hI_M hH_M hS_M  (by omega) (by omega) (by omega) (by omega) (by omega) (fun r5 z5 w5_0 => ?_)) (Nat.le_of_ble_eq_true rfl))
      refine jr_s rfl rfl (Or.inl rfl) ⟨Nat.le_of_ble_eq_true rfl, Nat.le_of_ble_eq_true rfl⟩ rfl rfl (jc.deep (r_turned_x hI_M hH_M hS_M  (by omega)  (fun r6 z6 w6_0 => ?_)) (Nat.le_of_ble_eq_true rfl))
      exact jr.ireturn rfl rfl rfl (q _ (by omega) (by have hh := HT.f p0 (x := h) (by omega); rw [dS_2 (Y := v2) (Z := v4) (by omega) (by omega) (by omega) (by omega), ← w5_0, ← w6_0]))
  · refine jr.iconst rfl ?_
    exact jr.ireturn rfl rfl rfl (q _ (by first | exact rgq rfl | omega) (by have hh := HT.f p0 (x := h) (by omega); exact (dS_o (k := v1) (by omega) (by omega) (by omega)).symm))
end
section
/-! ===== the reference: right, repair ===== -/
theorem r_layTwo_x {A : Nat → Option (Nat × (Nat → Int32))} {Q : Option Value → jm → Prop} {M : jm} (hI_M : RI M) (hH_M : RH M) (hS_M : RF M) {x : Int} (h_x : 0 ≤ x ∧ x ≤ 23) {i : Int} (h_i : 0 ≤ i ∧ i ≤ 398) {w : Int} (h_w : (-2147483648) ≤ w ∧ w ≤ 2147483647) (q : ∀ (M' : jm), RI M' → RH M' → RF M' → rf M' x = ptn (rf M x) i 2 w → OX M M' x → (∀ (a : Nat) (i : Int), a ≠ 601 → M' a i = M a i) → Q none M') : jc A 1 257 [.ref (598), .int (Int32.ofInt (x)), .int (Int32.ofInt (i)), .int (Int32.ofInt (w))] M Q := by
  refine jc_of (m := xm_257) rfl (Nat.le_of_ble_eq_true rfl) rfl ?_
  refine jr.aload_n rfl rfl ?_
  refine jr.getf (i := 4) (v := .ref 601) rfl rfl (nlt rfl) rfl (nlt rfl) rfl rfl rfl rfl ?_
  refine jr.sipush rfl (by decide) ?_
  refine jr.iload_n rfl rfl ?_
  refine jr.imul rfl ?_
  refine jr.iload_n rfl rfl ?_
  refine jr.iadd rfl ?_
  refine jr.iload_n rfl rfl ?_
  refine jr.bipush rfl (jbp _ (nlt rfl)) ?_
  refine jr.ishr rfl ?_
  have b1 : j_shr w 8 = w / 256 := j_shr_ex 8 (by decide) (by omega) (by omega)
  generalize j_shr w 8 = v1 at b1 ⊢
  refine jr.sipush rfl (by decide) ?_
  refine jr.iand rfl ?_
  have b2 : j_and v1 255 = v1 % 256 := j_and_m 8 (by decide) _
  generalize j_and v1 255 = v2 at b2 ⊢
  refine jr.iast (i := ((400 * x) + i)) (x := v2) rfl (nlt rfl) rfl (Nat.le_of_ble_eq_true rfl) (by omega) (by omega) ?_
  refine jr.aload_n rfl rfl ?_
  refine jr.getf (i := 4) (v := .ref 601) rfl rfl (nlt rfl) rfl (nlt rfl) rfl rfl rfl rfl ?_
  refine jr.sipush rfl (by decide) ?_
  refine jr.iload_n rfl rfl ?_
  refine jr.imul rfl ?_
  refine jr.iload_n rfl rfl ?_
  refine jr.iadd rfl ?_
  refine jr.iconst rfl ?_
  refine jr.iadd rfl ?_
  refine jr.iload_n rfl rfl ?_
  refine jr.sipush rfl (by decide) ?_
  refine jr.iand rfl ?_
  have b3 : j_and w 255 = w % 256 := j_and_m 8 (by decide) _
  generalize j_and w 255 = v3 at b3 ⊢
  refine jr.iast (i := (((400 * x) + i) + 1)) (x := v3) rfl (nlt rfl) rfl (Nat.le_of_ble_eq_true rfl) (by omega) (by omega) ?_
  exact jr.vreturn rfl rfl (q _ (RI.u (RI.u hI_M (a := 601) (i := ((400 * x) + i)) (by rw [xri_row rfl rfl]; show (0 : Int) ≤ _ ∧ _ ≤ (255 : Int); omega)) (a := 601) (i := (((400 * x) + i) + 1)) (by rw [xri_row rfl rfl]; show (0 : Int) ≤ _ ∧ _ ≤ (255 : Int); omega)) (RH.o (RH.o hH_M (by decide) (by decide) (by decide)) (by decide) (by decide) (by decide)) (RF.o (RF.o hS_M (by decide) (by decide)) (by decide) (by decide))  (by exact lay2 (by show _ = w / 256 % 256; omega) (by show _ = w % 256; omega)) (fun j hj => (ju_i _ _ (by omega)).trans (ju_i _ _ (by omega))) (fun a i f601 => ((ju_c _ _ f601).trans ((ju_c _ _ f601).trans rfl))))
theorem r_sum_x {A : Nat → Option (Nat × (Nat → Int32))} {Q : Option Value → jm → Prop} {M : jm} (hI_M : RI M) (hH_M : RH M) (hS_M : RF M) {x : Int} (h_x : (-2147483648) ≤ x ∧ x ≤ 2147483647) {h : Int} (h_h : (-2147483648) ≤ h ∧ h ≤ 2147483647) (q : ∀ (r : Int) (M' : jm), RI M' → RH M' → RF M' → (-2) ≤ r ∧ r ≤ 65535 → (((x < 0 ∨ 23 < x ∨ M 600 x = -1) ∧ r = -2) ∨ (((0 ≤ x ∧ x ≤ 23) ∧ M 600 x ≠ -1) ∧ ∃ C : Int, HE (rf M x) (M 600 x) C ∧ r = dS (rf M x) (rf M x) (M 600 x) C h)) → (∀ (a : Nat) (i : Int), a ≠ 598 → a ≠ 603 → a ≠ 604 → a ≠ 605 → M' a i = M a i) → (∀ (i : Int), i ≠ 6 → i ≠ 10 → i ≠ 11 → i ≠ 12 → M' 598 i = M 598 i) → Q (some (.int (Int32.ofInt r))) M') : jc A 5 283 [.ref (598), .int (Int32.ofInt (x)), .int (Int32.ofInt (h))] M Q := by
  refine jc_of (m := xm_283) rfl (Nat.le_of_ble_eq_true rfl) rfl ?_
  refine jr.aload_n rfl rfl ?_
  refine jr.iload_n rfl rfl ?_
  refine jr_v rfl rfl (Or.inl rfl) rfl rfl (nlt rfl) rfl ⟨rfl, Nat.le_of_ble_eq_true rfl, Nat.le_of_ble_eq_true rfl⟩ rfl (jc.deep (c_isThere hI_M (by omega) (fun l2 u2 t2 => ?_) (fun n2 => ?_)) (Nat.le_of_ble_eq_true rfl))
  · refine jr.if_ne rfl rfl (by first | exact rgl rfl | omega) (fun _ => ?_) (fun h => absurd (by decide) h)
    refine jr.aload_n rfl rfl ?_
    refine jr.iload_n rfl rfl ?_
    obtain ⟨v2, e2⟩ : ∃ z, M 600 x = z := ⟨_, rfl⟩
    have b2 : (-1) ≤ v2 ∧ v2 ≤ 400 := by rw [← e2]; exact (by have q := hI_M 600 x (Nat.le_of_ble_eq_true rfl); rw [xri_row rfl rfl] at q; exact q)
    refine jr_v rfl rfl (Or.inl rfl) rfl rfl (nlt rfl) rfl ⟨rfl, Nat.le_of_ble_eq_true rfl, Nat.le_of_ble_eq_true rfl⟩ rfl (jc.deep (r_look_x hI_M hH_M hS_M  (by omega) (by rw [e2]; omega) (fun M1 hI_M1 hH_M1 hS_M1  w1_0 w1_1 w1_2 w1_3 => ?_)) (Nat.le_of_ble_eq_true rfl))
    refine jr.iload_n rfl rfl ?_
    refine jr.i2l rfl (by omega) ?_
    refine jr.lconst (x := 0) rfl (by decide) ?_
    refine jr.aload_n rfl rfl ?_
    obtain ⟨v3, e3⟩ : ∃ z, M1 598 6 = z := ⟨_, rfl⟩
    have b3 : 0 ≤ v3 ∧ v3 ≤ 12 := by rw [← e3]; exact hI_M1 598 6 (Nat.le_of_ble_eq_true rfl)
    refine jr.getf (i := 6) (x := v3) (v := .int (Int32.ofInt (v3))) rfl rfl (nlt rfl) rfl (nlt rfl) rfl rfl e3 rfl ?_
    refine jr.iconst rfl ?_
    refine jr.isub rfl ?_
    refine jr.i2l rfl (by omega) ?_
    refine jr_s rfl rfl (Or.inl rfl) ⟨Nat.le_of_ble_eq_true rfl, Nat.le_of_ble_eq_true rfl⟩ rfl rfl (jc.deep (c_within (by omega) (by omega) (by omega) (fun l26 u26 => ?_) (fun n26 => ?_)) (Nat.le_of_ble_eq_true rfl))
    · refine jr.if_eq rfl rfl (by first | exact rgl rfl | omega) (fun h => absurd h (by decide)) (fun _ => ?_)
      refine jr.aload_n rfl rfl ?_
      refine jr.iload_n rfl rfl ?_
      refine jr.iload_n rfl rfl ?_
      refine jr_v rfl rfl (Or.inl rfl) rfl rfl (nlt rfl) rfl ⟨rfl, Nat.le_of_ble_eq_true rfl, Nat.le_of_ble_eq_true rfl⟩ rfl (jc.deep (r_sumOf_x hI_M1 hH_M1 hS_M1  (by omega) (by omega) (HQ6.t w1_1 (by have hq := hI_M 600 x (Nat.le_of_ble_eq_true rfl); rw [xri_row rfl rfl] at hq; omega) (fun i h0 h1 => rf_r hI_M x i)) (by omega) (w1_2 600 x (nne rfl) (nne rfl) (nne rfl) (nne rfl)) (fun r4 z4 w4_0 => ?_)) (Nat.le_of_ble_eq_true rfl))
      refine jr.goto rfl rfl ?_
      exact jr.ireturn rfl rfl rfl (q _ _ hI_M1 hH_M1 hS_M1  (by omega) (Or.inr ⟨by omega, M1 598 6, HQ6.e w1_1, (by have h9 := w4_0; rw [rf_e (M := M) (fun i => w1_2 601 i (nne rfl) (nne rfl) (nne rfl) (nne rfl))] at h9; exact h9)⟩) (fun a i f598 f603 f604 f605 => ((w1_2 a i f598 f603 f604 f605).trans rfl)) (fun i g6 g10 g11 g12 => ((w1_3 i g6 g10 g11 g12).trans rfl)))
    · refine jr.if_eq rfl rfl (by first | exact rgl rfl | omega) (fun _ => ?_) (fun h => absurd (by decide) h)
      refine jr.iconst rfl ?_
      exact jr.ireturn rfl rfl rfl (q _ _ hI_M1 hH_M1 hS_M1  (by first | exact rgq rfl | omega) (Or.inr ⟨by omega, M1 598 6, HQ6.e w1_1, (by unfold dS kA; rw [if_neg (show ¬ (0 ≤ h ∧ h < M1 598 6) by omega)]; rfl)⟩) (fun a i f598 f603 f604 f605 => ((w1_2 a i f598 f603 f604 f605).trans rfl)) (fun i g6 g10 g11 g12 => ((w1_3 i g6 g10 g11 g12).trans rfl)))
  · refine jr.if_ne rfl rfl (by first | exact rgl rfl | omega) (fun h => absurd h (by decide)) (fun _ => ?_)
    refine jr.bipush rfl (by decide) ?_
    exact jr.ireturn rfl rfl rfl (q _ _ hI_M hH_M hS_M  (by first | exact rgq rfl | omega) (Or.inl ⟨by omega, by omega⟩) (fun a i f598 f603 f604 f605 => rfl) (fun i g6 g10 g11 g12 => rfl))
theorem md_n {f f1 : Int → Int} {N C x d : Int} (hd : d = dS f f1 N C x) (h : d = -1) : mdR f N C x f1 = 0 ∧ mdF f N C x f1 = f1 := by
  unfold mdR mdF
  rw [← hd, if_pos h, if_pos h]
  exact ⟨rfl, rfl⟩
theorem md_e {f f1 : Int → Int} {N C x d y : Int} (hd : d = dS f f1 N C x) (h : d ≠ -1) (hy : hY f N x + sof (hX f N x) = y) (ht : tw f1 y = d) (h0 : 0 ≤ f1 y ∧ f1 y ≤ 255) (h1 : 0 ≤ f1 (y + 1) ∧ f1 (y + 1) ≤ 255) : mdR f N C x f1 = 0 ∧ mdF f N C x f1 = f1 := by
  unfold mdR mdF
  rw [← hd, if_neg h, if_neg h, hy, if_pos ht, ptn_id ht h0 h1]
  exact ⟨rfl, rfl⟩
theorem md_c {f f1 : Int → Int} {N C x d y : Int} (hd : d = dS f f1 N C x) (h : d ≠ -1) (hy : hY f N x + sof (hX f N x) = y) (ht : tw f1 y ≠ d) : mdR f N C x f1 = 1 ∧ mdF f N C x f1 = ptn f1 y 2 d := by
  unfold mdR mdF
  rw [← hd, if_neg h, if_neg h, hy, if_neg ht]
  exact ⟨rfl, rfl⟩
theorem r_right_x {A : Nat → Option (Nat × (Nat → Int32))} {Q : Option Value → jm → Prop} {f : Int → Int} {N C : Int} {M : jm} (hI_M : RI M) (hH_M : RH M) (hS_M : RF M) {x : Int} (h_x : 0 ≤ x ∧ x ≤ 23) {h : Int} (h_h : 0 ≤ h ∧ h ≤ 11) (p0 : HT M f N C) (p1 : h < C) (p2 : M 600 x = N) (q : ∀ (r : Int) (M' : jm), RI M' → RH M' → RF M' → 0 ≤ r ∧ r ≤ 1 → (r = mdR f N C h (rf M x) ∧ rf M' x = mdF f N C h (rf M x)) → OX M M' x → (∀ (a : Nat) (i : Int), a ≠ 601 → M' a i = M a i) → Q (some (.int (Int32.ofInt r))) M') : jc A 4 284 [.ref (598), .int (Int32.ofInt (x)), .int (Int32.ofInt (h))] M Q := by
  refine jc_of (m := xm_284) rfl (Nat.le_of_ble_eq_true rfl) rfl ?_
  refine jr.aload_n rfl rfl ?_
  refine jr.iload_n rfl rfl ?_
  refine jr.iload_n rfl rfl ?_
  refine jr_v rfl rfl (Or.inl rfl) rfl rfl (nlt rfl) rfl ⟨rfl, Nat.le_of_ble_eq_true rfl, Nat.le_of_ble_eq_true rfl⟩ rfl (jc.deep (r_sumOf_x hI_M hH_M hS_M  (by omega) (by omega) p0 p1 p2 (fun r1 z1 w1_0 => ?_)) (Nat.le_of_ble_eq_true rfl))
  have hds := dS_in w1_0
  have hh0 := HT.f p0 (x := h) (by omega)
  have hk4 : kA f N C h = hX f N h := kA_i (by omega)
  refine jr.istore_n (ls' := [_, _, _, _]) rfl (nlt rfl) rfl ?_
  refine jr.iload_n rfl rfl ?_
  refine jr.iconst rfl ?_
  refine jr.icmp_eq rfl rfl (by first | (refine rgb (by assumption) ?_; exact rfl) | omega) (rgl rfl) (fun h9 => ?_) (fun h9 => ?_)
  · refine jr.iconst rfl ?_
    exact jr.ireturn rfl rfl rfl (q _ _ hI_M hH_M hS_M  (by first | exact rgq rfl | omega) (by (have h9 := md_n w1_0 (by omega); exact ⟨h9.1.symm, h9.2.symm⟩)) (fun _ _ => rfl) (fun a i f601 => rfl))
  · have sx9 : (0 : Int) ≤ r1 := by omega
    refine jr.aload_n rfl rfl ?_
    refine jr.iload_n rfl rfl ?_
    refine jr.aload_n rfl rfl ?_
    refine jr.iload_n rfl rfl ?_
    refine jr_v rfl rfl (Or.inl rfl) rfl rfl (nlt rfl) rfl ⟨rfl, Nat.le_of_ble_eq_true rfl, Nat.le_of_ble_eq_true rfl⟩ rfl (jc.deep (r_sumAt_x hI_M hH_M hS_M  (by omega)  (fun r2 z2 w2_0 => ?_)) (Nat.le_of_ble_eq_true rfl))
    refine jr_v rfl rfl (Or.inl rfl) rfl rfl (nlt rfl) rfl ⟨rfl, Nat.le_of_ble_eq_true rfl, Nat.le_of_ble_eq_true rfl⟩ rfl (jc.deep (r_two_x hI_M hH_M hS_M  (by omega) (by omega)  (fun r3 z3 w3_0 => ?_)) (Nat.le_of_ble_eq_true rfl))
    refine jr.iload_n rfl rfl ?_
    refine jr.icmp_ne rfl rfl (by first | (refine rgb (by assumption) ?_; exact rfl) | omega) (by first | (refine rgb (by assumption) ?_; exact rfl) | omega) (fun h23 => ?_) (fun h23 => ?_)
    · refine jr.aload_n rfl rfl ?_
      refine jr.iload_n rfl rfl ?_
      refine jr.aload_n rfl rfl ?_
      refine jr.iload_n rfl rfl ?_
      refine jr_v rfl rfl (Or.inl rfl) rfl rfl (nlt rfl) rfl ⟨rfl, Nat.le_of_ble_eq_true rfl, Nat.le_of_ble_eq_true rfl⟩ rfl (jc.deep (r_sumAt_x hI_M hH_M hS_M  (by omega)  (fun r4 z4 w4_0 => ?_)) (Nat.le_of_ble_eq_true rfl))
      refine jr.iload_n rfl rfl ?_
      refine jr_v rfl rfl (Or.inl rfl) rfl rfl (nlt rfl) rfl ⟨rfl, Nat.le_of_ble_eq_true rfl, Nat.le_of_ble_eq_true rfl⟩ rfl (jc.deep (r_layTwo_x hI_M hH_M hS_M  (by omega) (by omega) (by omega)  (fun M5 hI_M5 hH_M5 hS_M5  w5_0 w5_1 w5_2 => ?_)) (Nat.le_of_ble_eq_true rfl))
      refine jr.iconst rfl ?_
      exact jr.ireturn rfl rfl rfl (q _ _ hI_M5 hH_M5 hS_M5  (by first | exact rgq rfl | omega) (by have hh := HT.f p0 (x := h) (by omega); have hat : hY f N h + sof (hX f N h) = r4 := (by have h9 := w4_0; rw [← hh.1, ← hh.2.1]; omega); have hsm : r4 = r2 := (by have h9 := w4_0; have h8 := w2_0; omega); have h9 := md_c w1_0 (by omega) hat (by rw [hsm]; omega); rw [h9.1, h9.2]; exact ⟨rfl, w5_0⟩) w5_1 (fun a i f601 => ((w5_2 a i f601).trans rfl)))
    · refine jr.iconst rfl ?_
      exact jr.ireturn rfl rfl rfl (q _ _ hI_M hH_M hS_M  (by first | exact rgq rfl | omega) (by first | (have h9 := md_n w1_0 (by omega); exact ⟨h9.1.symm, h9.2.symm⟩) | (have hh := HT.f p0 (x := h) (by omega); have hat : hY f N h + sof (hX f N h) = r2 := (by have h9 := w2_0; rw [← hh.1, ← hh.2.1]; omega); have h9 := md_e w1_0 (by omega) hat (by omega) (rf_r hI_M _ _) (rf_r hI_M _ _); exact ⟨h9.1.symm, h9.2.symm⟩)) (fun _ _ => rfl) (fun a i f601 => rfl))
theorem r_repair_L25_x {A : Nat → Option (Nat × (Nat → Int32))} {Q : Option Value → jm → Prop} {M0 : jm} {x0 : Int} (q : ∀ (r : Int) (M' : jm), RI M' → RH M' → RF M' → (-2) ≤ r ∧ r ≤ 20 → (((x0 < 0 ∨ 23 < x0 ∨ M0 600 x0 = -1) ∧ r = -2 ∧ M' = M0) ∨ (((0 ≤ x0 ∧ x0 ≤ 23) ∧ M0 600 x0 ≠ -1) ∧ (∃ C : Int, HE (rf M0 x0) (M0 600 x0) C ∧ r = rpN (rf M0 x0) (M0 600 x0) C C.toNat (rf M0 x0) ∧ rf M' x0 = rpF (rf M0 x0) (M0 600 x0) C C.toNat (rf M0 x0)) ∧ OX M0 M' x0)) → (∀ (a : Nat) (i : Int), a ≠ 598 → a ≠ 601 → a ≠ 603 → a ≠ 604 → a ≠ 605 → M' a i = M0 a i) → (∀ (i : Int), i ≠ 6 → i ≠ 10 → i ≠ 11 → i ≠ 12 → M' 598 i = M0 598 i) → Q (some (.int (Int32.ofInt r))) M') : ∀ (nM : Nat) (M : jm) (h : Int) (c : Int) (x : Int), RI M → RH M → RF M → (∀ (a : Nat) (i : Int), a ≠ 598 → a ≠ 601 → a ≠ 603 → a ≠ 604 → a ≠ 605 → M a i = M0 a i) → (∀ (i : Int), i ≠ 6 → i ≠ 10 → i ≠ 11 → i ≠ 12 → M 598 i = M0 598 i) → (-1) ≤ h ∧ h ≤ 11 → 0 ≤ c ∧ c ≤ 12 → 0 ≤ x ∧ x ≤ 23 → c + h ≤ 11 → HT M (rf M0 x) (M0 600 x) (M 598 6) → HE (rf M0 x) (M0 600 x) (M 598 6) → rpF (rf M0 x) (M0 600 x) (M 598 6) (h + 1).toNat (rf M x) = rpF (rf M0 x) (M0 600 x) (M 598 6) (M 598 6).toNat (rf M0 x) → c + rpN (rf M0 x) (M0 600 x) (M 598 6) (h + 1).toNat (rf M x) = rpN (rf M0 x) (M0 600 x) (M 598 6) (M 598 6).toNat (rf M0 x) → OX M0 M x → M0 600 x ≠ -1 ∧ M 600 x = M0 600 x ∧ h < M 598 6 → x = x0 → h + 1 ≤ nM → jr A 4 xm_285 25 [(3, .int (Int32.ofInt (h))), (2, .int (Int32.ofInt (c))), (1, .int (Int32.ofInt (x))), (0, .ref (598))] [] M Q := by
  intro nM
  induction nM using Nat.strongRecOn with
  | ind nM ih =>
    intro M h c x hI_M hH_M hS_M hF_M hG_M h_h h_c h_x hy0 hy1 hy2 hy3 hy4 hy5 hy6 hy7 hm
    subst hy7
    refine jr.iload_n rfl rfl ?_
    refine jr.if_lt rfl rfl (by first | (refine rgb (by assumption) ?_; exact rfl) | omega) (fun h26 => ?_) (fun h26 => ?_)
    · refine jr.iload_n rfl rfl ?_
      exact jr.ireturn rfl rfl rfl (q _ _ hI_M hH_M hS_M  (by omega) (Or.inr ⟨by omega, ⟨M 598 6, hy2, by have h9 := (rp_0 (f := rf M0 x) (N := M0 600 x) (C := M 598 6) (g := rf M x) (show h < 0 by omega)).2; omega, by rw [← hy3, (rp_0 (by omega)).1]⟩, hy5⟩) (fun a i f598 f601 f603 f604 f605 => (hF_M a i f598 f601 f603 f604 f605)) (fun i g6 g10 g11 g12 => (hG_M i g6 g10 g11 g12)))
    · refine jr.iload_n rfl rfl ?_
      refine jr.aload_n rfl rfl ?_
      refine jr.iload_n rfl rfl ?_
      refine jr.iload_n rfl rfl ?_
      refine jr_v rfl rfl (Or.inl rfl) rfl rfl (nlt rfl) rfl ⟨rfl, Nat.le_of_ble_eq_true rfl, Nat.le_of_ble_eq_true rfl⟩ rfl (jc.deep (r_right_x hI_M hH_M hS_M  (by omega) (by omega) hy1 (by omega) hy6.2.1 (fun r1 M1 hI_M1 hH_M1 hS_M1  z1 w1_0 w1_1 w1_2 => ?_)) (Nat.le_of_ble_eq_true rfl))
      refine jr.if_eq rfl rfl (by first | (refine rgb (by assumption) ?_; exact rfl) | omega) (fun h36 => ?_) (fun h36 => ?_)
      · refine jr.iconst rfl ?_
        refine jr.iadd rfl ?_
        refine jr.istore_n (ls' := [_, _, _, _]) rfl (nlt rfl) rfl ?_
        refine jr.iinc (ls' := [_, _, _, _]) rfl rfl (nlt rfl) rfl ?_
        refine jr.goto rfl rfl ?_
        refine jr.pick (ls := [_, _, _, _]) [0, 1, 2, 3] rfl rfl ?_
        exact ih (nM - 1) (by omega) M1 (h + (-1)) (c + 0) x hI_M1 hH_M1 hS_M1  (fun a i f598 f601 f603 f604 f605 => ((w1_2 a i f601).trans (hF_M a i f598 f601 f603 f604 f605))) (fun i g6 g10 g11 g12 => ((w1_2 598 i (nne rfl)).trans (hG_M i g6 g10 g11 g12))) (by omega) (by omega) (by omega) (by omega) (by rw [w1_2 598 6 (nne rfl)]; exact hy1.o (fun b i hb => w1_2 b i hb)) (by rw [w1_2 598 6 (nne rfl)]; exact hy2) (by rw [w1_2 598 6 (nne rfl), w1_0.2, show h + -1 + 1 = h from by omega, ← (rp_s (by omega)).1]; exact hy3) (by rw [w1_2 598 6 (nne rfl), w1_0.2, show h + -1 + 1 = h from by omega]; have h9 := hy4; rw [(rp_s (by omega)).2] at h9; have h8 := w1_0.1; omega) (fun j hj => (w1_1 j hj).trans (hy5 j hj)) (by rw [w1_2 600 x (nne rfl), w1_2 598 6 (nne rfl)]; omega) (by omega) (by omega)
      · have sx36 : (1 : Int) ≤ r1 := by omega
        clear h36
        refine jr.iconst rfl ?_
        refine jr.goto rfl rfl ?_
        refine jr.iadd rfl ?_
        refine jr.istore_n (ls' := [_, _, _, _]) rfl (nlt rfl) rfl ?_
        refine jr.iinc (ls' := [_, _, _, _]) rfl rfl (nlt rfl) rfl ?_
        refine jr.goto rfl rfl ?_
        refine jr.pick (ls := [_, _, _, _]) [0, 1, 2, 3] rfl rfl ?_
        exact ih (nM - 1) (by omega) M1 (h + (-1)) (c + 1) x hI_M1 hH_M1 hS_M1  (fun a i f598 f601 f603 f604 f605 => ((w1_2 a i f601).trans (hF_M a i f598 f601 f603 f604 f605))) (fun i g6 g10 g11 g12 => ((w1_2 598 i (nne rfl)).trans (hG_M i g6 g10 g11 g12))) (by omega) (by omega) (by omega) (by omega) (by rw [w1_2 598 6 (nne rfl)]; exact hy1.o (fun b i hb => w1_2 b i hb)) (by rw [w1_2 598 6 (nne rfl)]; exact hy2) (by rw [w1_2 598 6 (nne rfl), w1_0.2, show h + -1 + 1 = h from by omega, ← (rp_s (by omega)).1]; exact hy3) (by rw [w1_2 598 6 (nne rfl), w1_0.2, show h + -1 + 1 = h from by omega]; have h9 := hy4; rw [(rp_s (by omega)).2] at h9; have h8 := w1_0.1; omega) (fun j hj => (w1_1 j hj).trans (hy5 j hj)) (by rw [w1_2 600 x (nne rfl), w1_2 598 6 (nne rfl)]; omega) (by omega) (by omega)
theorem r_repair_x {A : Nat → Option (Nat × (Nat → Int32))} {Q : Option Value → jm → Prop} {M : jm} (hI_M : RI M) (hH_M : RH M) (hS_M : RF M) {x : Int} (h_x : (-2147483648) ≤ x ∧ x ≤ 2147483647) (q : ∀ (r : Int) (M' : jm), RI M' → RH M' → RF M' → (-2) ≤ r ∧ r ≤ 20 → (((x < 0 ∨ 23 < x ∨ M 600 x = -1) ∧ r = -2 ∧ M' = M) ∨ (((0 ≤ x ∧ x ≤ 23) ∧ M 600 x ≠ -1) ∧ (∃ C : Int, HE (rf M x) (M 600 x) C ∧ r = rpN (rf M x) (M 600 x) C C.toNat (rf M x) ∧ rf M' x = rpF (rf M x) (M 600 x) C C.toNat (rf M x)) ∧ OX M M' x)) → (∀ (a : Nat) (i : Int), a ≠ 598 → a ≠ 601 → a ≠ 603 → a ≠ 604 → a ≠ 605 → M' a i = M a i) → (∀ (i : Int), i ≠ 6 → i ≠ 10 → i ≠ 11 → i ≠ 12 → M' 598 i = M 598 i) → Q (some (.int (Int32.ofInt r))) M') : jc A 5 285 [.ref (598), .int (Int32.ofInt (x))] M Q := by
  refine jc_of (m := xm_285) rfl (Nat.le_of_ble_eq_true rfl) rfl ?_
  refine jr.aload_n rfl rfl ?_
  refine jr.iload_n rfl rfl ?_
  refine jr_v rfl rfl (Or.inl rfl) rfl rfl (nlt rfl) rfl ⟨rfl, Nat.le_of_ble_eq_true rfl, Nat.le_of_ble_eq_true rfl⟩ rfl (jc.deep (c_isThere hI_M (by omega) (fun l2 u2 t2 => ?_) (fun n2 => ?_)) (Nat.le_of_ble_eq_true rfl))
  · refine jr.if_ne rfl rfl (by first | exact rgl rfl | omega) (fun _ => ?_) (fun h => absurd (by decide) h)
    refine jr.aload_n rfl rfl ?_
    refine jr.iload_n rfl rfl ?_
    obtain ⟨v2, e2⟩ : ∃ z, M 600 x = z := ⟨_, rfl⟩
    have b2 : (-1) ≤ v2 ∧ v2 ≤ 400 := by rw [← e2]; exact (by have q := hI_M 600 x (Nat.le_of_ble_eq_true rfl); rw [xri_row rfl rfl] at q; exact q)
    refine jr_v rfl rfl (Or.inl rfl) rfl rfl (nlt rfl) rfl ⟨rfl, Nat.le_of_ble_eq_true rfl, Nat.le_of_ble_eq_true rfl⟩ rfl (jc.deep (r_look_x hI_M hH_M hS_M  (by omega) (by rw [e2]; omega) (fun M1 hI_M1 hH_M1 hS_M1  w1_0 w1_1 w1_2 w1_3 => ?_)) (Nat.le_of_ble_eq_true rfl))
    refine jr.iconst rfl ?_
    refine jr.istore_n (ls' := [_, _, _]) rfl (nlt rfl) rfl ?_
    refine jr.aload_n rfl rfl ?_
    obtain ⟨v3, e3⟩ : ∃ z, M1 598 6 = z := ⟨_, rfl⟩
    have b3 : 0 ≤ v3 ∧ v3 ≤ 12 := by rw [← e3]; exact hI_M1 598 6 (Nat.le_of_ble_eq_true rfl)
    refine jr.getf (i := 6) (x := v3) (v := .int (Int32.ofInt (v3))) rfl rfl (nlt rfl) rfl (nlt rfl) rfl rfl e3 rfl ?_
    refine jr.iconst rfl ?_
    refine jr.isub rfl ?_
    refine jr.istore_n (ls' := [_, _, _, _]) rfl (nlt rfl) rfl ?_
    refine jr.pick (ls := [_, _, _, _]) [0, 1, 3, 2] rfl rfl ?_
    exact r_repair_L25_x q 13 M1 (v3 - 1) 0 x hI_M1 hH_M1 hS_M1  (fun a i f598 f601 f603 f604 f605 => ((w1_2 a i f598 f603 f604 f605).trans rfl)) (fun i g6 g10 g11 g12 => ((w1_3 i g6 g10 g11 g12).trans rfl)) (by omega) (by omega) (by omega) (by omega) (HQ6.t w1_1 (by have hq := hI_M 600 x (Nat.le_of_ble_eq_true rfl); rw [xri_row rfl rfl] at hq; omega) (fun i h0 h1 => rf_r hI_M x i)) (HQ6.e w1_1) (by rw [e3, show v3 - 1 + 1 = v3 from by omega, rf_e (M := M) (fun i => w1_2 601 i (nne rfl) (nne rfl) (nne rfl) (nne rfl))]) (by rw [e3, show v3 - 1 + 1 = v3 from by omega, rf_e (M := M) (fun i => w1_2 601 i (nne rfl) (nne rfl) (nne rfl) (nne rfl))]; omega) (fun j _ => w1_2 601 j (nne rfl) (nne rfl) (nne rfl) (nne rfl)) ⟨by omega, w1_2 600 x (nne rfl) (nne rfl) (nne rfl) (nne rfl), by omega⟩ (by omega) (by omega)
  · refine jr.if_ne rfl rfl (by first | exact rgl rfl | omega) (fun h => absurd h (by decide)) (fun _ => ?_)
    refine jr.bipush rfl (by decide) ?_
    exact jr.ireturn rfl rfl rfl (q _ _ hI_M hH_M hS_M  (by first | exact rgq rfl | omega) (Or.inl ⟨by omega, by omega, rfl⟩) (fun a i f598 f601 f603 f604 f605 => rfl) (fun i g6 g10 g11 g12 => rfl))
end
section
/-! ===== the class: gatherings ===== -/
theorem HS.fr {W : List (Nat × Nat)} {T M : jm} {t : Nat} {f : Int → Int} {N : Int} (h : HS T t f N) (k : kd t = 18) (hC : CI T) (g : FR W T M) (h1 : ksep W [(18, 3), (18, 4), (18, 5), (18, 6), (18, 7), (19, 1000), (20, 1000), (21, 1000), (33, 1), (34, 1000)] = true) : HS M t f N := by
  have k7 : kd (T t 7).toNat = 33 := CI.x hC k 7 rfl (by decide)
  have e7 : M t 7 = T t 7 := g.s h1 k 7 (by decide) 7 (Or.inr rfl)
  have e3 : M t 3 = T t 3 := g.s h1 k 3 (by decide) 3 (Or.inr rfl)
  have e4 : M t 4 = T t 4 := g.s h1 k 4 (by decide) 4 (Or.inr rfl)
  have e5 : M t 5 = T t 5 := g.s h1 k 5 (by decide) 5 (Or.inr rfl)
  have e6 : M t 6 = T t 6 := g.s h1 k 6 (by decide) 6 (Or.inr rfl)
  obtain ⟨hb, hn, h0, hq⟩ := h
  refine ⟨?_, ?_, h0, ?_⟩
  · rw [e7]
    intro i i0 i1
    rw [g.s h1 (kf_33_0 k7).2 1000 (by decide) i (Or.inl rfl)]
    exact hb i i0 i1
  · rw [e7, g.s h1 k7 1 (by decide) 1 (Or.inr rfl)]
    exact hn
  · unfold HQ at hq ⊢
    rw [e3, e4, e5, e6]
    refine ⟨hq.1, fun i i0 i1 => ?_, hq.2.2⟩
    rw [g.s h1 (kf_18_0 k).2 1000 (by decide) i (Or.inl rfl), g.s h1 (kf_18_1 k).2 1000 (by decide) i (Or.inl rfl), g.s h1 (kf_18_2 k).2 1000 (by decide) i (Or.inl rfl)]
    exact hq.2.1 i i0 i1
/-- a piece's name, in the gathering t -/
noncomputable def NMB (T M : jm) (t : Nat) (f : Int → Int) (N C y : Int) : Prop := (M t 1 = kA f N C y ∧ M t 2 = adf f N C (ntf f N C) 0 ∧ M t 3 = adf f N C (ntf f N C) 1 ∧ M t 4 = vA f N C y 3 ∧ M t 5 = vA f N C y (if kA f N C y = 2 then 7 else 0)) ∧ (∀ (b : Nat) (k : Int), b ≠ t → M b k = T b k) ∧ M t 0 = T t 0
noncomputable def nmq (M : jm) (a b : Nat) : Prop := M a 1 = M b 1 ∧ M a 2 = M b 2 ∧ M a 3 = M b 3 ∧ M a 4 = M b 4 ∧ M a 5 = M b 5
noncomputable def gS (M : jm) : Nat → Int → Int
  | 0, _ => -1
  | n + 1, i => if M (xe 10 i) 0 ≠ 0 ∧ (M (xe 10 i) 1 = M 11 1 ∧ M (xe 10 i) 2 = M 11 2 ∧ M (xe 10 i) 3 = M 11 3 ∧ M (xe 10 i) 4 = M 11 4 ∧ M (xe 10 i) 5 = M 11 5) then i else gS M n (i + 1)
noncomputable def gF (M : jm) : Nat → Int → Int
  | 0, _ => -1
  | n + 1, i => if M (xe 10 i) 0 = 0 then i else gF M n (i + 1)
theorem gS_s {M : jm} {i : Int} (h : i < 8) : gS M (8 - i).toNat i = if M (xe 10 i) 0 ≠ 0 ∧ (M (xe 10 i) 1 = M 11 1 ∧ M (xe 10 i) 2 = M 11 2 ∧ M (xe 10 i) 3 = M 11 3 ∧ M (xe 10 i) 4 = M 11 4 ∧ M (xe 10 i) 5 = M 11 5) then i else gS M (8 - (i + 1)).toNat (i + 1) := by
  obtain ⟨n, hn⟩ : ∃ n : Nat, i = 7 - n := ⟨(7 - i).toNat, by omega⟩
  subst hn
  rw [show (8 - (7 - (n : Int))).toNat = n + 1 by omega, show (8 - (7 - (n : Int) + 1)).toNat = n by omega]
  rfl
theorem gF_s {M : jm} {i : Int} (h : i < 8) : gF M (8 - i).toNat i = if M (xe 10 i) 0 = 0 then i else gF M (8 - (i + 1)).toNat (i + 1) := by
  obtain ⟨n, hn⟩ : ∃ n : Nat, i = 7 - n := ⟨(7 - i).toNat, by omega⟩
  subst hn
  rw [show (8 - (7 - (n : Int))).toNat = n + 1 by omega, show (8 - (7 - (n : Int) + 1)).toNat = n by omega]
  rfl
noncomputable def rfq (f : Int → Int) (N C x y : Int) : Prop := N - enf f N C x ≤ 0 ∨ (mrf f N C x = 1 ∧ (N - enf f N C x) % 8 ≠ 0) ∨ (mrf f N C x ≠ 1 ∧ y = 1 ∧ 360 < ofs f N C x + (N - enf f N C x))
noncomputable def W_c_Gathering_nameBy_x : List (Nat × Nat) := [(15, 1), (15, 2), (15, 3), (15, 4), (15, 5)]
theorem c_Gathering_nameBy_x {A : Nat → Option (Nat × (Nat → Int32))} {Q : Option Value → jm → Prop} {f : Int → Int} {N : Int} {T : jm} {M : jm} (hC_M : CI M) (ht_M : FR W_c_Gathering_nameBy_x T M) {t : Nat} (k_t : kd t = 15) {y : Int} (h_y : 0 ≤ y ∧ y ≤ 11) {C : Int} (g_C : M 3 3 = C) (p0 : T = M) (p1 : HS M 3 f N) (q : ∀ (M' : jm), CI M' → FR W_c_Gathering_nameBy_x T M' → (NMB T M' t f N C y) → Q none M') : jc A 4 93 [.ref (t), .ref (3), .int (Int32.ofInt (y))] M Q := by
  refine jc_of (m := xm_93) rfl (Nat.le_of_ble_eq_true rfl) rfl ?_
  have b_C : 0 ≤ C ∧ C ≤ 12 := by rw [← g_C]; exact (CI.r hC_M (show kd 3 = 18 from rfl) (by decide) 3)
  refine jr.aload_n rfl rfl ?_
  refine jr.bipush rfl (jbp _ (nlt rfl)) ?_
  refine jr_v rfl rfl (Or.inl rfl) rfl rfl (nlt rfl) rfl ⟨rfl, Nat.le_of_ble_eq_true rfl, Nat.le_of_ble_eq_true rfl⟩ rfl (jc.deep (c_Headers_firstOf_x hC_M (show kd 3 = 18 from rfl) (by omega) g_C p1 (fun r1 z1 w1_0 => ?_)) (Nat.le_of_ble_eq_true rfl))
  refine jr.istore_n (ls' := [_, _, _, _]) rfl (nlt rfl) rfl ?_
  refine jr.aload_n rfl rfl ?_
  refine jr.aload_n rfl rfl ?_
  refine jr.iload_n rfl rfl ?_
  refine jr_v rfl rfl (Or.inl rfl) rfl rfl (nlt rfl) rfl ⟨rfl, Nat.le_of_ble_eq_true rfl, Nat.le_of_ble_eq_true rfl⟩ rfl (jc.deep (c_Headers_kindAt_x hC_M (show kd 3 = 18 from rfl) (by omega) g_C p1 (fun r2 z2 w2_0 => ?_)) (Nat.le_of_ble_eq_true rfl))
  refine jr.putf (i := 1) (x := r2) rfl rfl (Nat.lt_trans (kx_15 k_t).1 (by decide)) (kx_15 k_t).2 (by decide) rfl rfl rfl rfl rfl ?_
  refine jr.aload_n rfl rfl ?_
  refine jr.aload_n rfl rfl ?_
  refine jr.iload_n rfl rfl ?_
  refine jr.iconst rfl ?_
  refine jr_v rfl rfl (Or.inl rfl) rfl rfl (nlt rfl) rfl ⟨rfl, Nat.le_of_ble_eq_true rfl, Nat.le_of_ble_eq_true rfl⟩ rfl (jc.deep (c_Headers_addressOf_x (CI.u hC_M (i := 1) k_t (show (-2147483648 : Int) ≤ _ ∧ _ ≤ (2147483647 : Int) from by omega) rfl) (show kd 3 = 18 from rfl) (by omega) (by omega) ((ju_i _ _ (zne (by decide))).trans g_C) (HS.fr p1 (show kd 3 = 18 from rfl) hC_M (FR.o (FR.rfl [(15, 1)] M) k_t rfl) rfl) (fun r3 z3 w3_0 => ?_)) (Nat.le_of_ble_eq_true rfl))
  refine jr.putf (i := 2) (x := r3) rfl rfl (Nat.lt_trans (kx_15 k_t).1 (by decide)) (kx_15 k_t).2 (by decide) rfl rfl rfl rfl rfl ?_
  refine jr.aload_n rfl rfl ?_
  refine jr.aload_n rfl rfl ?_
  refine jr.iload_n rfl rfl ?_
  refine jr.iconst rfl ?_
  refine jr_v rfl rfl (Or.inl rfl) rfl rfl (nlt rfl) rfl ⟨rfl, Nat.le_of_ble_eq_true rfl, Nat.le_of_ble_eq_true rfl⟩ rfl (jc.deep (c_Headers_addressOf_x (CI.u (CI.u hC_M (i := 1) k_t (show (-2147483648 : Int) ≤ _ ∧ _ ≤ (2147483647 : Int) from by omega) rfl) (i := 2) k_t (show (-9223372036854775808 : Int) ≤ _ ∧ _ ≤ (9223372036854775807 : Int) from by omega) rfl) (show kd 3 = 18 from rfl) (by omega) (by omega) ((ju_i _ _ (zne (by decide))).trans ((ju_i _ _ (zne (by decide))).trans g_C)) (HS.fr p1 (show kd 3 = 18 from rfl) hC_M (FR.o (FR.o (FR.rfl [(15, 1), (15, 2)] M) k_t rfl) k_t rfl) rfl) (fun r4 z4 w4_0 => ?_)) (Nat.le_of_ble_eq_true rfl))
  refine jr.putf (i := 3) (x := r4) rfl rfl (Nat.lt_trans (kx_15 k_t).1 (by decide)) (kx_15 k_t).2 (by decide) rfl rfl rfl rfl rfl ?_
  refine jr.aload_n rfl rfl ?_
  refine jr.aload_n rfl rfl ?_
  refine jr.iload_n rfl rfl ?_
  refine jr.aload_n rfl rfl ?_
  refine jr.getf (i := 1) (x := r2) (v := .int (Int32.ofInt (r2))) rfl rfl (Nat.lt_trans (kx_15 k_t).1 (by decide)) (kx_15 k_t).2 (by decide) rfl rfl ((ju_i _ _ (zne (by decide))).trans ((ju_i _ _ (zne (by decide))).trans (ju_same _ _ _ _))) rfl ?_
  refine jr.iconst rfl ?_
  refine jr.icmp_ne rfl rfl (by first | (refine rgb (by assumption) ?_; exact rfl) | omega) (rgl rfl) (fun h44 => ?_) (fun h44 => ?_)
  · refine jr.iconst rfl ?_
    refine jr_v rfl rfl (Or.inl rfl) rfl rfl (nlt rfl) rfl ⟨rfl, Nat.le_of_ble_eq_true rfl, Nat.le_of_ble_eq_true rfl⟩ rfl (jc.deep (c_Headers_valueOf_x (CI.u (CI.u (CI.u hC_M (i := 1) k_t (show (-2147483648 : Int) ≤ _ ∧ _ ≤ (2147483647 : Int) from by omega) rfl) (i := 2) k_t (show (-9223372036854775808 : Int) ≤ _ ∧ _ ≤ (9223372036854775807 : Int) from by omega) rfl) (i := 3) k_t (show (-9223372036854775808 : Int) ≤ _ ∧ _ ≤ (9223372036854775807 : Int) from by omega) rfl) (show kd 3 = 18 from rfl) (by omega) (by omega) ((ju_c _ _ (kd_ne (by rw [(show kd 3 = 18 from rfl), k_t]; decide))).trans ((ju_i _ _ (zne (by decide))).trans ((ju_i _ _ (zne (by decide))).trans g_C))) (HS.fr p1 (show kd 3 = 18 from rfl) hC_M (FR.o (FR.o (FR.o (FR.rfl [(15, 1), (15, 2), (15, 3)] M) k_t rfl) k_t rfl) k_t rfl) rfl) (fun r5 z5 w5_0 => ?_)) (Nat.le_of_ble_eq_true rfl))
    refine jr.putf (i := 4) (x := r5) rfl rfl (Nat.lt_trans (kx_15 k_t).1 (by decide)) (kx_15 k_t).2 (by decide) rfl rfl rfl rfl rfl ?_
    refine jr.aload_n rfl rfl ?_
    refine jr.aload_n rfl rfl ?_
    refine jr.iload_n rfl rfl ?_
    refine jr.aload_n rfl rfl ?_
    refine jr.getf (i := 1) (x := r2) (v := .int (Int32.ofInt (r2))) rfl rfl (Nat.lt_trans (kx_15 k_t).1 (by decide)) (kx_15 k_t).2 (by decide) rfl rfl ((ju_i _ _ (zne (by decide))).trans ((ju_i _ _ (zne (by decide))).trans ((ju_i _ _ (zne (by decide))).trans (ju_same _ _ _ _)))) rfl ?_
    refine jr.iconst rfl ?_
    refine jr.icmp_ne rfl rfl (by first | (refine rgb (by assumption) ?_; exact rfl) | omega) (rgl rfl) (fun h66 => ?_) (fun h66 => ?_)
    · refine jr.iconst rfl ?_
      refine jr_v rfl rfl (Or.inl rfl) rfl rfl (nlt rfl) rfl ⟨rfl, Nat.le_of_ble_eq_true rfl, Nat.le_of_ble_eq_true rfl⟩ rfl (jc.deep (c_Headers_valueOf_x (CI.u (CI.u (CI.u (CI.u hC_M (i := 1) k_t (show (-2147483648 : Int) ≤ _ ∧ _ ≤ (2147483647 : Int) from by omega) rfl) (i := 2) k_t (show (-9223372036854775808 : Int) ≤ _ ∧ _ ≤ (9223372036854775807 : Int) from by omega) rfl) (i := 3) k_t (show (-9223372036854775808 : Int) ≤ _ ∧ _ ≤ (9223372036854775807 : Int) from by omega) rfl) (i := 4) k_t (show (-9223372036854775808 : Int) ≤ _ ∧ _ ≤ (9223372036854775807 : Int) from by omega) rfl) (show kd 3 = 18 from rfl) (by omega) (by omega) ((ju_i _ _ (zne (by decide))).trans ((ju_c _ _ (kd_ne (by rw [(show kd 3 = 18 from rfl), k_t]; decide))).trans ((ju_i _ _ (zne (by decide))).trans ((ju_i _ _ (zne (by decide))).trans g_C)))) (HS.fr p1 (show kd 3 = 18 from rfl) hC_M (FR.o (FR.o (FR.o (FR.o (FR.rfl [(15, 1), (15, 2), (15, 3), (15, 4)] M) k_t rfl) k_t rfl) k_t rfl) k_t rfl) rfl) (fun r6 z6 w6_0 => ?_)) (Nat.le_of_ble_eq_true rfl))
      refine jr.putf (i := 5) (x := r6) rfl rfl (Nat.lt_trans (kx_15 k_t).1 (by decide)) (kx_15 k_t).2 (by decide) rfl rfl rfl rfl rfl ?_
      exact jr.vreturn rfl rfl (q _ (CI.u (CI.u (CI.u (CI.u (CI.u hC_M (i := 1) k_t (show (-2147483648 : Int) ≤ _ ∧ _ ≤ (2147483647 : Int) from by omega) rfl) (i := 2) k_t (show (-9223372036854775808 : Int) ≤ _ ∧ _ ≤ (9223372036854775807 : Int) from by omega) rfl) (i := 3) k_t (show (-9223372036854775808 : Int) ≤ _ ∧ _ ≤ (9223372036854775807 : Int) from by omega) rfl) (i := 4) k_t (show (-9223372036854775808 : Int) ≤ _ ∧ _ ≤ (9223372036854775807 : Int) from by omega) rfl) (i := 5) k_t (show (-9223372036854775808 : Int) ≤ _ ∧ _ ≤ (9223372036854775807 : Int) from by omega) rfl) (FR.o (FR.o (FR.o (FR.o (FR.o ht_M k_t rfl) k_t rfl) k_t rfl) k_t rfl) k_t rfl)  ⟨⟨(by rw [show (ju (ju (ju (ju (ju M t 1 r2) t 2 r3) t 3 r4) t 4 r5) t 5 r6) t 1 = r2 from ((ju_i _ _ (zne (by decide))).trans ((ju_i _ _ (zne (by decide))).trans ((ju_i _ _ (zne (by decide))).trans ((ju_i _ _ (zne (by decide))).trans (ju_same _ _ _ _)))))]; exact w2_0), (by rw [show (ju (ju (ju (ju (ju M t 1 r2) t 2 r3) t 3 r4) t 4 r5) t 5 r6) t 2 = r3 from ((ju_i _ _ (zne (by decide))).trans ((ju_i _ _ (zne (by decide))).trans ((ju_i _ _ (zne (by decide))).trans (ju_same _ _ _ _))))]; rw [← w1_0]; exact w3_0), (by rw [show (ju (ju (ju (ju (ju M t 1 r2) t 2 r3) t 3 r4) t 4 r5) t 5 r6) t 3 = r4 from ((ju_i _ _ (zne (by decide))).trans ((ju_i _ _ (zne (by decide))).trans (ju_same _ _ _ _)))]; rw [← w1_0]; exact w4_0), (by rw [show (ju (ju (ju (ju (ju M t 1 r2) t 2 r3) t 3 r4) t 4 r5) t 5 r6) t 4 = r5 from ((ju_i _ _ (zne (by decide))).trans (ju_same _ _ _ _))]; exact w5_0), (by rw [show (ju (ju (ju (ju (ju M t 1 r2) t 2 r3) t 3 r4) t 4 r5) t 5 r6) t 5 = r6 from (ju_same _ _ _ _)]; rw [← w2_0]; first | (rw [if_pos (by omega)]; exact w6_0) | (rw [if_neg (by omega)]; exact w6_0))⟩, fun b k hb => by rw [ju_c _ _ hb, ju_c _ _ hb, ju_c _ _ hb, ju_c _ _ hb, ju_c _ _ hb, p0], by rw [ju_i _ _ (zne (by decide)), ju_i _ _ (zne (by decide)), ju_i _ _ (zne (by decide)), ju_i _ _ (zne (by decide)), ju_i _ _ (zne (by decide)), p0]⟩)
    · exact absurd h44 h66
  · refine jr.iconst rfl ?_
    refine jr.goto rfl rfl ?_
    refine jr_v rfl rfl (Or.inl rfl) rfl rfl (nlt rfl) rfl ⟨rfl, Nat.le_of_ble_eq_true rfl, Nat.le_of_ble_eq_true rfl⟩ rfl (jc.deep (c_Headers_valueOf_x (CI.u (CI.u (CI.u hC_M (i := 1) k_t (show (-2147483648 : Int) ≤ _ ∧ _ ≤ (2147483647 : Int) from by omega) rfl) (i := 2) k_t (show (-9223372036854775808 : Int) ≤ _ ∧ _ ≤ (9223372036854775807 : Int) from by omega) rfl) (i := 3) k_t (show (-9223372036854775808 : Int) ≤ _ ∧ _ ≤ (9223372036854775807 : Int) from by omega) rfl) (show kd 3 = 18 from rfl) (by omega) (by omega) ((ju_c _ _ (kd_ne (by rw [(show kd 3 = 18 from rfl), k_t]; decide))).trans ((ju_i _ _ (zne (by decide))).trans ((ju_i _ _ (zne (by decide))).trans g_C))) (HS.fr p1 (show kd 3 = 18 from rfl) hC_M (FR.o (FR.o (FR.o (FR.rfl [(15, 1), (15, 2), (15, 3)] M) k_t rfl) k_t rfl) k_t rfl) rfl) (fun r8 z8 w8_0 => ?_)) (Nat.le_of_ble_eq_true rfl))
    refine jr.putf (i := 4) (x := r8) rfl rfl (Nat.lt_trans (kx_15 k_t).1 (by decide)) (kx_15 k_t).2 (by decide) rfl rfl rfl rfl rfl ?_
    refine jr.aload_n rfl rfl ?_
    refine jr.aload_n rfl rfl ?_
    refine jr.iload_n rfl rfl ?_
    refine jr.aload_n rfl rfl ?_
    refine jr.getf (i := 1) (x := r2) (v := .int (Int32.ofInt (r2))) rfl rfl (Nat.lt_trans (kx_15 k_t).1 (by decide)) (kx_15 k_t).2 (by decide) rfl rfl ((ju_i _ _ (zne (by decide))).trans ((ju_i _ _ (zne (by decide))).trans ((ju_i _ _ (zne (by decide))).trans (ju_same _ _ _ _)))) rfl ?_
    refine jr.iconst rfl ?_
    refine jr.icmp_ne rfl rfl (by first | (refine rgb (by assumption) ?_; exact rfl) | omega) (rgl rfl) (fun h66 => ?_) (fun h66 => ?_)
    · exact absurd h66 (by omega)
    · refine jr.bipush rfl (jbp _ (nlt rfl)) ?_
      refine jr.goto rfl rfl ?_
      refine jr_v rfl rfl (Or.inl rfl) rfl rfl (nlt rfl) rfl ⟨rfl, Nat.le_of_ble_eq_true rfl, Nat.le_of_ble_eq_true rfl⟩ rfl (jc.deep (c_Headers_valueOf_x (CI.u (CI.u (CI.u (CI.u hC_M (i := 1) k_t (show (-2147483648 : Int) ≤ _ ∧ _ ≤ (2147483647 : Int) from by omega) rfl) (i := 2) k_t (show (-9223372036854775808 : Int) ≤ _ ∧ _ ≤ (9223372036854775807 : Int) from by omega) rfl) (i := 3) k_t (show (-9223372036854775808 : Int) ≤ _ ∧ _ ≤ (9223372036854775807 : Int) from by omega) rfl) (i := 4) k_t (show (-9223372036854775808 : Int) ≤ _ ∧ _ ≤ (9223372036854775807 : Int) from by omega) rfl) (show kd 3 = 18 from rfl) (by omega) (by omega) ((ju_i _ _ (zne (by decide))).trans ((ju_c _ _ (kd_ne (by rw [(show kd 3 = 18 from rfl), k_t]; decide))).trans ((ju_i _ _ (zne (by decide))).trans ((ju_i _ _ (zne (by decide))).trans g_C)))) (HS.fr p1 (show kd 3 = 18 from rfl) hC_M (FR.o (FR.o (FR.o (FR.o (FR.rfl [(15, 1), (15, 2), (15, 3), (15, 4)] M) k_t rfl) k_t rfl) k_t rfl) k_t rfl) rfl) (fun r9 z9 w9_0 => ?_)) (Nat.le_of_ble_eq_true rfl))
      refine jr.putf (i := 5) (x := r9) rfl rfl (Nat.lt_trans (kx_15 k_t).1 (by decide)) (kx_15 k_t).2 (by decide) rfl rfl rfl rfl rfl ?_
      exact jr.vreturn rfl rfl (q _ (CI.u (CI.u (CI.u (CI.u (CI.u hC_M (i := 1) k_t (show (-2147483648 : Int) ≤ _ ∧ _ ≤ (2147483647 : Int) from by omega) rfl) (i := 2) k_t (show (-9223372036854775808 : Int) ≤ _ ∧ _ ≤ (9223372036854775807 : Int) from by omega) rfl) (i := 3) k_t (show (-9223372036854775808 : Int) ≤ _ ∧ _ ≤ (9223372036854775807 : Int) from by omega) rfl) (i := 4) k_t (show (-9223372036854775808 : Int) ≤ _ ∧ _ ≤ (9223372036854775807 : Int) from by omega) rfl) (i := 5) k_t (show (-9223372036854775808 : Int) ≤ _ ∧ _ ≤ (9223372036854775807 : Int) from by omega) rfl) (FR.o (FR.o (FR.o (FR.o (FR.o ht_M k_t rfl) k_t rfl) k_t rfl) k_t rfl) k_t rfl)  ⟨⟨(by rw [show (ju (ju (ju (ju (ju M t 1 r2) t 2 r3) t 3 r4) t 4 r8) t 5 r9) t 1 = r2 from ((ju_i _ _ (zne (by decide))).trans ((ju_i _ _ (zne (by decide))).trans ((ju_i _ _ (zne (by decide))).trans ((ju_i _ _ (zne (by decide))).trans (ju_same _ _ _ _)))))]; exact w2_0), (by rw [show (ju (ju (ju (ju (ju M t 1 r2) t 2 r3) t 3 r4) t 4 r8) t 5 r9) t 2 = r3 from ((ju_i _ _ (zne (by decide))).trans ((ju_i _ _ (zne (by decide))).trans ((ju_i _ _ (zne (by decide))).trans (ju_same _ _ _ _))))]; rw [← w1_0]; exact w3_0), (by rw [show (ju (ju (ju (ju (ju M t 1 r2) t 2 r3) t 3 r4) t 4 r8) t 5 r9) t 3 = r4 from ((ju_i _ _ (zne (by decide))).trans ((ju_i _ _ (zne (by decide))).trans (ju_same _ _ _ _)))]; rw [← w1_0]; exact w4_0), (by rw [show (ju (ju (ju (ju (ju M t 1 r2) t 2 r3) t 3 r4) t 4 r8) t 5 r9) t 4 = r8 from ((ju_i _ _ (zne (by decide))).trans (ju_same _ _ _ _))]; exact w8_0), (by rw [show (ju (ju (ju (ju (ju M t 1 r2) t 2 r3) t 3 r4) t 4 r8) t 5 r9) t 5 = r9 from (ju_same _ _ _ _)]; rw [← w2_0]; first | (rw [if_pos (by omega)]; exact w9_0) | (rw [if_neg (by omega)]; exact w9_0))⟩, fun b k hb => by rw [ju_c _ _ hb, ju_c _ _ hb, ju_c _ _ hb, ju_c _ _ hb, ju_c _ _ hb, p0], by rw [ju_i _ _ (zne (by decide)), ju_i _ _ (zne (by decide)), ju_i _ _ (zne (by decide)), ju_i _ _ (zne (by decide)), ju_i _ _ (zne (by decide)), p0]⟩)
theorem c_Gathering_isNamedLike_x {A : Nat → Option (Nat × (Nat → Int32))} {Q : Option Value → jm → Prop} {M : jm} (hC_M : CI M) {t : Nat} (k_t : kd t = 15) {x : Nat} (k_x : kd x = 15) (q : ∀ (r : Int), 0 ≤ r ∧ r ≤ 1 → ((r = 1 ∧ (M t 1 = M x 1 ∧ M t 2 = M x 2 ∧ M t 3 = M x 3 ∧ M t 4 = M x 4 ∧ M t 5 = M x 5)) ∨ (r = 0 ∧ ¬ (M t 1 = M x 1 ∧ M t 2 = M x 2 ∧ M t 3 = M x 3 ∧ M t 4 = M x 4 ∧ M t 5 = M x 5))) → Q (some (.int (Int32.ofInt r))) M) : jc A 1 94 [.ref (t), .ref (x)] M Q := by
  refine jc_of (m := xm_94) rfl (Nat.le_of_ble_eq_true rfl) rfl ?_
  refine jr.aload_n rfl rfl ?_
  obtain ⟨v1, e1⟩ : ∃ z_, M t 1 = z_ := ⟨_, rfl⟩
  have b1 : (-2147483648) ≤ v1 ∧ v1 ≤ 2147483647 := by rw [← e1]; exact (CI.r hC_M k_t (by decide) 1)
  refine jr.getf (i := 1) (x := v1) (v := .int (Int32.ofInt (v1))) rfl rfl (Nat.lt_trans (kx_15 k_t).1 (by decide)) (kx_15 k_t).2 (by decide) rfl rfl e1 rfl ?_
  refine jr.aload_n rfl rfl ?_
  obtain ⟨v2, e2⟩ : ∃ z_, M x 1 = z_ := ⟨_, rfl⟩
  have b2 : (-2147483648) ≤ v2 ∧ v2 ≤ 2147483647 := by rw [← e2]; exact (CI.r hC_M k_x (by decide) 1)
  refine jr.getf (i := 1) (x := v2) (v := .int (Int32.ofInt (v2))) rfl rfl (Nat.lt_trans (kx_15 k_x).1 (by decide)) (kx_15 k_x).2 (by decide) rfl rfl e2 rfl ?_
  refine jr.icmp_ne rfl rfl (by first | (refine rgb (by assumption) ?_; exact rfl) | omega) (by first | (refine rgb (by assumption) ?_; exact rfl) | omega) (fun h8 => ?_) (fun h8 => ?_)
  · refine jr.iconst rfl ?_
    exact jr.ireturn rfl rfl rfl (q _ (by first | exact rgq rfl | omega) (by omega))
  · refine jr.aload_n rfl rfl ?_
    obtain ⟨v3, e3⟩ : ∃ z_, M t 2 = z_ := ⟨_, rfl⟩
    have b3 : (-9223372036854775808) ≤ v3 ∧ v3 ≤ 9223372036854775807 := by rw [← e3]; exact (CI.r hC_M k_t (by decide) 2)
    refine jr.getf (i := 2) (x := v3) (v := .long (Int64.ofInt (v3))) rfl rfl (Nat.lt_trans (kx_15 k_t).1 (by decide)) (kx_15 k_t).2 (by decide) rfl rfl e3 rfl ?_
    refine jr.aload_n rfl rfl ?_
    obtain ⟨v4, e4⟩ : ∃ z_, M x 2 = z_ := ⟨_, rfl⟩
    have b4 : (-9223372036854775808) ≤ v4 ∧ v4 ≤ 9223372036854775807 := by rw [← e4]; exact (CI.r hC_M k_x (by decide) 2)
    refine jr.getf (i := 2) (x := v4) (v := .long (Int64.ofInt (v4))) rfl rfl (Nat.lt_trans (kx_15 k_x).1 (by decide)) (kx_15 k_x).2 (by decide) rfl rfl e4 rfl ?_
    refine jr.lcmp_ne rfl rfl rfl (by omega) (by omega) (fun h19 => ?_) (fun h19 => ?_)
    · refine jr.iconst rfl ?_
      exact jr.ireturn rfl rfl rfl (q _ (by first | exact rgq rfl | omega) (by omega))
    · refine jr.aload_n rfl rfl ?_
      obtain ⟨v5, e5⟩ : ∃ z_, M t 3 = z_ := ⟨_, rfl⟩
      have b5 : (-9223372036854775808) ≤ v5 ∧ v5 ≤ 9223372036854775807 := by rw [← e5]; exact (CI.r hC_M k_t (by decide) 3)
      refine jr.getf (i := 3) (x := v5) (v := .long (Int64.ofInt (v5))) rfl rfl (Nat.lt_trans (kx_15 k_t).1 (by decide)) (kx_15 k_t).2 (by decide) rfl rfl e5 rfl ?_
      refine jr.aload_n rfl rfl ?_
      obtain ⟨v6, e6⟩ : ∃ z_, M x 3 = z_ := ⟨_, rfl⟩
      have b6 : (-9223372036854775808) ≤ v6 ∧ v6 ≤ 9223372036854775807 := by rw [← e6]; exact (CI.r hC_M k_x (by decide) 3)
      refine jr.getf (i := 3) (x := v6) (v := .long (Int64.ofInt (v6))) rfl rfl (Nat.lt_trans (kx_15 k_x).1 (by decide)) (kx_15 k_x).2 (by decide) rfl rfl e6 rfl ?_
      refine jr.lcmp_ne rfl rfl rfl (by omega) (by omega) (fun h31 => ?_) (fun h31 => ?_)
      · refine jr.iconst rfl ?_
        exact jr.ireturn rfl rfl rfl (q _ (by first | exact rgq rfl | omega) (by omega))
      · refine jr.aload_n rfl rfl ?_
        obtain ⟨v7, e7⟩ : ∃ z_, M t 4 = z_ := ⟨_, rfl⟩
        have b7 : (-9223372036854775808) ≤ v7 ∧ v7 ≤ 9223372036854775807 := by rw [← e7]; exact (CI.r hC_M k_t (by decide) 4)
        refine jr.getf (i := 4) (x := v7) (v := .long (Int64.ofInt (v7))) rfl rfl (Nat.lt_trans (kx_15 k_t).1 (by decide)) (kx_15 k_t).2 (by decide) rfl rfl e7 rfl ?_
        refine jr.aload_n rfl rfl ?_
        obtain ⟨v8, e8⟩ : ∃ z_, M x 4 = z_ := ⟨_, rfl⟩
        have b8 : (-9223372036854775808) ≤ v8 ∧ v8 ≤ 9223372036854775807 := by rw [← e8]; exact (CI.r hC_M k_x (by decide) 4)
        refine jr.getf (i := 4) (x := v8) (v := .long (Int64.ofInt (v8))) rfl rfl (Nat.lt_trans (kx_15 k_x).1 (by decide)) (kx_15 k_x).2 (by decide) rfl rfl e8 rfl ?_
        refine jr.lcmp_ne rfl rfl rfl (by omega) (by omega) (fun h43 => ?_) (fun h43 => ?_)
        · refine jr.iconst rfl ?_
          exact jr.ireturn rfl rfl rfl (q _ (by first | exact rgq rfl | omega) (by omega))
        · refine jr.aload_n rfl rfl ?_
          obtain ⟨v9, e9⟩ : ∃ z_, M t 5 = z_ := ⟨_, rfl⟩
          have b9 : (-9223372036854775808) ≤ v9 ∧ v9 ≤ 9223372036854775807 := by rw [← e9]; exact (CI.r hC_M k_t (by decide) 5)
          refine jr.getf (i := 5) (x := v9) (v := .long (Int64.ofInt (v9))) rfl rfl (Nat.lt_trans (kx_15 k_t).1 (by decide)) (kx_15 k_t).2 (by decide) rfl rfl e9 rfl ?_
          refine jr.aload_n rfl rfl ?_
          obtain ⟨v10, e10⟩ : ∃ z_, M x 5 = z_ := ⟨_, rfl⟩
          have b10 : (-9223372036854775808) ≤ v10 ∧ v10 ≤ 9223372036854775807 := by rw [← e10]; exact (CI.r hC_M k_x (by decide) 5)
          refine jr.getf (i := 5) (x := v10) (v := .long (Int64.ofInt (v10))) rfl rfl (Nat.lt_trans (kx_15 k_x).1 (by decide)) (kx_15 k_x).2 (by decide) rfl rfl e10 rfl ?_
          refine jr.lcmp_ne rfl rfl rfl (by omega) (by omega) (fun h55 => ?_) (fun h55 => ?_)
          · refine jr.iconst rfl ?_
            exact jr.ireturn rfl rfl rfl (q _ (by first | exact rgq rfl | omega) (by omega))
          · refine jr.iconst rfl ?_
            refine jr.goto rfl rfl ?_
            exact jr.ireturn rfl rfl rfl (q _ (by first | exact rgq rfl | omega) (by omega))
theorem c_PacketWall_soughtGathering_x_L2 {A : Nat → Option (Nat × (Nat → Int32))} {Q : Option Value → jm → Prop} {M : jm} (hC_M : CI M) (q : ∀ (r : Int), (-1) ≤ r ∧ r ≤ 7 → (r = gS M 8 0) → Q (some (.int (Int32.ofInt r))) M) : ∀ (nM : Nat) (i : Int), 0 ≤ i ∧ i ≤ 8 → (gS M 8 0 = gS M (8 - i).toNat i) → 8 - i ≤ nM → jr A 1 xm_45 2 [(1, .int (Int32.ofInt (i))), (0, .ref (0))] [] M Q := by
  intro nM
  induction nM using Nat.strongRecOn with
  | ind nM ih =>
    intro i h_i hy0 hm
    refine jr.iload_n rfl rfl ?_
    refine jr.bipush rfl (jbp _ (nlt rfl)) ?_
    refine jr.icmp_ge rfl rfl (by first | (refine rgb (by assumption) ?_; exact rfl) | omega) (rgl rfl) (fun h5 => ?_) (fun h5 => ?_)
    · refine jr.iconst rfl ?_
      exact jr.ireturn rfl rfl rfl (q _ (by first | exact rgq rfl | omega) (by rw [hy0, show (8 - i).toNat = 0 from by omega]; rfl))
    · refine jr.aload_n rfl rfl ?_
      refine jr.getf (i := 5) (v := .ref 10) rfl rfl (nlt rfl) rfl (nlt rfl) rfl rfl rfl rfl ?_
      refine jr.iload_n rfl rfl ?_
      have k1 := kxe_40 (a := 10) rfl (i := i) (by omega) (by omega)
      refine jr.aald (c := (xe 10 i)) rfl (by decide) rfl (by decide) (by decide) rfl (by decide) (by omega) (by omega) k1.1 ?_
      obtain ⟨v2, e2⟩ : ∃ z_, M ((xe 10 i)) 0 = z_ := ⟨_, rfl⟩
      have b2 : 0 ≤ v2 ∧ v2 ≤ 1 := by rw [← e2]; exact (CI.r hC_M k1.2 (by decide) 0)
      refine jr.getf (i := 0) (x := v2) (v := .int (Int32.ofInt (v2))) rfl rfl (Nat.lt_trans (kx_15 k1.2).1 (by decide)) (kx_15 k1.2).2 (by decide) rfl rfl e2 rfl ?_
      refine jr.if_eq rfl rfl (by first | (refine rgb (by assumption) ?_; exact rfl) | omega) (fun h17 => ?_) (fun h17 => ?_)
      · refine jr.iinc (ls' := [_, _]) rfl rfl (nlt rfl) rfl ?_
        refine jr.goto rfl rfl ?_
        refine jr.pick (ls := [_, _]) [0, 1] rfl rfl ?_
        exact ih (nM - 1) (by omega) (i + 1) (by omega) (by rw [hy0, gS_s (by omega), if_neg (by omega)]) (by omega)
      · have sx17 : (1 : Int) ≤ v2 := by omega
        clear h17
        refine jr.aload_n rfl rfl ?_
        refine jr.getf (i := 5) (v := .ref 10) rfl rfl (nlt rfl) rfl (nlt rfl) rfl rfl rfl rfl ?_
        refine jr.iload_n rfl rfl ?_
        have k3 := kxe_40 (a := 10) rfl (i := i) (by omega) (by omega)
        refine jr.aald (c := (xe 10 i)) rfl (by decide) rfl (by decide) (by decide) rfl (by decide) (by omega) (by omega) k3.1 ?_
        refine jr.aload_n rfl rfl ?_
        refine jr.getf (i := 6) (v := .ref 11) rfl rfl (nlt rfl) rfl (nlt rfl) rfl rfl rfl rfl ?_
        refine jr_v rfl rfl (Or.inl rfl) rfl rfl (Nat.lt_trans (kx_15 k3.2).1 (by decide)) (kx_15 k3.2).2 ⟨rfl, Nat.le_of_ble_eq_true rfl, Nat.le_of_ble_eq_true rfl⟩ rfl (jc.deep (c_Gathering_isNamedLike_x hC_M k3.2 (show kd 11 = 15 from rfl) (fun r4 z4 w4_0 => ?_)) (Nat.le_of_ble_eq_true rfl))
        refine jr.if_eq rfl rfl (by first | (refine rgb (by assumption) ?_; exact rfl) | omega) (fun h33 => ?_) (fun h33 => ?_)
        · refine jr.iinc (ls' := [_, _]) rfl rfl (nlt rfl) rfl ?_
          refine jr.goto rfl rfl ?_
          refine jr.pick (ls := [_, _]) [0, 1] rfl rfl ?_
          exact ih (nM - 1) (by omega) (i + 1) (by omega) (by rw [hy0, gS_s (by omega), if_neg (by omega)]) (by omega)
        · have sx33 : (1 : Int) ≤ r4 := by omega
          clear h33
          refine jr.iload_n rfl rfl ?_
          exact jr.ireturn rfl rfl rfl (q _ (by omega) (by rw [hy0, gS_s (by omega), if_pos (by omega)]))
theorem c_PacketWall_soughtGathering_x {A : Nat → Option (Nat × (Nat → Int32))} {Q : Option Value → jm → Prop} {M : jm} (hC_M : CI M) (q : ∀ (r : Int), (-1) ≤ r ∧ r ≤ 7 → (r = gS M 8 0) → Q (some (.int (Int32.ofInt r))) M) : jc A 2 45 [.ref (0)] M Q := by
  refine jc_of (m := xm_45) rfl (Nat.le_of_ble_eq_true rfl) rfl ?_
  refine jr.iconst rfl ?_
  refine jr.istore_n (ls' := [_, _]) rfl (nlt rfl) rfl ?_
  refine jr.pick (ls := [_, _]) [0, 1] rfl rfl ?_
  exact c_PacketWall_soughtGathering_x_L2 hC_M  q 8 0 (by omega) rfl (by omega)
theorem c_PacketWall_freeGathering_x_L2 {A : Nat → Option (Nat × (Nat → Int32))} {Q : Option Value → jm → Prop} {M : jm} (hC_M : CI M) (q : ∀ (r : Int), (-1) ≤ r ∧ r ≤ 7 → (r = gF M 8 0) → Q (some (.int (Int32.ofInt r))) M) : ∀ (nM : Nat) (i : Int), 0 ≤ i ∧ i ≤ 8 → (gF M 8 0 = gF M (8 - i).toNat i) → 8 - i ≤ nM → jr A 0 xm_46 2 [(1, .int (Int32.ofInt (i))), (0, .ref (0))] [] M Q := by
  intro nM
  induction nM using Nat.strongRecOn with
  | ind nM ih =>
    intro i h_i hy0 hm
    refine jr.iload_n rfl rfl ?_
    refine jr.bipush rfl (jbp _ (nlt rfl)) ?_
    refine jr.icmp_ge rfl rfl (by first | (refine rgb (by assumption) ?_; exact rfl) | omega) (rgl rfl) (fun h5 => ?_) (fun h5 => ?_)
    · refine jr.iconst rfl ?_
      exact jr.ireturn rfl rfl rfl (q _ (by first | exact rgq rfl | omega) (by rw [hy0, show (8 - i).toNat = 0 from by omega]; rfl))
    · refine jr.aload_n rfl rfl ?_
      refine jr.getf (i := 5) (v := .ref 10) rfl rfl (nlt rfl) rfl (nlt rfl) rfl rfl rfl rfl ?_
      refine jr.iload_n rfl rfl ?_
      have k1 := kxe_40 (a := 10) rfl (i := i) (by omega) (by omega)
      refine jr.aald (c := (xe 10 i)) rfl (by decide) rfl (by decide) (by decide) rfl (by decide) (by omega) (by omega) k1.1 ?_
      obtain ⟨v2, e2⟩ : ∃ z_, M ((xe 10 i)) 0 = z_ := ⟨_, rfl⟩
      have b2 : 0 ≤ v2 ∧ v2 ≤ 1 := by rw [← e2]; exact (CI.r hC_M k1.2 (by decide) 0)
      refine jr.getf (i := 0) (x := v2) (v := .int (Int32.ofInt (v2))) rfl rfl (Nat.lt_trans (kx_15 k1.2).1 (by decide)) (kx_15 k1.2).2 (by decide) rfl rfl e2 rfl ?_
      refine jr.if_ne rfl rfl (by first | (refine rgb (by assumption) ?_; exact rfl) | omega) (fun h17 => ?_) (fun h17 => ?_)
      · have sx17 : (1 : Int) ≤ v2 := by omega
        clear h17
        refine jr.iinc (ls' := [_, _]) rfl rfl (nlt rfl) rfl ?_
        refine jr.goto rfl rfl ?_
        refine jr.pick (ls := [_, _]) [0, 1] rfl rfl ?_
        exact ih (nM - 1) (by omega) (i + 1) (by omega) (by rw [hy0, gF_s (by omega), if_neg (by omega)]) (by omega)
      · refine jr.iload_n rfl rfl ?_
        exact jr.ireturn rfl rfl rfl (q _ (by omega) (by rw [hy0, gF_s (by omega), if_pos (by omega)]))
theorem c_PacketWall_freeGathering_x {A : Nat → Option (Nat × (Nat → Int32))} {Q : Option Value → jm → Prop} {M : jm} (hC_M : CI M) (q : ∀ (r : Int), (-1) ≤ r ∧ r ≤ 7 → (r = gF M 8 0) → Q (some (.int (Int32.ofInt r))) M) : jc A 1 46 [.ref (0)] M Q := by
  refine jc_of (m := xm_46) rfl (Nat.le_of_ble_eq_true rfl) rfl ?_
  refine jr.iconst rfl ?_
  refine jr.istore_n (ls' := [_, _]) rfl (nlt rfl) rfl ?_
  refine jr.pick (ls := [_, _]) [0, 1] rfl rfl ?_
  exact c_PacketWall_freeGathering_x_L2 hC_M  q 8 0 (by omega) rfl (by omega)
theorem c_PacketWall_isRefusedPiece_x {A : Nat → Option (Nat × (Nat → Int32))} {Q : Option Value → jm → Prop} {f : Int → Int} {N : Int} {M : jm} (hC_M : CI M) {x : Int} (h_x : 0 ≤ x ∧ x ≤ 11) {y : Int} (h_y : 0 ≤ y ∧ y ≤ 1) {C : Int} (g_C : M 3 3 = C) (p0 : HS M 3 f N) (p1 : x < C) (p2 : hX f N x = 2 ∨ hX f N x = 6) (q : ∀ (r : Int), 0 ≤ r ∧ r ≤ 1 → ((r = 1 ∧ rfq f N C x y) ∨ (r = 0 ∧ ¬ rfq f N C x y)) → Q (some (.int (Int32.ofInt r))) M) : jc A 4 47 [.ref (0), .int (Int32.ofInt (x)), .int (Int32.ofInt (y))] M Q := by
  refine jc_of (m := xm_47) rfl (Nat.le_of_ble_eq_true rfl) rfl ?_
  have b_C : 0 ≤ C ∧ C ≤ 12 := by rw [← g_C]; exact (CI.r hC_M (show kd 3 = 18 from rfl) (by decide) 3)
  refine jr.aload_n rfl rfl ?_
  refine jr.getf (i := 3) (v := .ref 3) rfl rfl (nlt rfl) rfl (nlt rfl) rfl rfl rfl rfl ?_
  refine jr.iload_n rfl rfl ?_
  obtain ⟨v2, e2⟩ : ∃ z_, M 3 7 = z_ := ⟨_, rfl⟩
  have b2 : 0 ≤ v2 ∧ v2 ≤ 597 := by rw [← e2]; exact (CI.r hC_M (show kd 3 = 18 from rfl) (by decide) 7)
  have k1_S : kd (v2).toNat = 33 := (congrArg (fun z : Int => kd z.toNat) e2).symm.trans (CI.x hC_M (show kd 3 = 18 from rfl) 7 rfl (by decide))
  refine jr_v rfl rfl (Or.inl rfl) rfl rfl (nlt rfl) rfl ⟨rfl, Nat.le_of_ble_eq_true rfl, Nat.le_of_ble_eq_true rfl⟩ rfl (jc.deep (c_Headers_dataBehind_x hC_M (show kd 3 = 18 from rfl) (by omega) g_C e2 p0 (fun r1 z1 w1_0 => ?_)) (Nat.le_of_ble_eq_true rfl))
  refine jr.istore_n (ls' := [_, _, _, _]) rfl (nlt rfl) rfl ?_
  refine jr.iload_n rfl rfl ?_
  refine jr.if_gt rfl rfl (by first | (refine rgb (by assumption) ?_; exact rfl) | omega) (fun h10 => ?_) (fun h10 => ?_)
  · refine jr.aload_n rfl rfl ?_
    refine jr.getf (i := 3) (v := .ref 3) rfl rfl (nlt rfl) rfl (nlt rfl) rfl rfl rfl rfl ?_
    refine jr.iload_n rfl rfl ?_
    refine jr_v rfl rfl (Or.inl rfl) rfl rfl (nlt rfl) rfl ⟨rfl, Nat.le_of_ble_eq_true rfl, Nat.le_of_ble_eq_true rfl⟩ rfl (jc.deep (c_Headers_isMoreToCome_x hC_M (show kd 3 = 18 from rfl) (by omega) g_C p0 (fun r3 z3 w3_0 => ?_)) (Nat.le_of_ble_eq_true rfl))
    refine jr.if_eq rfl rfl (by first | (refine rgb (by assumption) ?_; exact rfl) | omega) (fun h23 => ?_) (fun h23 => ?_)
    · refine jr.iload_n rfl rfl ?_
      refine jr.if_eq rfl rfl (by first | (refine rgb (by assumption) ?_; exact rfl) | omega) (fun h40 => ?_) (fun h40 => ?_)
      · refine jr.iconst rfl ?_
        exact jr.ireturn rfl rfl rfl (q _ (by first | exact rgq rfl | omega) (by have hd : N - enf f N C x = r1 := w1_0.symm; have hm : mrf f N C x = r3 := w3_0.symm; unfold rfq; rw [hd, hm]; omega))
      · have sx40 : (1 : Int) ≤ y := by omega
        clear h40
        refine jr.aload_n rfl rfl ?_
        refine jr.getf (i := 3) (v := .ref 3) rfl rfl (nlt rfl) rfl (nlt rfl) rfl rfl rfl rfl ?_
        refine jr.iload_n rfl rfl ?_
        refine jr_v rfl rfl (Or.inl rfl) rfl rfl (nlt rfl) rfl ⟨rfl, Nat.le_of_ble_eq_true rfl, Nat.le_of_ble_eq_true rfl⟩ rfl (jc.deep (c_Headers_offsetOf_x hC_M (show kd 3 = 18 from rfl) (by omega) g_C p0 (by omega) (by omega) (fun r4 z4 w4_0 => ?_)) (Nat.le_of_ble_eq_true rfl))
        refine jr.iload_n rfl rfl ?_
        refine jr.iadd rfl ?_
        refine jr.sipush rfl (by decide) ?_
        refine jr.icmp_le rfl rfl (by first | (refine rgb (by assumption) ?_; exact rfl) | omega) (rgl rfl) (fun h56 => ?_) (fun h56 => ?_)
        · refine jr.iconst rfl ?_
          exact jr.ireturn rfl rfl rfl (q _ (by first | exact rgq rfl | omega) (by have hd : N - enf f N C x = r1 := w1_0.symm; have hm : mrf f N C x = r3 := w3_0.symm; (try have ho : ofs f N C x = r4 := w4_0.symm); unfold rfq; rw [hd, hm]; omega))
        · refine jr.iconst rfl ?_
          refine jr.goto rfl rfl ?_
          exact jr.ireturn rfl rfl rfl (q _ (by first | exact rgq rfl | omega) (by have hd : N - enf f N C x = r1 := w1_0.symm; have hm : mrf f N C x = r3 := w3_0.symm; (try have ho : ofs f N C x = r4 := w4_0.symm); unfold rfq; rw [hd, hm]; omega))
    · have sx23 : (1 : Int) ≤ r3 := by omega
      clear h23
      refine jr.iload_n rfl rfl ?_
      refine jr.bipush rfl (jbp _ (nlt rfl)) ?_
      refine jr.irem rfl (by decide) ?_
      have b5 : j_rem r1 8 = r1 % 8 := j_rem_ex (by omega) (by omega)
      generalize j_rem r1 8 = v5 at b5 ⊢
      refine jr.if_eq rfl rfl (by first | (refine rgb (by assumption) ?_; exact rfl) | omega) (fun h30 => ?_) (fun h30 => ?_)
      · refine jr.iconst rfl ?_
        exact jr.ireturn rfl rfl rfl (q _ (by first | exact rgq rfl | omega) (by have hd : N - enf f N C x = r1 := w1_0.symm; have hm : mrf f N C x = r3 := w3_0.symm; unfold rfq; rw [hd, hm]; omega))
      · have sx30 : (1 : Int) ≤ v5 := by omega
        clear h30
        refine jr.iconst rfl ?_
        refine jr.goto rfl rfl ?_
        exact jr.ireturn rfl rfl rfl (q _ (by first | exact rgq rfl | omega) (by have hd : N - enf f N C x = r1 := w1_0.symm; have hm : mrf f N C x = r3 := w3_0.symm; unfold rfq; rw [hd, hm]; omega))
  · refine jr.iconst rfl ?_
    exact jr.ireturn rfl rfl rfl (q _ (by first | exact rgq rfl | omega) (by have hd : N - enf f N C x = r1 := w1_0.symm; unfold rfq; rw [hd]; omega))
end
section
/-! ===== the class: a gathering begins, takes in, is ready ===== -/
noncomputable def BGA (T M : jm) (t : Nat) (x : Nat) (y : Int) : Prop := (M t 0 = 1 ∧ M t 1 = T x 1 ∧ M t 2 = T x 2 ∧ M t 3 = T x 3 ∧ M t 4 = T x 4 ∧ M t 5 = T x 5 ∧ M t 6 = y ∧ M t 7 = -1 ∧ M t 8 = 0 ∧ M t 11 = -1) ∧ (∀ k : Int, 0 ≤ k → k < 360 → M (t + 1) k = -1) ∧ ∀ (b : Nat) (k : Int), b ≠ t → b ≠ t + 1 → M b k = T b k
noncomputable def BGL (T M : jm) (t : Nat) (x : Nat) (y i : Int) : Prop := (M t 0 = 1 ∧ M t 1 = T x 1 ∧ M t 2 = T x 2 ∧ M t 3 = T x 3 ∧ M t 4 = T x 4 ∧ M t 5 = T x 5 ∧ M t 6 = y ∧ M t 7 = -1 ∧ M t 8 = 0 ∧ M t 11 = -1) ∧ (∀ k : Int, 0 ≤ k → k < i → M (t + 1) k = -1) ∧ ∀ (b : Nat) (k : Int), b ≠ t → b ≠ t + 1 → M b k = T b k
theorem BGL.s {T M : jm} {t x : Nat} {y i : Int} (h : BGL T M t x y i) (h0 : 0 ≤ i) : BGL T (ju M (t + 1) i (-1)) t x y (i + 1) := by
  have n : t ≠ t + 1 := by omega
  obtain ⟨h1, h2, h3⟩ := h
  refine ⟨by simp only [ju_c M _ n]; exact h1, fun k k0 k1 => ?_, fun b k b0 b1 => by rw [ju_c M _ b1]; exact h3 b k b0 b1⟩
  by_cases e : k = i
  · subst e; exact ju_same _ _ _ _
  · rw [ju_i M _ e]; exact h2 k k0 (by omega)
noncomputable def rbf (w c : Int) : Int := if w ≠ -1 then w else if c ≤ 64 then 64 else if c ≤ 128 then 128 else if c ≤ 256 then 256 else 360
noncomputable def lpf (w : Int) : Int := if w = -1 then 360 else if w ≤ 360 then w else 360
noncomputable def W_c_Gathering_beginAs_x : List (Nat × Nat) := [(15, 0), (15, 1), (15, 2), (15, 3), (15, 4), (15, 5), (15, 6), (15, 7), (15, 8), (15, 11), (17, 1000)]
theorem c_Gathering_beginAs_x_L67 {A : Nat → Option (Nat × (Nat → Int32))} {Q : Option Value → jm → Prop} {T : jm} {t : Nat} (k_t : kd t = 15) {y : Int} (q : ∀ (M' : jm), CI M' → FR W_c_Gathering_beginAs_x T M' → (BGA T M' t 11 y) → Q none M') : ∀ (nM : Nat) (M : jm) (i : Int), CI M → FR W_c_Gathering_beginAs_x T M → (-2147483648) ≤ y ∧ y ≤ 2147483647 → 0 ≤ i ∧ i ≤ 360 → (BGL T M t 11 y i) → 360 - i ≤ nM → jr A 0 xm_95 67 [(2, .int (Int32.ofInt (y))), (3, .int (Int32.ofInt (i))), (0, .ref (t)), (1, .ref (11))] [] M Q := by
  intro nM
  induction nM using Nat.strongRecOn with
  | ind nM ih =>
    intro M i hC_M ht_M h_y h_i hy0 hm
    refine jr.iload_n rfl rfl ?_
    refine jr.sipush rfl (by decide) ?_
    refine jr.icmp_ge rfl rfl (by first | (refine rgb (by assumption) ?_; exact rfl) | omega) (rgl rfl) (fun h71 => ?_) (fun h71 => ?_)
    · exact jr.vreturn rfl rfl (q _ hC_M ht_M  (by have h9 := hy0; rw [show i = 360 from by omega] at h9; exact h9))
    · refine jr.aload_n rfl rfl ?_
      have k1 := kf_15_9 k_t
      refine jr.getf (i := 9) (v := .ref (t + 1)) rfl rfl (Nat.lt_trans (kx_15 k_t).1 (by decide)) (kx_15 k_t).2 (by decide) rfl rfl rfl (jval_ref rfl k1.1) ?_
      refine jr.iload_n rfl rfl ?_
      refine jr.iconst rfl ?_
      refine jr.iast (i := i) (x := (-1)) rfl (Nat.lt_trans (kx_17 k1.2).1 (by decide)) (kx_17 k1.2).2 (by decide) (by omega) (by omega) ?_
      refine jr.iinc (ls' := [_, _, _, _]) rfl rfl (nlt rfl) rfl ?_
      refine jr.goto rfl rfl ?_
      refine jr.pick (ls := [_, _, _, _]) [1, 0, 2, 3] rfl rfl ?_
      exact ih (nM - 1) (by omega) ((ju M ((t + 1)) i (-1))) (i + 1) (CI.u hC_M (i := i) k1.2 (show (-1 : Int) ≤ _ ∧ _ ≤ (255 : Int) from by omega) rfl) (FR.o ht_M k1.2 rfl) (by omega) (by omega) (BGL.s hy0 (by omega)) (by omega)
theorem c_Gathering_beginAs_x {A : Nat → Option (Nat × (Nat → Int32))} {Q : Option Value → jm → Prop} {T : jm} {M : jm} (hC_M : CI M) (ht_M : FR W_c_Gathering_beginAs_x T M) {t : Nat} (k_t : kd t = 15) {y : Int} (h_y : (-2147483648) ≤ y ∧ y ≤ 2147483647) (p0 : T = M) (p1 : t ≠ 11) (q : ∀ (M' : jm), CI M' → FR W_c_Gathering_beginAs_x T M' → (BGA T M' t 11 y) → Q none M') : jc A 1 95 [.ref (t), .ref (11), .int (Int32.ofInt (y))] M Q := by
  refine jc_of (m := xm_95) rfl (Nat.le_of_ble_eq_true rfl) rfl ?_
  refine jr.aload_n rfl rfl ?_
  refine jr.iconst rfl ?_
  refine jr.putf (i := 0) (x := 1) rfl rfl (Nat.lt_trans (kx_15 k_t).1 (by decide)) (kx_15 k_t).2 (by decide) rfl rfl rfl rfl rfl ?_
  refine jr.aload_n rfl rfl ?_
  refine jr.aload_n rfl rfl ?_
  obtain ⟨v1, e1⟩ : ∃ z_, M 11 1 = z_ := ⟨_, rfl⟩
  have b1 : (-2147483648) ≤ v1 ∧ v1 ≤ 2147483647 := by rw [← e1]; exact (CI.r hC_M (show kd 11 = 15 from rfl) (by decide) 1)
  refine jr.getf (i := 1) (x := v1) (v := .int (Int32.ofInt (v1))) rfl rfl (nlt rfl) rfl (nlt rfl) rfl rfl ((ju_i _ _ (zne (by decide))).trans e1) rfl ?_
  refine jr.putf (i := 1) (x := v1) rfl rfl (Nat.lt_trans (kx_15 k_t).1 (by decide)) (kx_15 k_t).2 (by decide) rfl rfl rfl rfl rfl ?_
  refine jr.aload_n rfl rfl ?_
  refine jr.aload_n rfl rfl ?_
  obtain ⟨v2, e2⟩ : ∃ z_, M 11 2 = z_ := ⟨_, rfl⟩
  have b2 : (-9223372036854775808) ≤ v2 ∧ v2 ≤ 9223372036854775807 := by rw [← e2]; exact (CI.r hC_M (show kd 11 = 15 from rfl) (by decide) 2)
  refine jr.getf (i := 2) (x := v2) (v := .long (Int64.ofInt (v2))) rfl rfl (nlt rfl) rfl (nlt rfl) rfl rfl ((ju_i _ _ (zne (by decide))).trans ((ju_i _ _ (zne (by decide))).trans e2)) rfl ?_
  refine jr.putf (i := 2) (x := v2) rfl rfl (Nat.lt_trans (kx_15 k_t).1 (by decide)) (kx_15 k_t).2 (by decide) rfl rfl rfl rfl rfl ?_
  refine jr.aload_n rfl rfl ?_
  refine jr.aload_n rfl rfl ?_
  obtain ⟨v3, e3⟩ : ∃ z_, M 11 3 = z_ := ⟨_, rfl⟩
  have b3 : (-9223372036854775808) ≤ v3 ∧ v3 ≤ 9223372036854775807 := by rw [← e3]; exact (CI.r hC_M (show kd 11 = 15 from rfl) (by decide) 3)
  refine jr.getf (i := 3) (x := v3) (v := .long (Int64.ofInt (v3))) rfl rfl (nlt rfl) rfl (nlt rfl) rfl rfl ((ju_i _ _ (zne (by decide))).trans ((ju_i _ _ (zne (by decide))).trans ((ju_i _ _ (zne (by decide))).trans e3))) rfl ?_
  refine jr.putf (i := 3) (x := v3) rfl rfl (Nat.lt_trans (kx_15 k_t).1 (by decide)) (kx_15 k_t).2 (by decide) rfl rfl rfl rfl rfl ?_
  refine jr.aload_n rfl rfl ?_
  refine jr.aload_n rfl rfl ?_
  obtain ⟨v4, e4⟩ : ∃ z_, M 11 4 = z_ := ⟨_, rfl⟩
  have b4 : (-9223372036854775808) ≤ v4 ∧ v4 ≤ 9223372036854775807 := by rw [← e4]; exact (CI.r hC_M (show kd 11 = 15 from rfl) (by decide) 4)
  refine jr.getf (i := 4) (x := v4) (v := .long (Int64.ofInt (v4))) rfl rfl (nlt rfl) rfl (nlt rfl) rfl rfl ((ju_i _ _ (zne (by decide))).trans ((ju_i _ _ (zne (by decide))).trans ((ju_i _ _ (zne (by decide))).trans ((ju_i _ _ (zne (by decide))).trans e4)))) rfl ?_
  refine jr.putf (i := 4) (x := v4) rfl rfl (Nat.lt_trans (kx_15 k_t).1 (by decide)) (kx_15 k_t).2 (by decide) rfl rfl rfl rfl rfl ?_
  refine jr.aload_n rfl rfl ?_
  refine jr.aload_n rfl rfl ?_
  obtain ⟨v5, e5⟩ : ∃ z_, M 11 5 = z_ := ⟨_, rfl⟩
  have b5 : (-9223372036854775808) ≤ v5 ∧ v5 ≤ 9223372036854775807 := by rw [← e5]; exact (CI.r hC_M (show kd 11 = 15 from rfl) (by decide) 5)
  refine jr.getf (i := 5) (x := v5) (v := .long (Int64.ofInt (v5))) rfl rfl (nlt rfl) rfl (nlt rfl) rfl rfl ((ju_i _ _ (zne (by decide))).trans ((ju_i _ _ (zne (by decide))).trans ((ju_i _ _ (zne (by decide))).trans ((ju_i _ _ (zne (by decide))).trans ((ju_i _ _ (zne (by decide))).trans e5))))) rfl ?_
  refine jr.putf (i := 5) (x := v5) rfl rfl (Nat.lt_trans (kx_15 k_t).1 (by decide)) (kx_15 k_t).2 (by decide) rfl rfl rfl rfl rfl ?_
  refine jr.aload_n rfl rfl ?_
  refine jr.iload_n rfl rfl ?_
  refine jr.putf (i := 6) (x := y) rfl rfl (Nat.lt_trans (kx_15 k_t).1 (by decide)) (kx_15 k_t).2 (by decide) rfl rfl rfl rfl rfl ?_
  refine jr.aload_n rfl rfl ?_
  refine jr.iconst rfl ?_
  refine jr.putf (i := 7) (x := (-1)) rfl rfl (Nat.lt_trans (kx_15 k_t).1 (by decide)) (kx_15 k_t).2 (by decide) rfl rfl rfl rfl rfl ?_
  refine jr.aload_n rfl rfl ?_
  refine jr.iconst rfl ?_
  refine jr.putf (i := 8) (x := 0) rfl rfl (Nat.lt_trans (kx_15 k_t).1 (by decide)) (kx_15 k_t).2 (by decide) rfl rfl rfl rfl rfl ?_
  refine jr.aload_n rfl rfl ?_
  refine jr.iconst rfl ?_
  refine jr.putf (i := 11) (x := (-1)) rfl rfl (Nat.lt_trans (kx_15 k_t).1 (by decide)) (kx_15 k_t).2 (by decide) rfl rfl rfl rfl rfl ?_
  refine jr.iconst rfl ?_
  refine jr.istore_n (ls' := [_, _, _, _]) rfl (nlt rfl) rfl ?_
  refine jr.pick (ls := [_, _, _, _]) [3, 0, 1, 2] rfl rfl ?_
  exact c_Gathering_beginAs_x_L67 k_t q 360 ((ju (ju (ju (ju (ju (ju (ju (ju (ju (ju M t 0 1) t 1 v1) t 2 v2) t 3 v3) t 4 v4) t 5 v5) t 6 y) t 7 (-1)) t 8 0) t 11 (-1))) 0 (CI.u (CI.u (CI.u (CI.u (CI.u (CI.u (CI.u (CI.u (CI.u (CI.u hC_M (i := 0) k_t (show (0 : Int) ≤ _ ∧ _ ≤ (1 : Int) from by omega) rfl) (i := 1) k_t (show (-2147483648 : Int) ≤ _ ∧ _ ≤ (2147483647 : Int) from by omega) rfl) (i := 2) k_t (show (-9223372036854775808 : Int) ≤ _ ∧ _ ≤ (9223372036854775807 : Int) from by omega) rfl) (i := 3) k_t (show (-9223372036854775808 : Int) ≤ _ ∧ _ ≤ (9223372036854775807 : Int) from by omega) rfl) (i := 4) k_t (show (-9223372036854775808 : Int) ≤ _ ∧ _ ≤ (9223372036854775807 : Int) from by omega) rfl) (i := 5) k_t (show (-9223372036854775808 : Int) ≤ _ ∧ _ ≤ (9223372036854775807 : Int) from by omega) rfl) (i := 6) k_t (show (-2147483648 : Int) ≤ _ ∧ _ ≤ (2147483647 : Int) from by omega) rfl) (i := 7) k_t (show (-1 : Int) ≤ _ ∧ _ ≤ (70000 : Int) from by omega) rfl) (i := 8) k_t (show (-2147483648 : Int) ≤ _ ∧ _ ≤ (2147483647 : Int) from by omega) rfl) (i := 11) k_t (show (-1 : Int) ≤ _ ∧ _ ≤ (400 : Int) from by omega) rfl) (FR.o (FR.o (FR.o (FR.o (FR.o (FR.o (FR.o (FR.o (FR.o (FR.o ht_M k_t rfl) k_t rfl) k_t rfl) k_t rfl) k_t rfl) k_t rfl) k_t rfl) k_t rfl) k_t rfl) k_t rfl) (by omega) (by omega) ⟨⟨(by rw [show (ju (ju (ju (ju (ju (ju (ju (ju (ju (ju M t 0 1) t 1 v1) t 2 v2) t 3 v3) t 4 v4) t 5 v5) t 6 y) t 7 (-1)) t 8 0) t 11 (-1)) t 0 = 1 from ((ju_i _ _ (zne (by decide))).trans ((ju_i _ _ (zne (by decide))).trans ((ju_i _ _ (zne (by decide))).trans ((ju_i _ _ (zne (by decide))).trans ((ju_i _ _ (zne (by decide))).trans ((ju_i _ _ (zne (by decide))).trans ((ju_i _ _ (zne (by decide))).trans ((ju_i _ _ (zne (by decide))).trans ((ju_i _ _ (zne (by decide))).trans (ju_same _ _ _ _))))))))))]), (by rw [show (ju (ju (ju (ju (ju (ju (ju (ju (ju (ju M t 0 1) t 1 v1) t 2 v2) t 3 v3) t 4 v4) t 5 v5) t 6 y) t 7 (-1)) t 8 0) t 11 (-1)) t 1 = v1 from ((ju_i _ _ (zne (by decide))).trans ((ju_i _ _ (zne (by decide))).trans ((ju_i _ _ (zne (by decide))).trans ((ju_i _ _ (zne (by decide))).trans ((ju_i _ _ (zne (by decide))).trans ((ju_i _ _ (zne (by decide))).trans ((ju_i _ _ (zne (by decide))).trans ((ju_i _ _ (zne (by decide))).trans (ju_same _ _ _ _)))))))))]; rw [p0]; omega), (by rw [show (ju (ju (ju (ju (ju (ju (ju (ju (ju (ju M t 0 1) t 1 v1) t 2 v2) t 3 v3) t 4 v4) t 5 v5) t 6 y) t 7 (-1)) t 8 0) t 11 (-1)) t 2 = v2 from ((ju_i _ _ (zne (by decide))).trans ((ju_i _ _ (zne (by decide))).trans ((ju_i _ _ (zne (by decide))).trans ((ju_i _ _ (zne (by decide))).trans ((ju_i _ _ (zne (by decide))).trans ((ju_i _ _ (zne (by decide))).trans ((ju_i _ _ (zne (by decide))).trans (ju_same _ _ _ _))))))))]; rw [p0]; omega), (by rw [show (ju (ju (ju (ju (ju (ju (ju (ju (ju (ju M t 0 1) t 1 v1) t 2 v2) t 3 v3) t 4 v4) t 5 v5) t 6 y) t 7 (-1)) t 8 0) t 11 (-1)) t 3 = v3 from ((ju_i _ _ (zne (by decide))).trans ((ju_i _ _ (zne (by decide))).trans ((ju_i _ _ (zne (by decide))).trans ((ju_i _ _ (zne (by decide))).trans ((ju_i _ _ (zne (by decide))).trans ((ju_i _ _ (zne (by decide))).trans (ju_same _ _ _ _)))))))]; rw [p0]; omega), (by rw [show (ju (ju (ju (ju (ju (ju (ju (ju (ju (ju M t 0 1) t 1 v1) t 2 v2) t 3 v3) t 4 v4) t 5 v5) t 6 y) t 7 (-1)) t 8 0) t 11 (-1)) t 4 = v4 from ((ju_i _ _ (zne (by decide))).trans ((ju_i _ _ (zne (by decide))).trans ((ju_i _ _ (zne (by decide))).trans ((ju_i _ _ (zne (by decide))).trans ((ju_i _ _ (zne (by decide))).trans (ju_same _ _ _ _))))))]; rw [p0]; omega), (by rw [show (ju (ju (ju (ju (ju (ju (ju (ju (ju (ju M t 0 1) t 1 v1) t 2 v2) t 3 v3) t 4 v4) t 5 v5) t 6 y) t 7 (-1)) t 8 0) t 11 (-1)) t 5 = v5 from ((ju_i _ _ (zne (by decide))).trans ((ju_i _ _ (zne (by decide))).trans ((ju_i _ _ (zne (by decide))).trans ((ju_i _ _ (zne (by decide))).trans (ju_same _ _ _ _)))))]; rw [p0]; omega), (by rw [show (ju (ju (ju (ju (ju (ju (ju (ju (ju (ju M t 0 1) t 1 v1) t 2 v2) t 3 v3) t 4 v4) t 5 v5) t 6 y) t 7 (-1)) t 8 0) t 11 (-1)) t 6 = y from ((ju_i _ _ (zne (by decide))).trans ((ju_i _ _ (zne (by decide))).trans ((ju_i _ _ (zne (by decide))).trans (ju_same _ _ _ _))))]), (by rw [show (ju (ju (ju (ju (ju (ju (ju (ju (ju (ju M t 0 1) t 1 v1) t 2 v2) t 3 v3) t 4 v4) t 5 v5) t 6 y) t 7 (-1)) t 8 0) t 11 (-1)) t 7 = -1 from ((ju_i _ _ (zne (by decide))).trans ((ju_i _ _ (zne (by decide))).trans (ju_same _ _ _ _)))]), (by rw [show (ju (ju (ju (ju (ju (ju (ju (ju (ju (ju M t 0 1) t 1 v1) t 2 v2) t 3 v3) t 4 v4) t 5 v5) t 6 y) t 7 (-1)) t 8 0) t 11 (-1)) t 8 = 0 from ((ju_i _ _ (zne (by decide))).trans (ju_same _ _ _ _))]), (by rw [show (ju (ju (ju (ju (ju (ju (ju (ju (ju (ju M t 0 1) t 1 v1) t 2 v2) t 3 v3) t 4 v4) t 5 v5) t 6 y) t 7 (-1)) t 8 0) t 11 (-1)) t 11 = -1 from (ju_same _ _ _ _)])⟩, fun k k0 k1 => absurd k1 (by omega), fun b k b0 b1 => by rw [ju_c _ _ b0, ju_c _ _ b0, ju_c _ _ b0, ju_c _ _ b0, ju_c _ _ b0, ju_c _ _ b0, ju_c _ _ b0, ju_c _ _ b0, ju_c _ _ b0, ju_c _ _ b0, p0]⟩ (by omega)
theorem c_Gathering_lastPlace_x {A : Nat → Option (Nat × (Nat → Int32))} {Q : Option Value → jm → Prop} {M : jm} (hC_M : CI M) {t : Nat} (k_t : kd t = 15) {W : Int} (g_W : M t 7 = W) (q : ∀ (r : Int), (-1) ≤ r ∧ r ≤ 360 → (r = lpf W) → Q (some (.int (Int32.ofInt r))) M) : jc A 1 102 [.ref (t)] M Q := by
  refine jc_of (m := xm_102) rfl (Nat.le_of_ble_eq_true rfl) rfl ?_
  have b_W : (-1) ≤ W ∧ W ≤ 70000 := by rw [← g_W]; exact (CI.r hC_M k_t (by decide) 7)
  refine jr.aload_n rfl rfl ?_
  refine jr.getf (i := 7) (x := W) (v := .int (Int32.ofInt (W))) rfl rfl (Nat.lt_trans (kx_15 k_t).1 (by decide)) (kx_15 k_t).2 (by decide) rfl rfl g_W rfl ?_
  refine jr.iconst rfl ?_
  refine jr.icmp_ne rfl rfl (by first | (refine rgb (by assumption) ?_; exact rfl) | omega) (rgl rfl) (fun h5 => ?_) (fun h5 => ?_)
  · have sx5 : (0 : Int) ≤ W := by omega
    clear h5
    refine jr.aload_n rfl rfl ?_
    refine jr.getf (i := 7) (x := W) (v := .int (Int32.ofInt (W))) rfl rfl (Nat.lt_trans (kx_15 k_t).1 (by decide)) (kx_15 k_t).2 (by decide) rfl rfl g_W rfl ?_
    refine jr.sipush rfl (by decide) ?_
    refine jr.imin rfl rfl (Nat.le_of_ble_eq_true rfl) (by omega) (by omega) ?_
    intro v1 d1 b1 c1
    exact jr.ireturn rfl rfl rfl (q _ (by omega) (by unfold lpf; (repeat' split) <;> omega))
  · refine jr.sipush rfl (by decide) ?_
    refine jr.goto rfl rfl ?_
    exact jr.ireturn rfl rfl rfl (q _ (by first | exact rgq rfl | omega) (by unfold lpf; (repeat' split) <;> omega))
theorem c_Gathering_rowBytes_x {A : Nat → Option (Nat × (Nat → Int32))} {Q : Option Value → jm → Prop} {M : jm} (hC_M : CI M) {t : Nat} (k_t : kd t = 15) {W : Int} (g_W : M t 7 = W) {K : Int} (g_K : M t 8 = K) (q : ∀ (r : Int), (-2147483648) ≤ r ∧ r ≤ 2147483647 → (r = rbf W K) → Q (some (.int (Int32.ofInt r))) M) : jc A 1 103 [.ref (t)] M Q := by
  refine jc_of (m := xm_103) rfl (Nat.le_of_ble_eq_true rfl) rfl ?_
  have b_W : (-1) ≤ W ∧ W ≤ 70000 := by rw [← g_W]; exact (CI.r hC_M k_t (by decide) 7)
  have b_K : (-2147483648) ≤ K ∧ K ≤ 2147483647 := by rw [← g_K]; exact (CI.r hC_M k_t (by decide) 8)
  refine jr.aload_n rfl rfl ?_
  refine jr.getf (i := 7) (x := W) (v := .int (Int32.ofInt (W))) rfl rfl (Nat.lt_trans (kx_15 k_t).1 (by decide)) (kx_15 k_t).2 (by decide) rfl rfl g_W rfl ?_
  refine jr.iconst rfl ?_
  refine jr.icmp_eq rfl rfl (by first | (refine rgb (by assumption) ?_; exact rfl) | omega) (rgl rfl) (fun h5 => ?_) (fun h5 => ?_)
  · refine jr.aload_n rfl rfl ?_
    refine jr.getf (i := 8) (x := K) (v := .int (Int32.ofInt (K))) rfl rfl (Nat.lt_trans (kx_15 k_t).1 (by decide)) (kx_15 k_t).2 (by decide) rfl rfl g_K rfl ?_
    refine jr.bipush rfl (jbp _ (nlt rfl)) ?_
    refine jr.icmp_gt rfl rfl (by first | (refine rgb (by assumption) ?_; exact rfl) | omega) (rgl rfl) (fun h19 => ?_) (fun h19 => ?_)
    · refine jr.aload_n rfl rfl ?_
      refine jr.getf (i := 8) (x := K) (v := .int (Int32.ofInt (K))) rfl rfl (Nat.lt_trans (kx_15 k_t).1 (by decide)) (kx_15 k_t).2 (by decide) rfl rfl g_K rfl ?_
      refine jr.sipush rfl (by decide) ?_
      refine jr.icmp_gt rfl rfl (by first | (refine rgb (by assumption) ?_; exact rfl) | omega) (rgl rfl) (fun h34 => ?_) (fun h34 => ?_)
      · refine jr.aload_n rfl rfl ?_
        refine jr.getf (i := 8) (x := K) (v := .int (Int32.ofInt (K))) rfl rfl (Nat.lt_trans (kx_15 k_t).1 (by decide)) (kx_15 k_t).2 (by decide) rfl rfl g_K rfl ?_
        refine jr.sipush rfl (by decide) ?_
        refine jr.icmp_gt rfl rfl (by first | (refine rgb (by assumption) ?_; exact rfl) | omega) (rgl rfl) (fun h50 => ?_) (fun h50 => ?_)
        · refine jr.sipush rfl (by decide) ?_
          exact jr.ireturn rfl rfl rfl (q _ (by first | exact rgq rfl | omega) (by unfold rbf; (repeat' split) <;> omega))
        · refine jr.sipush rfl (by decide) ?_
          refine jr.goto rfl rfl ?_
          exact jr.ireturn rfl rfl rfl (q _ (by first | exact rgq rfl | omega) (by unfold rbf; (repeat' split) <;> omega))
      · refine jr.sipush rfl (by decide) ?_
        refine jr.goto rfl rfl ?_
        exact jr.ireturn rfl rfl rfl (q _ (by first | exact rgq rfl | omega) (by unfold rbf; (repeat' split) <;> omega))
    · refine jr.bipush rfl (jbp _ (nlt rfl)) ?_
      refine jr.goto rfl rfl ?_
      exact jr.ireturn rfl rfl rfl (q _ (by first | exact rgq rfl | omega) (by unfold rbf; (repeat' split) <;> omega))
  · have sx5 : (0 : Int) ≤ W := by omega
    clear h5
    refine jr.aload_n rfl rfl ?_
    refine jr.getf (i := 7) (x := W) (v := .int (Int32.ofInt (W))) rfl rfl (Nat.lt_trans (kx_15 k_t).1 (by decide)) (kx_15 k_t).2 (by decide) rfl rfl g_W rfl ?_
    exact jr.ireturn rfl rfl rfl (q _ (by omega) (by unfold rbf; (repeat' split) <;> omega))
/-- is every place of the row filled, from i on -/
noncomputable def rdy (w : Int → Int) : Nat → Int → Int
  | 0, _ => 1
  | n + 1, i => if w i = -1 then 0 else rdy w n (i + 1)
theorem rdy_s {w : Int → Int} {L i : Int} (h : i < L) : rdy w (L - i).toNat i = if w i = -1 then 0 else rdy w (L - (i + 1)).toNat (i + 1) := by
  obtain ⟨n, hn⟩ : ∃ n : Nat, L = i + 1 + n := ⟨(L - i - 1).toNat, by omega⟩
  subst hn
  rw [show (i + 1 + (n : Int) - i).toNat = n + 1 by omega, show (i + 1 + (n : Int) - (i + 1)).toNat = n by omega]
  rfl
theorem rdy_e {w : Int → Int} {L i : Int} (h : L ≤ i) : rdy w (L - i).toNat i = 1 := by
  rw [show (L - i).toNat = 0 by omega]
  rfl
theorem c_Gathering_isReady_x_L20 {A : Nat → Option (Nat × (Nat → Int32))} {Q : Option Value → jm → Prop} {M : jm} (hC_M : CI M) {t : Nat} (k_t : kd t = 15) {W : Int} {K : Int} (q : ∀ (r : Int), 0 ≤ r ∧ r ≤ 1 → (((W = -1 ∨ K = -1) ∧ r = 0) ∨ (W ≠ -1 ∧ K ≠ -1 ∧ r = rdy (M (t + 1)) (lpf W).toNat 0)) → Q (some (.int (Int32.ofInt r))) M) : ∀ (nM : Nat) (i : Int), 0 ≤ i ∧ i ≤ 360 → M t 7 = W → M t 11 = K → (rdy (M (t + 1)) (lpf W).toNat 0 = rdy (M (t + 1)) (lpf W - i).toNat i) → (W ≠ -1 ∧ K ≠ -1) → 360 - i ≤ nM → jr A 1 xm_97 20 [(1, .int (Int32.ofInt (i))), (0, .ref (t))] [] M Q := by
  intro nM
  induction nM using Nat.strongRecOn with
  | ind nM ih =>
    intro i h_i g_W g_K hy0 hy1 hm
    have b_W : (-1) ≤ W ∧ W ≤ 70000 := by rw [← g_W]; exact (CI.r hC_M k_t (by decide) 7)
    have b_K : (-1) ≤ K ∧ K ≤ 400 := by rw [← g_K]; exact (CI.r hC_M k_t (by decide) 11)
    refine jr.iload_n rfl rfl ?_
    refine jr.aload_n rfl rfl ?_
    refine jr_v rfl rfl (Or.inl rfl) rfl rfl (Nat.lt_trans (kx_15 k_t).1 (by decide)) (kx_15 k_t).2 ⟨rfl, Nat.le_of_ble_eq_true rfl, Nat.le_of_ble_eq_true rfl⟩ rfl (jc.deep (c_Gathering_lastPlace_x hC_M k_t g_W (fun r1 z1 w1_0 => ?_)) (Nat.le_of_ble_eq_true rfl))
    refine jr.icmp_ge rfl rfl (by first | (refine rgb (by assumption) ?_; exact rfl) | omega) (by first | (refine rgb (by assumption) ?_; exact rfl) | omega) (fun h25 => ?_) (fun h25 => ?_)
    · refine jr.iconst rfl ?_
      exact jr.ireturn rfl rfl rfl (q _ (by first | exact rgq rfl | omega) (Or.inr ⟨by omega, by omega, by rw [hy0, rdy_e (by omega)]⟩))
    · refine jr.aload_n rfl rfl ?_
      have k2 := kf_15_9 k_t
      refine jr.getf (i := 9) (v := .ref (t + 1)) rfl rfl (Nat.lt_trans (kx_15 k_t).1 (by decide)) (kx_15 k_t).2 (by decide) rfl rfl rfl (jval_ref rfl k2.1) ?_
      refine jr.iload_n rfl rfl ?_
      obtain ⟨v3, e3⟩ : ∃ z_, M ((t + 1)) i = z_ := ⟨_, rfl⟩
      have b3 : (-1) ≤ v3 ∧ v3 ≤ 255 := by rw [← e3]; exact (CI.r hC_M k2.2 (by decide) i)
      refine jr.iald (i := i) (x := v3) rfl (Nat.lt_trans (kx_17 k2.2).1 (by decide)) (kx_17 k2.2).2 (by decide) (by omega) (by omega) e3 ?_
      refine jr.iconst rfl ?_
      refine jr.icmp_ne rfl rfl (by first | (refine rgb (by assumption) ?_; exact rfl) | omega) (rgl rfl) (fun h35 => ?_) (fun h35 => ?_)
      · have sx35 : (0 : Int) ≤ v3 := by omega
        clear h35
        refine jr.iinc (ls' := [_, _]) rfl rfl (nlt rfl) rfl ?_
        refine jr.goto rfl rfl ?_
        refine jr.pick (ls := [_, _]) [0, 1] rfl rfl ?_
        exact ih (nM - 1) (by omega) (i + 1) (by omega) g_W g_K (by rw [hy0, rdy_s (by omega), if_neg (by omega)]) (by omega) (by omega)
      · refine jr.iconst rfl ?_
        exact jr.ireturn rfl rfl rfl (q _ (by first | exact rgq rfl | omega) (Or.inr ⟨by omega, by omega, by rw [hy0, rdy_s (by omega), if_pos (by omega)]⟩))
theorem c_Gathering_isReady_x {A : Nat → Option (Nat × (Nat → Int32))} {Q : Option Value → jm → Prop} {M : jm} (hC_M : CI M) {t : Nat} (k_t : kd t = 15) {W : Int} (g_W : M t 7 = W) {K : Int} (g_K : M t 11 = K) (q : ∀ (r : Int), 0 ≤ r ∧ r ≤ 1 → (((W = -1 ∨ K = -1) ∧ r = 0) ∨ (W ≠ -1 ∧ K ≠ -1 ∧ r = rdy (M (t + 1)) (lpf W).toNat 0)) → Q (some (.int (Int32.ofInt r))) M) : jc A 2 97 [.ref (t)] M Q := by
  refine jc_of (m := xm_97) rfl (Nat.le_of_ble_eq_true rfl) rfl ?_
  have b_W : (-1) ≤ W ∧ W ≤ 70000 := by rw [← g_W]; exact (CI.r hC_M k_t (by decide) 7)
  have b_K : (-1) ≤ K ∧ K ≤ 400 := by rw [← g_K]; exact (CI.r hC_M k_t (by decide) 11)
  refine jr.aload_n rfl rfl ?_
  refine jr.getf (i := 7) (x := W) (v := .int (Int32.ofInt (W))) rfl rfl (Nat.lt_trans (kx_15 k_t).1 (by decide)) (kx_15 k_t).2 (by decide) rfl rfl g_W rfl ?_
  refine jr.iconst rfl ?_
  refine jr.icmp_eq rfl rfl (by first | (refine rgb (by assumption) ?_; exact rfl) | omega) (rgl rfl) (fun h5 => ?_) (fun h5 => ?_)
  · refine jr.iconst rfl ?_
    exact jr.ireturn rfl rfl rfl (q _ (by first | exact rgq rfl | omega) (Or.inl ⟨by omega, by omega⟩))
  · have sx5 : (0 : Int) ≤ W := by omega
    clear h5
    refine jr.aload_n rfl rfl ?_
    refine jr.getf (i := 11) (x := K) (v := .int (Int32.ofInt (K))) rfl rfl (Nat.lt_trans (kx_15 k_t).1 (by decide)) (kx_15 k_t).2 (by decide) rfl rfl g_K rfl ?_
    refine jr.iconst rfl ?_
    refine jr.icmp_ne rfl rfl (by first | (refine rgb (by assumption) ?_; exact rfl) | omega) (rgl rfl) (fun h13 => ?_) (fun h13 => ?_)
    · have sx13 : (0 : Int) ≤ K := by omega
      clear h13
      refine jr.iconst rfl ?_
      refine jr.istore_n (ls' := [_, _]) rfl (nlt rfl) rfl ?_
      refine jr.pick (ls := [_, _]) [0, 1] rfl rfl ?_
      exact c_Gathering_isReady_x_L20 hC_M k_t q 360 0 (by omega) g_W g_K (by rw [show lpf W - 0 = lpf W from by omega]) (by omega) (by omega)
    · refine jr.iconst rfl ?_
      exact jr.ireturn rfl rfl rfl (q _ (by first | exact rgq rfl | omega) (Or.inl ⟨by omega, by omega⟩))
end
