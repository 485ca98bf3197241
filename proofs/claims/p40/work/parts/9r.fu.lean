section
/-! ===== the reference: four bytes, turn ===== -/
theorem jl_and_16 (x : Int) : jl_and x 65535 = x % 65536 := by
  unfold jl_and
  have hN : (Int64.ofInt x &&& Int64.ofInt 65535).toBitVec.toNat = (x % 18446744073709551616).toNat % 2 ^ 16 := by
    rw [Int64.toBitVec_and, BitVec.toNat_and, jbl_tn, jbl_tn]
    exact Nat.and_two_pow_sub_one_eq_mod _ 16
  rw [jbl_ti, hN]
  split <;> omega
theorem pt22 {f : Int → Int} {i w a b : Int} (ha : a = w / 65536 % 65536) (hb : b = w % 65536) : ptn (ptn f i 2 a) (i + 2) 2 b = ptn f i 4 w := by
  funext k
  unfold ptn
  by_cases q : i ≤ k ∧ k < i + 4
  · rw [if_pos q]
    rcases (show k = i ∨ k = i + 1 ∨ k = i + 2 ∨ k = i + 3 by omega) with e | e | e | e <;> subst e
    · rw [if_neg (by omega), if_pos (by omega), show k + 2 - 1 - k = 1 by omega, show k + 4 - 1 - k = 3 by omega]
      show a / 256 % 256 = w / 16777216 % 256
      omega
    · rw [if_neg (by omega), if_pos (by omega), show i + 2 - 1 - (i + 1) = 0 by omega, show i + 4 - 1 - (i + 1) = 2 by omega]
      show a % 256 = w / 65536 % 256
      omega
    · rw [if_pos (by omega), show i + 2 + 2 - 1 - (i + 2) = 1 by omega, show i + 4 - 1 - (i + 2) = 1 by omega]
      show b / 256 % 256 = w / 256 % 256
      omega
    · rw [if_pos (by omega), show i + 2 + 2 - 1 - (i + 3) = 0 by omega, show i + 4 - 1 - (i + 3) = 0 by omega]
      show b % 256 = w % 256
      omega
  · rw [if_neg q, if_neg (by omega), if_neg (by omega)]
theorem r_layFour_x {A : Nat → Option (Nat × (Nat → Int32))} {Q : Option Value → jm → Prop} {M : jm} (hI_M : RI M) (hH_M : RH M) (hS_M : RF M) {x : Int} (h_x : 0 ≤ x ∧ x ≤ 23) {i : Int} (h_i : 0 ≤ i ∧ i ≤ 396) {w : Int} (h_w : (-9223372036854775808) ≤ w ∧ w ≤ 9223372036854775807) (q : ∀ (M' : jm), RI M' → RH M' → RF M' → rf M' x = ptn (rf M x) i 4 w → OX M M' x → (∀ (a : Nat) (i : Int), a ≠ 601 → M' a i = M a i) → Q none M') : jc A 2 258 [.ref (598), .int (Int32.ofInt (x)), .int (Int32.ofInt (i)), .long (Int64.ofInt (w))] M Q := by
  refine jc_of (m := xm_258) rfl (Nat.le_of_ble_eq_true rfl) rfl ?_
  refine jr.aload_n rfl rfl ?_
  refine jr.iload_n rfl rfl ?_
  refine jr.iload_n rfl rfl ?_
  refine jr.lload_n rfl rfl ?_
  refine jr.bipush rfl (jbp _ (nlt rfl)) ?_
  refine jr.lshr rfl ?_
  have b1 : jl_shr w 16 = w / 65536 := jl_shr_ex 16 (by decide) (by omega) (by omega)
  generalize jl_shr w 16 = v1 at b1 ⊢
  refine jr.ldc2 (x := 65535) rfl rfl (by decide) ?_
  refine jr.land rfl ?_
  have b2 : jl_and v1 65535 = v1 % 65536 ∧ 0 ≤ jl_and v1 65535 ∧ jl_and v1 65535 ≤ 65535 := ⟨jl_and_16 _, by rw [jl_and_16]; omega⟩
  generalize jl_and v1 65535 = v2 at b2 ⊢
  refine jr.l2i rfl ?_
  refine jr_v rfl rfl (Or.inl rfl) rfl rfl (nlt rfl) rfl ⟨rfl, Nat.le_of_ble_eq_true rfl, Nat.le_of_ble_eq_true rfl⟩ rfl (jc.deep (r_layTwo_x hI_M hH_M hS_M  (by omega) (by omega) (by omega)  (fun M3 hI_M3 hH_M3 hS_M3  w3_0 w3_1 w3_2 => ?_)) (Nat.le_of_ble_eq_true rfl))
  refine jr.aload_n rfl rfl ?_
  refine jr.iload_n rfl rfl ?_
  refine jr.iload_n rfl rfl ?_
  refine jr.iconst rfl ?_
  refine jr.iadd rfl ?_
  refine jr.lload_n rfl rfl ?_
  refine jr.ldc2 (x := 65535) rfl rfl (by decide) ?_
  refine jr.land rfl ?_
  have b4 : jl_and w 65535 = w % 65536 ∧ 0 ≤ jl_and w 65535 ∧ jl_and w 65535 ≤ 65535 := ⟨jl_and_16 _, by rw [jl_and_16]; omega⟩
  generalize jl_and w 65535 = v4 at b4 ⊢
  refine jr.l2i rfl ?_
  refine jr_v rfl rfl (Or.inl rfl) rfl rfl (nlt rfl) rfl ⟨rfl, Nat.le_of_ble_eq_true rfl, Nat.le_of_ble_eq_true rfl⟩ rfl (jc.deep (r_layTwo_x hI_M3 hH_M3 hS_M3  (by omega) (by omega) (by omega)  (fun M5 hI_M5 hH_M5 hS_M5  w5_0 w5_1 w5_2 => ?_)) (Nat.le_of_ble_eq_true rfl))
  exact jr.vreturn rfl rfl (q _ hI_M5 hH_M5 hS_M5  (by rw [w5_0, w3_0]; exact pt22 (by omega) (by omega)) (fun j hj => (w5_1 j hj).trans (w3_1 j hj)) (fun a i f601 => ((w5_2 a i f601).trans ((w3_2 a i f601).trans rfl))))
theorem r_tapeFour_x {A : Nat → Option (Nat × (Nat → Int32))} {Q : Option Value → jm → Prop} {M : jm} (hI_M : RI M) (hH_M : RH M) (hS_M : RF M) {i : Int} (h_i : 0 ≤ i ∧ i ≤ 1596) {w : Int} (h_w : (-9223372036854775808) ≤ w ∧ w ≤ 9223372036854775807) (q : ∀ (M' : jm), RI M' → RH M' → RF M' → M' 599 = ptn (M 599) i 4 w → (∀ (a : Nat) (i : Int), a ≠ 599 → M' a i = M a i) → Q none M') : jc A 2 325 [.ref (598), .int (Int32.ofInt (i)), .long (Int64.ofInt (w))] M Q := by
  refine jc_of (m := xm_325) rfl (Nat.le_of_ble_eq_true rfl) rfl ?_
  refine jr.aload_n rfl rfl ?_
  refine jr.iload_n rfl rfl ?_
  refine jr.lload_n rfl rfl ?_
  refine jr.bipush rfl (jbp _ (nlt rfl)) ?_
  refine jr.lshr rfl ?_
  have b1 : jl_shr w 16 = w / 65536 := jl_shr_ex 16 (by decide) (by omega) (by omega)
  generalize jl_shr w 16 = v1 at b1 ⊢
  refine jr.ldc2 (x := 65535) rfl rfl (by decide) ?_
  refine jr.land rfl ?_
  have b2 : jl_and v1 65535 = v1 % 65536 ∧ 0 ≤ jl_and v1 65535 ∧ jl_and v1 65535 ≤ 65535 := ⟨jl_and_16 _, by rw [jl_and_16]; omega⟩
  generalize jl_and v1 65535 = v2 at b2 ⊢
  refine jr.l2i rfl ?_
  refine jr_v rfl rfl (Or.inl rfl) rfl rfl (nlt rfl) rfl ⟨rfl, Nat.le_of_ble_eq_true rfl, Nat.le_of_ble_eq_true rfl⟩ rfl (jc.deep (r_tapeTwo_x hI_M hH_M hS_M  (by omega) (by omega)  (fun M3 hI_M3 hH_M3 hS_M3  w3_0 w3_1 => ?_)) (Nat.le_of_ble_eq_true rfl))
  refine jr.aload_n rfl rfl ?_
  refine jr.iload_n rfl rfl ?_
  refine jr.iconst rfl ?_
  refine jr.iadd rfl ?_
  refine jr.lload_n rfl rfl ?_
  refine jr.ldc2 (x := 65535) rfl rfl (by decide) ?_
  refine jr.land rfl ?_
  have b4 : jl_and w 65535 = w % 65536 ∧ 0 ≤ jl_and w 65535 ∧ jl_and w 65535 ≤ 65535 := ⟨jl_and_16 _, by rw [jl_and_16]; omega⟩
  generalize jl_and w 65535 = v4 at b4 ⊢
  refine jr.l2i rfl ?_
  refine jr_v rfl rfl (Or.inl rfl) rfl rfl (nlt rfl) rfl ⟨rfl, Nat.le_of_ble_eq_true rfl, Nat.le_of_ble_eq_true rfl⟩ rfl (jc.deep (r_tapeTwo_x hI_M3 hH_M3 hS_M3  (by omega) (by omega)  (fun M5 hI_M5 hH_M5 hS_M5  w5_0 w5_1 => ?_)) (Nat.le_of_ble_eq_true rfl))
  exact jr.vreturn rfl rfl (q _ hI_M5 hH_M5 hS_M5  (by rw [w5_0, w3_0]; exact pt22 (by omega) (by omega)) (fun a i f599 => ((w5_1 a i f599).trans ((w3_1 a i f599).trans rfl))))
/-- bytes behind turn: net n, inner i, the side, address and port -/
noncomputable def tuF (f : Int → Int) (N C n i s a o : Int) : Int → Int := mdF f N C n (mdF f N C i (ptn (ptn f (hY f N n + (if s = 0 then 12 else 16)) 4 a) (hY f N i + (if s = 0 then 0 else 2)) 2 o))
noncomputable def TU7 (T M' : jm) (f : Int → Int) (N C x r : Int) : Prop := (¬ heG f N C ∧ r = -4 ∧ ∀ i : Int, M' 601 i = T 601 i) ∨ (heG f N C ∧ ∃ E : jm, TRE T E f N C x ∧ EN6 E f N C (ntf f N C) (inf f N C (ntf f N C)) ∧ (((fe6 E 24 0 = -1 ∨ E 640 (fe6 E 24 0) = -1) ∧ r = -4 ∧ ∀ i : Int, M' 601 i = T 601 i) ∨ ((fe6 E 24 0 ≠ -1 ∧ E 640 (fe6 E 24 0) ≠ -1) ∧ r = sd6 E (fe6 E 24 0) ∧ rf M' x = tuF f N C (ntf f N C) (inf f N C (ntf f N C)) r (if r = 0 then E 641 (fe6 E 24 0) else E 630 (2 * fe6 E 24 0)) (if r = 0 then E 642 (fe6 E 24 0) else E 631 (2 * fe6 E 24 0)) ∧ OX T M' x)))
noncomputable def TU6 (T M' : jm) (x r : Int) : Prop := ((x < 0 ∨ 23 < x ∨ T 600 x = -1) ∧ r = -2 ∧ M' = T) ∨ (((0 ≤ x ∧ x ≤ 23) ∧ T 600 x ≠ -1) ∧ ∃ C : Int, HE (rf T x) (T 600 x) C ∧ TU7 T M' (rf T x) (T 600 x) C x r)
theorem TU6.h0 {T H : jm} {x z : Int} (hx : (0 ≤ x ∧ x ≤ 23) ∧ T 600 x ≠ -1) (hz : z = 0) (hn : HN6 T H x z) (fH : ∀ (a : Nat) (i : Int), a ≠ 598 → a ≠ 603 → a ≠ 604 → a ≠ 605 → H a i = T a i) : TU6 T H x (-4) := by
  obtain ⟨h1, ⟨h2, h3⟩, h4⟩ := hn
  refine Or.inr ⟨hx, _, h2, Or.inl ⟨?_, rfl, fun i => fH 601 i (by decide) (by decide) (by decide) (by decide)⟩⟩
  rw [← heG_i h3]
  rcases h4 with h4 | h4
  · exact h4.1
  · omega
theorem TU6.n {T H E M' : jm} {x z g r : Int} (hx : (0 ≤ x ∧ x ≤ 23) ∧ T 600 x ≠ -1) (hz : z ≠ 0) (hn : HN6 T H x z) (fH : ∀ (a : Nat) (i : Int), a ≠ 598 → a ≠ 603 → a ≠ 604 → a ≠ 605 → H a i = T a i) (f2 : H 598 2 = T 598 2) (hb : g = fe6 H 24 0) (fE : ∀ (a : Nat) (i : Int), a ≠ 598 → E a i = H a i) (gE : ∀ (i : Int), i ≠ 66 → E 598 i = H 598 i) (h : ((g = -1 ∨ E 640 g = -1) ∧ r = -4 ∧ ∀ i : Int, M' 601 i = T 601 i) ∨ ((g ≠ -1 ∧ E 640 g ≠ -1) ∧ r = sd6 H g ∧ rf M' x = tuF (rf T x) (T 600 x) (H 598 6) (ntf (rf T x) (T 600 x) (H 598 6)) (H 598 65) r (if r = 0 then E 641 g else E 630 (2 * g)) (if r = 0 then E 642 g else E 631 (2 * g)) ∧ OX T M' x)) : TU6 T M' x r := by
  have te := TRE.m hn fH f2 (fun _ _ _ => rfl) (fun _ _ _ _ _ _ _ _ => rfl) fE gE
  obtain ⟨h1, ⟨h2, h3⟩, h4⟩ := hn
  rcases h4 with h4 | h4
  · exact absurd h4.2 hz
  have e5 := h4.2.2.2
  refine Or.inr ⟨hx, _, h2, Or.inr ⟨(heG_i h3).1 h4.1, E, te, h4.2.2.e gE, ?_⟩⟩
  rw [e5] at h
  rw [(fe6_b fE gE).2, (fe6_b fE gE).1, ← hb]
  exact h
theorem HT.fr1 {M M1 : jm} {f : Int → Int} {N C : Int} (h : HT M f N C) (g : ∀ (b : Nat) (i : Int), b ≠ 601 → M1 b i = M b i) : HT M1 f N C := by
  refine ⟨by rw [g 598 6 (by decide)]; exact h.1, ?_, h.2.2⟩
  intro i h0 h1
  have q := h.2.1 i h0 h1
  rw [g (602 + 1) i (by decide), g (602 + 2) i (by decide), g (602 + 3) i (by decide)]
  exact q
theorem r_turn_x {A : Nat → Option (Nat × (Nat → Int32))} {Q : Option Value → jm → Prop} {M : jm} (hI_M : RI M) (hH_M : RH M) (hS_M : RF M) {x : Int} (h_x : (-2147483648) ≤ x ∧ x ≤ 2147483647) (q : ∀ (r : Int) (M' : jm), RI M' → RH M' → RF M' → (-4) ≤ r ∧ r ≤ 1 → TU6 M M' x r → (∀ (a : Nat) (i : Int), a ≠ 598 → a ≠ 601 → a ≠ 603 → a ≠ 604 → a ≠ 605 → M' a i = M a i) → (∀ (i : Int), i ≠ 6 → i ≠ 10 → i ≠ 11 → i ≠ 12 → i ≠ 59 → i ≠ 60 → i ≠ 61 → i ≠ 62 → i ≠ 63 → i ≠ 64 → i ≠ 65 → i ≠ 66 → M' 598 i = M 598 i) → Q (some (.int (Int32.ofInt r))) M') : jc A 8 322 [.ref (598), .int (Int32.ofInt (x))] M Q := by
  refine jc_of (m := xm_322) rfl (Nat.le_of_ble_eq_true rfl) rfl ?_
  refine jr.aload_n rfl rfl ?_
  refine jr.iload_n rfl rfl ?_
  refine jr_v rfl rfl (Or.inl rfl) rfl rfl (nlt rfl) rfl ⟨rfl, Nat.le_of_ble_eq_true rfl, Nat.le_of_ble_eq_true rfl⟩ rfl (jc.deep (c_isThere hI_M (by omega) (fun l2 u2 t2 => ?_) (fun n2 => ?_)) (Nat.le_of_ble_eq_true rfl))
  · refine jr.if_ne rfl rfl (by first | exact rgl rfl | omega) (fun _ => ?_) (fun h => absurd (by decide) h)
    refine jr.aload_n rfl rfl ?_
    refine jr.iload_n rfl rfl ?_
    obtain ⟨v2, e2⟩ : ∃ z, M 600 x = z := ⟨_, rfl⟩
    have b2 : (-1) ≤ v2 ∧ v2 ≤ 400 := by rw [← e2]; exact (by have q := hI_M 600 x (Nat.le_of_ble_eq_true rfl); rw [xri_row rfl rfl] at q; exact q)
    refine jr_v rfl rfl (Or.inl rfl) rfl rfl (nlt rfl) rfl ⟨rfl, Nat.le_of_ble_eq_true rfl, Nat.le_of_ble_eq_true rfl⟩ rfl (jc.deep (r_hasEnds_x hI_M hH_M hS_M  (by omega) (by rw [e2]; omega) (fun r1 M1 hI_M1 hH_M1 hS_M1  z1 w1_0 w1_1 w1_2 w1_3 => ?_)) (Nat.le_of_ble_eq_true rfl))
    refine jr.if_ne rfl rfl (by first | (refine rgb (by assumption) ?_; exact rfl) | omega) (fun h16 => ?_) (fun h16 => ?_)
    · have sx16 : (1 : Int) ≤ r1 := by omega
      clear h16
      refine jr.aload_n rfl rfl ?_
      refine jr_v rfl rfl (Or.inl rfl) rfl rfl (nlt rfl) rfl ⟨rfl, Nat.le_of_ble_eq_true rfl, Nat.le_of_ble_eq_true rfl⟩ rfl (jc.deep (r_flowByEnds_x hI_M1 hH_M1 hS_M1    (fun r3 M3 hI_M3 hH_M3 hS_M3  z3 w3_0 w3_1 w3_2 w3_3 => ?_)) (Nat.le_of_ble_eq_true rfl))
      have q3 := w1_0.resolve_left (by omega)
      obtain ⟨re1, re2, re3, re4, re5, tt, rt0, rt1, rt2⟩ := q3
      obtain ⟨ea, hea⟩ : ∃ z, M1 598 65 = z := ⟨_, rfl⟩
      rw [hea] at re1 re2 re3 re4
      have rc := RH.car hH_M1 ea
      have b65 : M1 598 6 ≤ 12 := (hI_M1 598 6 (Nat.le_of_ble_eq_true rfl)).2
      refine jr.istore_n (ls' := [_, _, _]) rfl (nlt rfl) rfl ?_
      refine jr.iload_n rfl rfl ?_
      refine jr.iconst rfl ?_
      refine jr.icmp_eq rfl rfl (by first | (refine rgb (by assumption) ?_; exact rfl) | omega) (rgl rfl) (fun h29 => ?_) (fun h29 => ?_)
      · refine jr.bipush rfl (by decide) ?_
        exact jr.ireturn rfl rfl rfl (q _ _ hI_M3 hH_M3 hS_M3  (by first | exact rgq rfl | omega) (TU6.n ⟨⟨by omega, by omega⟩, by omega⟩ (by omega) w1_1 w1_2 (w1_3 2 (zne rfl) (zne rfl) (zne rfl) (zne rfl) (zne rfl) (zne rfl) (zne rfl) (zne rfl) (zne rfl) (zne rfl) (zne rfl)) w3_1.1 w3_2 w3_3 (by exact Or.inl ⟨by first | (left; omega) | (right; omega), rfl, (fun i => (w3_2 601 i (nne rfl)).trans (w1_2 601 i (nne rfl) (nne rfl) (nne rfl) (nne rfl)))⟩)) (fun a i f598 f601 f603 f604 f605 => ((w3_2 a i f598).trans ((w1_2 a i f598 f603 f604 f605).trans rfl))) (fun i g6 g10 g11 g12 g59 g60 g61 g62 g63 g64 g65 g66 => ((w3_3 i g66).trans ((w1_3 i g6 g10 g11 g12 g59 g60 g61 g62 g63 g64 g65).trans rfl))))
      · have sx29 : (0 : Int) ≤ r3 := by omega
        clear h29
        refine jr.aload_n rfl rfl ?_
        refine jr.getf (i := 52) (v := .ref 640) rfl rfl (nlt rfl) rfl (nlt rfl) rfl rfl rfl rfl ?_
        refine jr.iload_n rfl rfl ?_
        obtain ⟨v4, e4⟩ : ∃ z, M 640 r3 = z := ⟨_, rfl⟩
        have b4 : (-1) ≤ v4 ∧ v4 ≤ 3 := by rw [← e4]; exact (by have q := hI_M 640 r3 (Nat.le_of_ble_eq_true rfl); rw [xri_row rfl rfl] at q; exact q)
        have e5 : M1 640 r3 = v4 := ((w1_2 640 r3 (nne rfl) (nne rfl) (nne rfl) (nne rfl)).trans e4)
        have e6 : M3 640 r3 = v4 := ((w3_2 640 r3 (nne rfl)).trans e5)
        refine jr.iald (i := r3) (x := v4) rfl (nlt rfl) rfl (Nat.le_of_ble_eq_true rfl) (by omega) (by omega) e6 ?_
        refine jr.iconst rfl ?_
        refine jr.icmp_ne rfl rfl (by first | (refine rgb (by assumption) ?_; exact rfl) | omega) (rgl rfl) (fun h39 => ?_) (fun h39 => ?_)
        · have sx39 : (0 : Int) ≤ v4 := by omega
          clear h39
          refine jr.aload_n rfl rfl ?_
          refine jr_v rfl rfl (Or.inl rfl) rfl rfl (nlt rfl) rfl ⟨rfl, Nat.le_of_ble_eq_true rfl, Nat.le_of_ble_eq_true rfl⟩ rfl (jc.deep (r_net_x hI_M3 hH_M3 hS_M3   (HT.q w1_1.1 (fun b i hb => w3_2 b i hb) (w3_3 6 (zne rfl))) (fun r7 z7 w7_0 w7_1 w7_2 w7_3 => ?_)) (Nat.le_of_ble_eq_true rfl))
          have h66 := w3_3 6 (zne rfl)
          have rn : ¬ r7 = -1 := by
            intro z
            have z1 := w7_1 z tt rt0 (by rw [w3_3 6 (zne rfl)]; exact rt1)
            rw [w3_2 603 tt (nne rfl)] at z1
            omega
          refine jr.istore_n (ls' := [_, _, _, _]) rfl (nlt rfl) rfl ?_
          refine jr.aload_n rfl rfl ?_
          refine jr.getf (i := 8) (v := .ref 604) rfl rfl (nlt rfl) rfl (nlt rfl) rfl rfl rfl rfl ?_
          refine jr.aload_n rfl rfl ?_
          have e8 : M3 598 65 = ea := ((w3_3 65 (zne rfl)).trans hea)
          refine jr.getf (i := 65) (x := ea) (v := .int (Int32.ofInt (ea))) rfl rfl (nlt rfl) rfl (nlt rfl) rfl rfl e8 rfl ?_
          obtain ⟨v9, e9⟩ : ∃ z, M1 604 ea = z := ⟨_, rfl⟩
          have b9 : 0 ≤ v9 ∧ v9 ≤ 400 := by rw [← e9]; exact (by have q := hI_M1 604 ea (Nat.le_of_ble_eq_true rfl); rw [xri_row rfl rfl] at q; exact q)
          have e10 : M3 604 ea = v9 := ((w3_2 604 ea (nne rfl)).trans e9)
          refine jr.iald (i := ea) (x := v9) rfl (nlt rfl) rfl (Nat.le_of_ble_eq_true rfl) (by omega) (by omega) e10 ?_
          refine jr.istore (ls' := [_, _, _, _, _]) rfl (nlt rfl) rfl ?_
          refine jr.aload_n rfl rfl ?_
          obtain ⟨v11, e11⟩ : ∃ z, M3 598 66 = z := ⟨_, rfl⟩
          have b11 : (-1) ≤ v11 ∧ v11 ≤ 1 := by rw [← e11]; exact hI_M3 598 66 (Nat.le_of_ble_eq_true rfl)
          refine jr.getf (i := 66) (x := v11) (v := .int (Int32.ofInt (v11))) rfl rfl (nlt rfl) rfl (nlt rfl) rfl rfl e11 rfl ?_
          refine jr.if_ne rfl rfl (by first | (refine rgb (by assumption) ?_; exact rfl) | omega) (fun h65 => ?_) (fun h65 => ?_)
          · refine jr.aload_n rfl rfl ?_
            refine jr.iload_n rfl rfl ?_
            refine jr.aload_n rfl rfl ?_
            refine jr.getf (i := 8) (v := .ref 604) rfl rfl (nlt rfl) rfl (nlt rfl) rfl rfl rfl rfl ?_
            refine jr.iload_n rfl rfl ?_
            obtain ⟨v12, e12⟩ : ∃ z, M1 604 r7 = z := ⟨_, rfl⟩
            have b12 : 0 ≤ v12 ∧ v12 ≤ 400 := by rw [← e12]; exact (by have q := hI_M1 604 r7 (Nat.le_of_ble_eq_true rfl); rw [xri_row rfl rfl] at q; exact q)
            have e13 : M3 604 r7 = v12 := ((w3_2 604 r7 (nne rfl)).trans e12)
            refine jr.iald (i := r7) (x := v12) rfl (nlt rfl) rfl (Nat.le_of_ble_eq_true rfl) (by omega) (by omega) e13 ?_
            refine jr.bipush rfl (jbp _ (nlt rfl)) ?_
            refine jr.iadd rfl ?_
            refine jr.aload_n rfl rfl ?_
            refine jr.getf (i := 42) (v := .ref 630) rfl rfl (nlt rfl) rfl (nlt rfl) rfl rfl rfl rfl ?_
            refine jr.iconst rfl ?_
            refine jr.iload_n rfl rfl ?_
            refine jr.imul rfl ?_
            obtain ⟨v14, e14⟩ : ∃ z, M 630 (2 * r3) = z := ⟨_, rfl⟩
            have b14 : (-9223372036854775808) ≤ v14 ∧ v14 ≤ 9223372036854775807 := by rw [← e14]; exact (by have q := hI_M 630 (2 * r3) (Nat.le_of_ble_eq_true rfl); rw [xri_row rfl rfl] at q; exact q)
            have e15 : M1 630 (2 * r3) = v14 := ((w1_2 630 (2 * r3) (nne rfl) (nne rfl) (nne rfl) (nne rfl)).trans e14)
            have e16 : M3 630 (2 * r3) = v14 := ((w3_2 630 (2 * r3) (nne rfl)).trans e15)
            refine jr.lald (i := (2 * r3)) (x := v14) rfl (nlt rfl) rfl (Nat.le_of_ble_eq_true rfl) (by omega) (by omega) e16 ?_
            refine jr_v rfl rfl (Or.inl rfl) rfl rfl (nlt rfl) rfl ⟨rfl, Nat.le_of_ble_eq_true rfl, Nat.le_of_ble_eq_true rfl⟩ rfl (jc.deep (r_layFour_x hI_M3 hH_M3 hS_M3  (by omega) (by omega) (by omega)  (fun M17 hI_M17 hH_M17 hS_M17  w17_0 w17_1 w17_2 => ?_)) (Nat.le_of_ble_eq_true rfl))
            refine jr.aload_n rfl rfl ?_
            refine jr.iload_n rfl rfl ?_
            refine jr.iload rfl rfl ?_
            refine jr.iconst rfl ?_
            refine jr.iadd rfl ?_
            refine jr.aload_n rfl rfl ?_
            refine jr.getf (i := 43) (v := .ref 631) rfl rfl (nlt rfl) rfl (nlt rfl) rfl rfl rfl rfl ?_
            refine jr.iconst rfl ?_
            refine jr.iload_n rfl rfl ?_
            refine jr.imul rfl ?_
            obtain ⟨v18, e18⟩ : ∃ z, M 631 (2 * r3) = z := ⟨_, rfl⟩
            have b18 : 0 ≤ v18 ∧ v18 ≤ 65535 := by rw [← e18]; exact (by have q := hI_M 631 (2 * r3) (Nat.le_of_ble_eq_true rfl); rw [xri_row rfl rfl] at q; exact q)
            have e19 : M1 631 (2 * r3) = v18 := ((w1_2 631 (2 * r3) (nne rfl) (nne rfl) (nne rfl) (nne rfl)).trans e18)
            have e20 : M3 631 (2 * r3) = v18 := ((w3_2 631 (2 * r3) (nne rfl)).trans e19)
            have e21 : M17 631 (2 * r3) = v18 := ((w17_2 631 (2 * r3) (nne rfl)).trans e20)
            refine jr.iald (i := (2 * r3)) (x := v18) rfl (nlt rfl) rfl (Nat.le_of_ble_eq_true rfl) (by omega) (by omega) e21 ?_
            refine jr_v rfl rfl (Or.inl rfl) rfl rfl (nlt rfl) rfl ⟨rfl, Nat.le_of_ble_eq_true rfl, Nat.le_of_ble_eq_true rfl⟩ rfl (jc.deep (r_layTwo_x hI_M17 hH_M17 hS_M17  (by omega) (by omega) (by omega)  (fun M22 hI_M22 hH_M22 hS_M22  w22_0 w22_1 w22_2 => ?_)) (Nat.le_of_ble_eq_true rfl))
            refine jr.aload_n rfl rfl ?_
            refine jr.iload_n rfl rfl ?_
            refine jr.aload_n rfl rfl ?_
            have e23 : M17 598 65 = ea := ((w17_2 598 65 (nne rfl)).trans e8)
            have e24 : M22 598 65 = ea := ((w22_2 598 65 (nne rfl)).trans e23)
            refine jr.getf (i := 65) (x := ea) (v := .int (Int32.ofInt (ea))) rfl rfl (nlt rfl) rfl (nlt rfl) rfl rfl e24 rfl ?_
            have e26 : M1 600 x = v2 := ((w1_2 600 x (nne rfl) (nne rfl) (nne rfl) (nne rfl)).trans e2)
            have e27 : M3 600 x = v2 := ((w3_2 600 x (nne rfl)).trans e26)
            have e28 : M17 600 x = v2 := ((w17_2 600 x (nne rfl)).trans e27)
            have e29 : M22 600 x = v2 := ((w22_2 600 x (nne rfl)).trans e28)
            refine jr_v rfl rfl (Or.inl rfl) rfl rfl (nlt rfl) rfl ⟨rfl, Nat.le_of_ble_eq_true rfl, Nat.le_of_ble_eq_true rfl⟩ rfl (jc.deep (r_right_x hI_M22 hH_M22 hS_M22  (by omega) (by omega) (HT.fr1 (HT.fr1 (HT.q w1_1.1 (fun b i hb => w3_2 b i hb) (w3_3 6 (zne rfl))) w17_2) w22_2) (by omega) (e29.trans e2.symm) (fun r25 M25 hI_M25 hH_M25 hS_M25  z25 w25_0 w25_1 w25_2 => ?_)) (Nat.le_of_ble_eq_true rfl))
            refine jr.istore (ls' := [_, _, _, _, _, _]) rfl (nlt rfl) rfl ?_
            refine jr.aload_n rfl rfl ?_
            refine jr.iload_n rfl rfl ?_
            refine jr.iload_n rfl rfl ?_
            have e31 : M25 600 x = v2 := ((w25_2 600 x (nne rfl)).trans e29)
            refine jr_v rfl rfl (Or.inl rfl) rfl rfl (nlt rfl) rfl ⟨rfl, Nat.le_of_ble_eq_true rfl, Nat.le_of_ble_eq_true rfl⟩ rfl (jc.deep (r_right_x hI_M25 hH_M25 hS_M25  (by omega) (by omega) (HT.fr1 (HT.fr1 (HT.fr1 (HT.q w1_1.1 (fun b i hb => w3_2 b i hb) (w3_3 6 (zne rfl))) w17_2) w22_2) w25_2) (by omega) (e31.trans e2.symm) (fun r30 M30 hI_M30 hH_M30 hS_M30  z30 w30_0 w30_1 w30_2 => ?_)) (Nat.le_of_ble_eq_true rfl))
            refine jr.istore (ls' := [_, _, _, _, _, _]) rfl (nlt rfl) rfl ?_
            refine jr.aload_n rfl rfl ?_
            have e32 : M17 598 66 = v11 := ((w17_2 598 66 (nne rfl)).trans e11)
            have e33 : M22 598 66 = v11 := ((w22_2 598 66 (nne rfl)).trans e32)
            have e34 : M25 598 66 = v11 := ((w25_2 598 66 (nne rfl)).trans e33)
            have e35 : M30 598 66 = v11 := ((w30_2 598 66 (nne rfl)).trans e34)
            refine jr.getf (i := 66) (x := v11) (v := .int (Int32.ofInt (v11))) rfl rfl (nlt rfl) rfl (nlt rfl) rfl rfl e35 rfl ?_
            exact jr.ireturn rfl rfl rfl (q _ _ hI_M30 hH_M30 hS_M30  (by omega) (TU6.n ⟨⟨by omega, by omega⟩, by omega⟩ (by omega) w1_1 w1_2 (w1_3 2 (zne rfl) (zne rfl) (zne rfl) (zne rfl) (zne rfl) (zne rfl) (zne rfl) (zne rfl) (zne rfl) (zne rfl) (zne rfl)) w3_1.1 w3_2 w3_3 (by have hn : r7 = ntf (rf M x) (M 600 x) (M1 598 6) := w7_3; have hr66 : sd6 M1 r3 = v11 := (by rw [← (w3_1.2.resolve_left (by omega)), e11]); have ha1 : hY (rf M x) (M 600 x) r7 = v12 := (by rw [← (HT.f (HT.q w1_1.1 (fun b i hb => w3_2 b i hb) (w3_3 6 (zne rfl))) (x := r7) (by omega)).2.1]; exact e13); have ha2 : hY (rf M x) (M 600 x) ea = v9 := (by rw [← (HT.f (HT.q w1_1.1 (fun b i hb => w3_2 b i hb) (w3_3 6 (zne rfl))) (x := ea) (by omega)).2.1]; exact e10); exact Or.inr ⟨⟨by omega, by rw [e6]; omega⟩, by rw [hr66], (by rw [(show M1 598 65 = ea from hea), ← hn, w30_0.2, w25_0.2, w22_0, w17_0, (show rf M3 x = rf M x from rf_e (fun i => (w3_2 601 i (nne rfl)).trans (w1_2 601 i (nne rfl) (nne rfl) (nne rfl) (nne rfl))))]; unfold tuF; rw [ha1, ha2]; simp only [if_neg (show v11 ≠ 0 by omega)]; rw [e16, e20]; first | done | rfl | (congr 3; omega)), (fun j hj => (w30_1 j hj).trans ((w25_1 j hj).trans ((w22_1 j hj).trans ((w17_1 j hj).trans ((fun i => (w3_2 601 i (nne rfl)).trans (w1_2 601 i (nne rfl) (nne rfl) (nne rfl) (nne rfl))) j)))))⟩)) (fun a i f598 f601 f603 f604 f605 => ((w30_2 a i f601).trans ((w25_2 a i f601).trans ((w22_2 a i f601).trans ((w17_2 a i f601).trans ((w3_2 a i f598).trans ((w1_2 a i f598 f603 f604 f605).trans rfl))))))) (fun i g6 g10 g11 g12 g59 g60 g61 g62 g63 g64 g65 g66 => ((w30_2 598 i (nne rfl)).trans ((w25_2 598 i (nne rfl)).trans ((w22_2 598 i (nne rfl)).trans ((w17_2 598 i (nne rfl)).trans ((w3_3 i g66).trans ((w1_3 i g6 g10 g11 g12 g59 g60 g61 g62 g63 g64 g65).trans rfl))))))))
          · refine jr.aload_n rfl rfl ?_
            refine jr.iload_n rfl rfl ?_
            refine jr.aload_n rfl rfl ?_
            refine jr.getf (i := 8) (v := .ref 604) rfl rfl (nlt rfl) rfl (nlt rfl) rfl rfl rfl rfl ?_
            refine jr.iload_n rfl rfl ?_
            obtain ⟨v36, e36⟩ : ∃ z, M1 604 r7 = z := ⟨_, rfl⟩
            have b36 : 0 ≤ v36 ∧ v36 ≤ 400 := by rw [← e36]; exact (by have q := hI_M1 604 r7 (Nat.le_of_ble_eq_true rfl); rw [xri_row rfl rfl] at q; exact q)
            have e37 : M3 604 r7 = v36 := ((w3_2 604 r7 (nne rfl)).trans e36)
            refine jr.iald (i := r7) (x := v36) rfl (nlt rfl) rfl (Nat.le_of_ble_eq_true rfl) (by omega) (by omega) e37 ?_
            refine jr.bipush rfl (jbp _ (nlt rfl)) ?_
            refine jr.iadd rfl ?_
            refine jr.aload_n rfl rfl ?_
            refine jr.getf (i := 53) (v := .ref 641) rfl rfl (nlt rfl) rfl (nlt rfl) rfl rfl rfl rfl ?_
            refine jr.iload_n rfl rfl ?_
            obtain ⟨v38, e38⟩ : ∃ z, M 641 r3 = z := ⟨_, rfl⟩
            have b38 : (-9223372036854775808) ≤ v38 ∧ v38 ≤ 9223372036854775807 := by rw [← e38]; exact (by have q := hI_M 641 r3 (Nat.le_of_ble_eq_true rfl); rw [xri_row rfl rfl] at q; exact q)
            have e39 : M1 641 r3 = v38 := ((w1_2 641 r3 (nne rfl) (nne rfl) (nne rfl) (nne rfl)).trans e38)
            have e40 : M3 641 r3 = v38 := ((w3_2 641 r3 (nne rfl)).trans e39)
            refine jr.lald (i := r3) (x := v38) rfl (nlt rfl) rfl (Nat.le_of_ble_eq_true rfl) (by omega) (by omega) e40 ?_
            refine jr_v rfl rfl (Or.inl rfl) rfl rfl (nlt rfl) rfl ⟨rfl, Nat.le_of_ble_eq_true rfl, Nat.le_of_ble_eq_true rfl⟩ rfl (jc.deep (r_layFour_x hI_M3 hH_M3 hS_M3  (by omega) (by omega) (by omega)  (fun M41 hI_M41 hH_M41 hS_M41  w41_0 w41_1 w41_2 => ?_)) (Nat.le_of_ble_eq_true rfl))
            refine jr.aload_n rfl rfl ?_
            refine jr.iload_n rfl rfl ?_
            refine jr.iload rfl rfl ?_
            refine jr.aload_n rfl rfl ?_
            refine jr.getf (i := 54) (v := .ref 642) rfl rfl (nlt rfl) rfl (nlt rfl) rfl rfl rfl rfl ?_
            refine jr.iload_n rfl rfl ?_
            obtain ⟨v42, e42⟩ : ∃ z, M 642 r3 = z := ⟨_, rfl⟩
            have b42 : 0 ≤ v42 ∧ v42 ≤ 70000 := by rw [← e42]; exact (by have q := hI_M 642 r3 (Nat.le_of_ble_eq_true rfl); rw [xri_row rfl rfl] at q; exact q)
            have e43 : M1 642 r3 = v42 := ((w1_2 642 r3 (nne rfl) (nne rfl) (nne rfl) (nne rfl)).trans e42)
            have e44 : M3 642 r3 = v42 := ((w3_2 642 r3 (nne rfl)).trans e43)
            have e45 : M41 642 r3 = v42 := ((w41_2 642 r3 (nne rfl)).trans e44)
            refine jr.iald (i := r3) (x := v42) rfl (nlt rfl) rfl (Nat.le_of_ble_eq_true rfl) (by omega) (by omega) e45 ?_
            refine jr_v rfl rfl (Or.inl rfl) rfl rfl (nlt rfl) rfl ⟨rfl, Nat.le_of_ble_eq_true rfl, Nat.le_of_ble_eq_true rfl⟩ rfl (jc.deep (r_layTwo_x hI_M41 hH_M41 hS_M41  (by omega) (by omega) (by omega)  (fun M46 hI_M46 hH_M46 hS_M46  w46_0 w46_1 w46_2 => ?_)) (Nat.le_of_ble_eq_true rfl))
            refine jr.goto rfl rfl ?_
            refine jr.aload_n rfl rfl ?_
            refine jr.iload_n rfl rfl ?_
            refine jr.aload_n rfl rfl ?_
            have e47 : M41 598 65 = ea := ((w41_2 598 65 (nne rfl)).trans e8)
            have e48 : M46 598 65 = ea := ((w46_2 598 65 (nne rfl)).trans e47)
            refine jr.getf (i := 65) (x := ea) (v := .int (Int32.ofInt (ea))) rfl rfl (nlt rfl) rfl (nlt rfl) rfl rfl e48 rfl ?_
            have e50 : M1 600 x = v2 := ((w1_2 600 x (nne rfl) (nne rfl) (nne rfl) (nne rfl)).trans e2)
            have e51 : M3 600 x = v2 := ((w3_2 600 x (nne rfl)).trans e50)
            have e52 : M41 600 x = v2 := ((w41_2 600 x (nne rfl)).trans e51)
            have e53 : M46 600 x = v2 := ((w46_2 600 x (nne rfl)).trans e52)
            refine jr_v rfl rfl (Or.inl rfl) rfl rfl (nlt rfl) rfl ⟨rfl, Nat.le_of_ble_eq_true rfl, Nat.le_of_ble_eq_true rfl⟩ rfl (jc.deep (r_right_x hI_M46 hH_M46 hS_M46  (by omega) (by omega) (HT.fr1 (HT.fr1 (HT.q w1_1.1 (fun b i hb => w3_2 b i hb) (w3_3 6 (zne rfl))) w41_2) w46_2) (by omega) (e53.trans e2.symm) (fun r49 M49 hI_M49 hH_M49 hS_M49  z49 w49_0 w49_1 w49_2 => ?_)) (Nat.le_of_ble_eq_true rfl))
            refine jr.istore (ls' := [_, _, _, _, _, _]) rfl (nlt rfl) rfl ?_
            refine jr.aload_n rfl rfl ?_
            refine jr.iload_n rfl rfl ?_
            refine jr.iload_n rfl rfl ?_
            have e55 : M49 600 x = v2 := ((w49_2 600 x (nne rfl)).trans e53)
            refine jr_v rfl rfl (Or.inl rfl) rfl rfl (nlt rfl) rfl ⟨rfl, Nat.le_of_ble_eq_true rfl, Nat.le_of_ble_eq_true rfl⟩ rfl (jc.deep (r_right_x hI_M49 hH_M49 hS_M49  (by omega) (by omega) (HT.fr1 (HT.fr1 (HT.fr1 (HT.q w1_1.1 (fun b i hb => w3_2 b i hb) (w3_3 6 (zne rfl))) w41_2) w46_2) w49_2) (by omega) (e55.trans e2.symm) (fun r54 M54 hI_M54 hH_M54 hS_M54  z54 w54_0 w54_1 w54_2 => ?_)) (Nat.le_of_ble_eq_true rfl))
            refine jr.istore (ls' := [_, _, _, _, _, _]) rfl (nlt rfl) rfl ?_
            refine jr.aload_n rfl rfl ?_
            have e56 : M41 598 66 = v11 := ((w41_2 598 66 (nne rfl)).trans e11)
            have e57 : M46 598 66 = v11 := ((w46_2 598 66 (nne rfl)).trans e56)
            have e58 : M49 598 66 = v11 := ((w49_2 598 66 (nne rfl)).trans e57)
            have e59 : M54 598 66 = v11 := ((w54_2 598 66 (nne rfl)).trans e58)
            refine jr.getf (i := 66) (x := v11) (v := .int (Int32.ofInt (v11))) rfl rfl (nlt rfl) rfl (nlt rfl) rfl rfl e59 rfl ?_
            exact jr.ireturn rfl rfl rfl (q _ _ hI_M54 hH_M54 hS_M54  (by omega) (TU6.n ⟨⟨by omega, by omega⟩, by omega⟩ (by omega) w1_1 w1_2 (w1_3 2 (zne rfl) (zne rfl) (zne rfl) (zne rfl) (zne rfl) (zne rfl) (zne rfl) (zne rfl) (zne rfl) (zne rfl) (zne rfl)) w3_1.1 w3_2 w3_3 (by have hn : r7 = ntf (rf M x) (M 600 x) (M1 598 6) := w7_3; have hr66 : sd6 M1 r3 = v11 := (by rw [← (w3_1.2.resolve_left (by omega)), e11]); have ha1 : hY (rf M x) (M 600 x) r7 = v36 := (by rw [← (HT.f (HT.q w1_1.1 (fun b i hb => w3_2 b i hb) (w3_3 6 (zne rfl))) (x := r7) (by omega)).2.1]; exact e37); have ha2 : hY (rf M x) (M 600 x) ea = v9 := (by rw [← (HT.f (HT.q w1_1.1 (fun b i hb => w3_2 b i hb) (w3_3 6 (zne rfl))) (x := ea) (by omega)).2.1]; exact e10); exact Or.inr ⟨⟨by omega, by rw [e6]; omega⟩, by rw [hr66], (by rw [(show M1 598 65 = ea from hea), ← hn, w54_0.2, w49_0.2, w46_0, w41_0, (show rf M3 x = rf M x from rf_e (fun i => (w3_2 601 i (nne rfl)).trans (w1_2 601 i (nne rfl) (nne rfl) (nne rfl) (nne rfl))))]; unfold tuF; rw [ha1, ha2]; simp only [if_pos (show v11 = 0 by omega)]; rw [e40, e44]; first | done | rfl | (congr 3; omega)), (fun j hj => (w54_1 j hj).trans ((w49_1 j hj).trans ((w46_1 j hj).trans ((w41_1 j hj).trans ((fun i => (w3_2 601 i (nne rfl)).trans (w1_2 601 i (nne rfl) (nne rfl) (nne rfl) (nne rfl))) j)))))⟩)) (fun a i f598 f601 f603 f604 f605 => ((w54_2 a i f601).trans ((w49_2 a i f601).trans ((w46_2 a i f601).trans ((w41_2 a i f601).trans ((w3_2 a i f598).trans ((w1_2 a i f598 f603 f604 f605).trans rfl))))))) (fun i g6 g10 g11 g12 g59 g60 g61 g62 g63 g64 g65 g66 => ((w54_2 598 i (nne rfl)).trans ((w49_2 598 i (nne rfl)).trans ((w46_2 598 i (nne rfl)).trans ((w41_2 598 i (nne rfl)).trans ((w3_3 i g66).trans ((w1_3 i g6 g10 g11 g12 g59 g60 g61 g62 g63 g64 g65).trans rfl))))))))
        · refine jr.bipush rfl (by decide) ?_
          exact jr.ireturn rfl rfl rfl (q _ _ hI_M3 hH_M3 hS_M3  (by first | exact rgq rfl | omega) (TU6.n ⟨⟨by omega, by omega⟩, by omega⟩ (by omega) w1_1 w1_2 (w1_3 2 (zne rfl) (zne rfl) (zne rfl) (zne rfl) (zne rfl) (zne rfl) (zne rfl) (zne rfl) (zne rfl) (zne rfl) (zne rfl)) w3_1.1 w3_2 w3_3 (by exact Or.inl ⟨Or.inr (by rw [e6]; omega), rfl, (fun i => (w3_2 601 i (nne rfl)).trans (w1_2 601 i (nne rfl) (nne rfl) (nne rfl) (nne rfl)))⟩)) (fun a i f598 f601 f603 f604 f605 => ((w3_2 a i f598).trans ((w1_2 a i f598 f603 f604 f605).trans rfl))) (fun i g6 g10 g11 g12 g59 g60 g61 g62 g63 g64 g65 g66 => ((w3_3 i g66).trans ((w1_3 i g6 g10 g11 g12 g59 g60 g61 g62 g63 g64 g65).trans rfl))))
    · refine jr.bipush rfl (by decide) ?_
      exact jr.ireturn rfl rfl rfl (q _ _ hI_M1 hH_M1 hS_M1  (by first | exact rgq rfl | omega) (TU6.h0 ⟨⟨by omega, by omega⟩, by omega⟩ (by omega) w1_1 w1_2) (fun a i f598 f601 f603 f604 f605 => ((w1_2 a i f598 f603 f604 f605).trans rfl)) (fun i g6 g10 g11 g12 g59 g60 g61 g62 g63 g64 g65 g66 => ((w1_3 i g6 g10 g11 g12 g59 g60 g61 g62 g63 g64 g65).trans rfl)))
  · refine jr.if_ne rfl rfl (by first | exact rgl rfl | omega) (fun h => absurd h (by decide)) (fun _ => ?_)
    refine jr.bipush rfl (by decide) ?_
    exact jr.ireturn rfl rfl rfl (q _ _ hI_M hH_M hS_M  (by first | exact rgq rfl | omega) (Or.inl ⟨by omega, rfl, rfl⟩) (fun a i f598 f601 f603 f604 f605 => rfl) (fun i g6 g10 g11 g12 g59 g60 g61 g62 g63 g64 g65 g66 => rfl))
end
section
/-! ===== the class: turn ===== -/
theorem HS2.p {T M : jm} {t : Nat} {f g : Int → Int} {N S y n v : Int} (h : HS2 T t f g N) (hk : kd t = 18) (hS : T t 7 = S) (k1 : kd S.toNat = 33) (w : PN T M (S.toNat + 1) y n v n 400) : HS2 M t f (ptn g y n v) N := HS2.o h hk hS k1 w.2 (PN.by8 w (byM h hS))
theorem HS2.m {T M : jm} {t : Nat} {f g g2 : Int → Int} {N S : Int} {p : Prop} (h : HS2 T t f g N) (hk : kd t = 18) (hS : T t 7 = S) (k1 : kd S.toNat = 33) (w : p ∧ BY8 M (S.toNat + 1) g2 ∧ OR1 T M (S.toNat + 1)) : HS2 M t f g2 N := HS2.o h hk hS k1 w.2.2 w.2.1
theorem FND.n {T E : jm} {f : Int → Int} {N C F : Int} (h : FND T E f N C F 1) (h5 : E 15 5 = 0) (hC : 0 ≤ C) : (0 ≤ E 15 3 ∧ E 15 3 < C) ∧ (0 ≤ E 15 4 ∧ E 15 4 < C) := by
  refine ⟨?_, (FND.k h h5).1⟩
  rcases h with h | h
  · exact absurd h.2.1 (by decide)
  · rw [h.2.2.2.1.1]
    have q := h.1.2.1
    rcases ntf_r (f := f) (N := N) (C := C) hC with u | u
    · exact absurd u q
    · exact u.1
noncomputable def RWQ (T M : jm) (f : Int → Int) (N C F : Int) (V : Nat) (S r : Int) : Prop := (FND T M f N C F 0 ∧ r = -4) ∨ ∃ E : jm, FND T E f N C F 1 ∧ ((E 15 5 ≠ 0 ∧ r = -4 ∧ M = E) ∨ (E 15 5 = 0 ∧ (feF E V 24 0 = -1 ∨ E (xe V (feF E V 24 0)) 13 = -1) ∧ r = -4 ∧ M = E) ∨ (E 15 5 = 0 ∧ (feF E V 24 0 ≠ -1 ∧ E (xe V (feF E V 24 0)) 13 ≠ -1) ∧ r = sdF E (xe V (feF E V 24 0)) 18 ∧ BY8 M (S.toNat + 1) (tuF f N C (E 15 3) (E 15 4) r (if r = 0 then E (xe V (feF E V 24 0)) 14 else E (xe V (feF E V 24 0) + 1) 0) (if r = 0 then E (xe V (feF E V 24 0)) 15 else E (xe V (feF E V 24 0) + 2) 0)) ∧ OR1 E M (S.toNat + 1)))
noncomputable def W_c_Flows_rewrite_x : List (Nat × Nat) := [(1, 1), (1, 2), (2, 1000), (7, 1000), (9, 3), (9, 4), (9, 5), (34, 1000)]
theorem c_Flows_rewrite_x {A : Nat → Option (Nat × (Nat → Int32))} {Q : Option Value → jm → Prop} {f : Int → Int} {N : Int} {T : jm} {M : jm} (hC_M : CI M) (ht_M : FR W_c_Flows_rewrite_x T M) {C : Int} (g_C : M 3 3 = C) {F : Int} (g_F : M 3 4 = F) {S : Int} (g_S : M 3 7 = S) {V : Int} (g_V : M 15 0 = V) (p0 : T = M) (p1 : HS M 3 f N) (q : ∀ (r : Int) (M' : jm), CI M' → FR W_c_Flows_rewrite_x T M' → (-4) ≤ r ∧ r ≤ 1 → (RWQ T M' f N C F V.toNat S r) → Q (some (.int (Int32.ofInt r))) M') : jc A 6 82 [.ref (15), .ref (3)] M Q := by
  refine jc_of (m := xm_82) rfl (Nat.le_of_ble_eq_true rfl) rfl ?_
  have b_C : 0 ≤ C ∧ C ≤ 12 := by rw [← g_C]; exact (CI.r hC_M (show kd 3 = 18 from rfl) (by decide) 3)
  have b_F : (-2147483648) ≤ F ∧ F ≤ 2147483647 := by rw [← g_F]; exact (CI.r hC_M (show kd 3 = 18 from rfl) (by decide) 4)
  have k_S : kd S.toNat = 33 := (congrArg (fun z : Int => kd z.toNat) g_S).symm.trans (CI.x hC_M (show kd 3 = 18 from rfl) 7 rfl (by decide))
  have b_V : 16 ≤ V ∧ V ≤ 17 := by rw [← g_V]; exact (CI.r hC_M (show kd 15 = 9 from rfl) (by decide) 0)
  refine jr.aload_n rfl rfl ?_
  refine jr.aload_n rfl rfl ?_
  refine jr_v rfl rfl (Or.inl rfl) rfl rfl (nlt rfl) rfl ⟨rfl, Nat.le_of_ble_eq_true rfl, Nat.le_of_ble_eq_true rfl⟩ rfl (jc.deep (c_Flows_findEnds_x hC_M (FR.rfl _ M)  g_C g_F rfl p1 (fun r1 M1 hC_M1 hf_M1 z1 w1_0 => ?_)) (Nat.le_of_ble_eq_true rfl))
  have ht_M1 : FR W_c_Flows_rewrite_x T M1 := FR.t ht_M hf_M1 (kw_sub rfl)
  refine jr.if_eq rfl rfl (by first | (refine rgb (by assumption) ?_; exact rfl) | omega) (fun h5 => ?_) (fun h5 => ?_)
  · refine jr.bipush rfl (by decide) ?_
    exact jr.ireturn rfl rfl rfl (q _ _ hC_M1 ht_M1 (by first | exact rgq rfl | omega) (by rw [p0]; exact Or.inl ⟨by have h9 := w1_0; rw [show r1 = 0 from by omega] at h9; exact h9, rfl⟩))
  · have sx5 : (1 : Int) ≤ r1 := by omega
    clear h5
    refine jr.aload_n rfl rfl ?_
    obtain ⟨v2, e2⟩ : ∃ z_, M1 15 5 = z_ := ⟨_, rfl⟩
    have b2 : 0 ≤ v2 ∧ v2 ≤ 1 := by rw [← e2]; exact (CI.r hC_M1 (show kd 15 = 9 from rfl) (by decide) 5)
    refine jr.getf (i := 5) (x := v2) (v := .int (Int32.ofInt (v2))) rfl rfl (nlt rfl) rfl (nlt rfl) rfl rfl e2 rfl ?_
    refine jr.if_eq rfl rfl (by first | (refine rgb (by assumption) ?_; exact rfl) | omega) (fun h12 => ?_) (fun h12 => ?_)
    · refine jr.aload_n rfl rfl ?_
      have e4 : M1 15 0 = V := (hf_M1.g (show kd 15 = 9 from rfl) rfl).trans g_V
      refine jr_v rfl rfl (Or.inl rfl) rfl rfl (nlt rfl) rfl ⟨rfl, Nat.le_of_ble_eq_true rfl, Nat.le_of_ble_eq_true rfl⟩ rfl (jc.deep (c_Flows_flowOfEnds_x hC_M1  e4 (fun r3 z3 w3_0 => ?_)) (Nat.le_of_ble_eq_true rfl))
      have hfr := feF_r M1 V.toNat 24 0 (by decide)
      rw [← w3_0] at hfr
      refine jr.istore_n (ls' := [_, _, _]) rfl (nlt rfl) rfl ?_
      refine jr.iload_n rfl rfl ?_
      refine jr.iconst rfl ?_
      refine jr.icmp_eq rfl rfl (by first | (refine rgb (by assumption) ?_; exact rfl) | omega) (rgl rfl) (fun h25 => ?_) (fun h25 => ?_)
      · refine jr.bipush rfl (by decide) ?_
        exact jr.ireturn rfl rfl rfl (q _ _ hC_M1 ht_M1 (by first | exact rgq rfl | omega) (by rw [p0]; exact Or.inr ⟨M1, (show FND M M1 f N C F 1 from by have h9 := w1_0; rw [show r1 = 1 from by omega] at h9; exact h9), Or.inr (Or.inl ⟨by rw [e2]; omega, by rw [← w3_0]; exact Or.inl (by omega), rfl, rfl⟩)⟩))
      · have sx25 : (0 : Int) ≤ r3 := by omega
        clear h25
        refine jr.aload_n rfl rfl ?_
        have k5 : kd (V).toNat = 13 := by rcases (show V = 16 ∨ V = 17 by omega) with h | h <;> (rw [h]; rfl)
        refine jr.getf (i := 0) (x := V) (v := .ref (V.toNat)) rfl rfl (nlt rfl) rfl (nlt rfl) rfl rfl e4 rfl ?_
        refine jr.iload_n rfl rfl ?_
        have k6 := kxe_13 k5 (i := r3) (by omega) (by omega)
        refine jr.aald (c := (xe ((V.toNat)) r3)) rfl (Nat.lt_trans (kx_13 k5).1 (by decide)) (kx_13 k5).2 (by decide) (by decide) rfl (by decide) (by omega) (by omega) k6.1 ?_
        obtain ⟨v7, e7⟩ : ∃ z_, M ((xe ((V.toNat)) r3)) 13 = z_ := ⟨_, rfl⟩
        have b7 : (-2147483648) ≤ v7 ∧ v7 ≤ 2147483647 := by rw [← e7]; exact (CI.r hC_M k6.2 (by decide) 13)
        have e8 : M1 ((xe ((V.toNat)) r3)) 13 = v7 := (hf_M1.g k6.2 rfl).trans e7
        refine jr.getf (i := 13) (x := v7) (v := .int (Int32.ofInt (v7))) rfl rfl (Nat.lt_trans (kx_1 k6.2).1 (by decide)) (kx_1 k6.2).2 (by decide) rfl rfl e8 rfl ?_
        refine jr.iconst rfl ?_
        refine jr.icmp_ne rfl rfl (by first | (refine rgb (by assumption) ?_; exact rfl) | omega) (rgl rfl) (fun h38 => ?_) (fun h38 => ?_)
        · refine jr.aload_n rfl rfl ?_
          have k9 : kd (V).toNat = 13 := by rcases (show V = 16 ∨ V = 17 by omega) with h | h <;> (rw [h]; rfl)
          refine jr.getf (i := 0) (x := V) (v := .ref (V.toNat)) rfl rfl (nlt rfl) rfl (nlt rfl) rfl rfl e4 rfl ?_
          refine jr.iload_n rfl rfl ?_
          have k10 := kxe_13 k9 (i := r3) (by omega) (by omega)
          refine jr.aald (c := (xe ((V.toNat)) r3)) rfl (Nat.lt_trans (kx_13 k9).1 (by decide)) (kx_13 k9).2 (by decide) (by decide) rfl (by decide) (by omega) (by omega) k10.1 ?_
          refine jr.astore_n (ls' := [_, _, _, _]) rfl (nlt rfl) rfl ?_
          refine jr.aload_n rfl rfl ?_
          refine jr.aload_n rfl rfl ?_
          refine jr.getf (i := 2) (v := .ref 18) rfl rfl (nlt rfl) rfl (nlt rfl) rfl rfl rfl rfl ?_
          refine jr_v rfl rfl (Or.inl rfl) rfl rfl (Nat.lt_trans (kx_1 k10.2).1 (by decide)) (kx_1 k10.2).2 ⟨rfl, Nat.le_of_ble_eq_true rfl, Nat.le_of_ble_eq_true rfl⟩ rfl (jc.deep (c_Flow_sideOf_x hC_M1 k10.2 (show kd 18 = 1 from rfl) (fun r11 z11 w11_0 => ?_)) (Nat.le_of_ble_eq_true rfl))
          obtain ⟨v12, e12⟩ : ∃ z_, M1 15 4 = z_ := ⟨_, rfl⟩
          have b12 : (-2147483648) ≤ v12 ∧ v12 ≤ 2147483647 := by rw [← e12]; exact (CI.r hC_M1 (show kd 15 = 9 from rfl) (by decide) 4)
          obtain ⟨v13, e13⟩ : ∃ z_, M1 15 3 = z_ := ⟨_, rfl⟩
          have b13 : (-2147483648) ≤ v13 ∧ v13 ≤ 2147483647 := by rw [← e13]; exact (CI.r hC_M1 (show kd 15 = 9 from rfl) (by decide) 3)
          have hsd : 0 ≤ r11 ∧ r11 ≤ 1 := (by have h9 := (hfr.resolve_left (by omega)).2; rw [← w11_0] at h9; omega)
          have hin := FND.n (show FND M M1 f N C F 1 from by have h9 := w1_0; rw [show r1 = 1 from by omega] at h9; exact h9) (by rw [e2]; omega) (by omega)
          rw [e13, e12] at hin
          refine jr.istore (ls' := [_, _, _, _, _]) rfl (nlt rfl) rfl ?_
          refine jr.aload_n rfl rfl ?_
          have e14 : M1 3 7 = S := (hf_M1.g (show kd 3 = 18 from rfl) rfl).trans g_S
          refine jr.getf (i := 7) (x := S) (v := .ref (S.toNat)) rfl rfl (nlt rfl) rfl (nlt rfl) rfl rfl e14 rfl ?_
          have k16 := kf_33_0 k_S
          refine jr.getf (i := 0) (v := .ref ((S.toNat) + 1)) rfl rfl (Nat.lt_trans (kx_33 k_S).1 (by decide)) (kx_33 k_S).2 (by decide) rfl rfl rfl (jval_ref rfl k16.1) ?_
          refine jr.astore (ls' := [_, _, _, _, _, _]) rfl (nlt rfl) rfl ?_
          refine jr.aload_n rfl rfl ?_
          refine jr.aload_n rfl rfl ?_
          refine jr.getf (i := 3) (x := v13) (v := .int (Int32.ofInt (v13))) rfl rfl (nlt rfl) rfl (nlt rfl) rfl rfl e13 rfl ?_
          have e18 : M1 3 3 = C := (hf_M1.g (show kd 3 = 18 from rfl) rfl).trans g_C
          refine jr_v rfl rfl (Or.inl rfl) rfl rfl (nlt rfl) rfl ⟨rfl, Nat.le_of_ble_eq_true rfl, Nat.le_of_ble_eq_true rfl⟩ rfl (jc.deep (c_Headers_placeAt_x hC_M1 (show kd 3 = 18 from rfl) (by omega) e18 (HS.fr p1 (show kd 3 = 18 from rfl) hC_M hf_M1 rfl) (fun r17 z17 w17_0 => ?_)) (Nat.le_of_ble_eq_true rfl))
          refine jr.iload rfl rfl ?_
          refine jr.if_ne rfl rfl (by first | (refine rgb (by assumption) ?_; exact rfl) | omega) (fun h80 => ?_) (fun h80 => ?_)
          · have sx80 : (1 : Int) ≤ r11 := by omega
            clear h80
            refine jr.bipush rfl (jbp _ (nlt rfl)) ?_
            refine jr.iadd rfl ?_
            refine jr.istore (ls' := [_, _, _, _, _, _, _]) rfl (nlt rfl) rfl ?_
            refine jr.aload_n rfl rfl ?_
            refine jr.aload_n rfl rfl ?_
            refine jr.getf (i := 4) (x := v12) (v := .int (Int32.ofInt (v12))) rfl rfl (nlt rfl) rfl (nlt rfl) rfl rfl e12 rfl ?_
            refine jr_v rfl rfl (Or.inl rfl) rfl rfl (nlt rfl) rfl ⟨rfl, Nat.le_of_ble_eq_true rfl, Nat.le_of_ble_eq_true rfl⟩ rfl (jc.deep (c_Headers_placeAt_x hC_M1 (show kd 3 = 18 from rfl) (by omega) e18 (HS.fr p1 (show kd 3 = 18 from rfl) hC_M hf_M1 rfl) (fun r19 z19 w19_0 => ?_)) (Nat.le_of_ble_eq_true rfl))
            refine jr.iload rfl rfl ?_
            refine jr.if_ne rfl rfl (by first | (refine rgb (by assumption) ?_; exact rfl) | omega) (fun h103 => ?_) (fun h103 => ?_)
            · refine jr.iconst rfl ?_
              refine jr.iadd rfl ?_
              refine jr.istore (ls' := [_, _, _, _, _, _, _, _]) rfl (nlt rfl) rfl ?_
              refine jr.aload rfl rfl ?_
              refine jr.iload rfl rfl ?_
              refine jr.iconst rfl ?_
              refine jr.iload rfl rfl ?_
              refine jr.if_ne rfl rfl (by first | (refine rgb (by assumption) ?_; exact rfl) | omega) (fun h121 => ?_) (fun h121 => ?_)
              · refine jr.aload_n rfl rfl ?_
                have k20 := kf_1_3 k10.2
                refine jr.getf (i := 3) (v := .ref ((xe ((V.toNat)) r3) + 1)) rfl rfl (Nat.lt_trans (kx_1 k10.2).1 (by decide)) (kx_1 k10.2).2 (by decide) rfl rfl rfl (jval_ref rfl k20.1) ?_
                refine jr.iconst rfl ?_
                obtain ⟨v21, e21⟩ : ∃ z_, M1 (((xe ((V.toNat)) r3) + 1)) 0 = z_ := ⟨_, rfl⟩
                have b21 : (-9223372036854775808) ≤ v21 ∧ v21 ≤ 9223372036854775807 := by rw [← e21]; exact (CI.r hC_M1 k20.2 (by decide) 0)
                refine jr.lald (i := 0) (x := v21) rfl (Nat.lt_trans (kx_2 k20.2).1 (by decide)) (kx_2 k20.2).2 (by decide) (by omega) (by omega) e21 ?_
                refine jr_s rfl rfl (Or.inr rfl) ⟨Nat.le_of_ble_eq_true rfl, Nat.le_of_ble_eq_true rfl⟩ rfl rfl (jc.deep (c_PacketWall_putNumber_pf hC_M1 (FR.rfl _ M1) k16.2 (by omega) (by omega) (by omega) rfl (fun M22 hC_M22 hf_M22 w22_0 => ?_)) (Nat.le_of_ble_eq_true rfl))
                have ht_M22 : FR W_c_Flows_rewrite_x T M22 := FR.t ht_M1 hf_M22 (kw_sub rfl)
                refine jr.aload rfl rfl ?_
                refine jr.iload rfl rfl ?_
                refine jr.iconst rfl ?_
                refine jr.iload rfl rfl ?_
                refine jr.if_ne rfl rfl (by first | (refine rgb (by assumption) ?_; exact rfl) | omega) (fun h147 => ?_) (fun h147 => ?_)
                · refine jr.aload_n rfl rfl ?_
                  have k23 := kf_1_4 k10.2
                  refine jr.getf (i := 4) (v := .ref ((xe ((V.toNat)) r3) + 2)) rfl rfl (Nat.lt_trans (kx_1 k10.2).1 (by decide)) (kx_1 k10.2).2 (by decide) rfl rfl rfl (jval_ref rfl k23.1) ?_
                  refine jr.iconst rfl ?_
                  obtain ⟨v24, e24⟩ : ∃ z_, M1 (((xe ((V.toNat)) r3) + 2)) 0 = z_ := ⟨_, rfl⟩
                  have b24 : (-2147483648) ≤ v24 ∧ v24 ≤ 2147483647 := by rw [← e24]; exact (CI.r hC_M1 k23.2 (by decide) 0)
                  have e25 : M22 (((xe ((V.toNat)) r3) + 2)) 0 = v24 := (hf_M22.g k23.2 rfl).trans e24
                  refine jr.iald (i := 0) (x := v24) rfl (Nat.lt_trans (kx_7 k23.2).1 (by decide)) (kx_7 k23.2).2 (by decide) (by omega) (by omega) e25 ?_
                  refine jr.i2l rfl (by omega) ?_
                  refine jr_s rfl rfl (Or.inr rfl) ⟨Nat.le_of_ble_eq_true rfl, Nat.le_of_ble_eq_true rfl⟩ rfl rfl (jc.deep (c_PacketWall_putNumber_pf hC_M22 (FR.rfl _ M22) k16.2 (by omega) (by omega) (by omega) rfl (fun M26 hC_M26 hf_M26 w26_0 => ?_)) (Nat.le_of_ble_eq_true rfl))
                  have ht_M26 : FR W_c_Flows_rewrite_x T M26 := FR.t ht_M22 hf_M26 (kw_sub rfl)
                  refine jr.aload_n rfl rfl ?_
                  refine jr.aload_n rfl rfl ?_
                  have e27 : M22 15 4 = v12 := (hf_M22.g (show kd 15 = 9 from rfl) rfl).trans e12
                  have e28 : M26 15 4 = v12 := (hf_M26.g (show kd 15 = 9 from rfl) rfl).trans e27
                  refine jr.getf (i := 4) (x := v12) (v := .int (Int32.ofInt (v12))) rfl rfl (nlt rfl) rfl (nlt rfl) rfl rfl e28 rfl ?_
                  have e30 : M22 3 3 = C := (hf_M22.g (show kd 3 = 18 from rfl) rfl).trans e18
                  have e31 : M26 3 3 = C := (hf_M26.g (show kd 3 = 18 from rfl) rfl).trans e30
                  have e32 : M22 3 7 = S := (hf_M22.g (show kd 3 = 18 from rfl) rfl).trans e14
                  have e33 : M26 3 7 = S := (hf_M26.g (show kd 3 = 18 from rfl) rfl).trans e32
                  have k29_S : kd (S).toNat = 33 := (congrArg (fun z : Int => kd z.toNat) e33).symm.trans (CI.x hC_M26 (show kd 3 = 18 from rfl) 7 rfl (by decide))
                  refine jr_v rfl rfl (Or.inl rfl) rfl rfl (nlt rfl) rfl ⟨rfl, Nat.le_of_ble_eq_true rfl, Nat.le_of_ble_eq_true rfl⟩ rfl (jc.deep (c_Headers_mend_x hC_M26 (FR.rfl _ M26) (show kd 3 = 18 from rfl) (by omega) e31 e33 rfl (HS2.p (HS2.p (HS.two (HS.fr p1 (show kd 3 = 18 from rfl) hC_M hf_M1 rfl)) (show kd 3 = 18 from rfl) e14 k_S w22_0) (show kd 3 = 18 from rfl) e32 k_S w26_0) (fun r29 M29 hC_M29 hf_M29 z29 w29_0 => ?_)) (Nat.le_of_ble_eq_true rfl))
                  have ht_M29 : FR W_c_Flows_rewrite_x T M29 := FR.t ht_M26 hf_M29 (kw_sub rfl)
                  refine jr.pop rfl rfl ?_
                  refine jr.aload_n rfl rfl ?_
                  refine jr.aload_n rfl rfl ?_
                  have e34 : M22 15 3 = v13 := (hf_M22.g (show kd 15 = 9 from rfl) rfl).trans e13
                  have e35 : M26 15 3 = v13 := (hf_M26.g (show kd 15 = 9 from rfl) rfl).trans e34
                  have e36 : M29 15 3 = v13 := (hf_M29.g (show kd 15 = 9 from rfl) rfl).trans e35
                  refine jr.getf (i := 3) (x := v13) (v := .int (Int32.ofInt (v13))) rfl rfl (nlt rfl) rfl (nlt rfl) rfl rfl e36 rfl ?_
                  have e38 : M29 3 3 = C := (hf_M29.g (show kd 3 = 18 from rfl) rfl).trans e31
                  have e39 : M29 3 7 = S := (hf_M29.g (show kd 3 = 18 from rfl) rfl).trans e33
                  have k37_S : kd (S).toNat = 33 := (congrArg (fun z : Int => kd z.toNat) e39).symm.trans (CI.x hC_M29 (show kd 3 = 18 from rfl) 7 rfl (by decide))
                  refine jr_v rfl rfl (Or.inl rfl) rfl rfl (nlt rfl) rfl ⟨rfl, Nat.le_of_ble_eq_true rfl, Nat.le_of_ble_eq_true rfl⟩ rfl (jc.deep (c_Headers_mend_x hC_M29 (FR.rfl _ M29) (show kd 3 = 18 from rfl) (by omega) e38 e39 rfl (HS2.m (HS2.p (HS2.p (HS.two (HS.fr p1 (show kd 3 = 18 from rfl) hC_M hf_M1 rfl)) (show kd 3 = 18 from rfl) e14 k_S w22_0) (show kd 3 = 18 from rfl) e32 k_S w26_0) (show kd 3 = 18 from rfl) e33 k_S w29_0) (fun r37 M37 hC_M37 hf_M37 z37 w37_0 => ?_)) (Nat.le_of_ble_eq_true rfl))
                  have ht_M37 : FR W_c_Flows_rewrite_x T M37 := FR.t ht_M29 hf_M37 (kw_sub rfl)
                  refine jr.pop rfl rfl ?_
                  refine jr.iload rfl rfl ?_
                  exact jr.ireturn rfl rfl rfl (q _ _ hC_M37 ht_M37 (by omega) (by rw [p0]; exact Or.inr ⟨M1, (show FND M M1 f N C F 1 from by have h9 := w1_0; rw [show r1 = 1 from by omega] at h9; exact h9), Or.inr (Or.inr ⟨by rw [e2]; omega, ⟨by rw [← w3_0]; omega, by rw [← w3_0, e8]; omega⟩, by rw [← w3_0, ← w11_0], (by rw [← w3_0, e13, e12]; simp only [if_neg (show r11 ≠ 0 by omega)]; rw [e21, e24]; have h9 := w37_0.2.1; unfold tuF; rw [show hY f N v13 = r17 from by rw [w17_0]; unfold pA; rw [if_pos (by omega)], show hY f N v12 = r19 from by rw [w19_0]; unfold pA; rw [if_pos (by omega)]]; simp only [if_neg (show r11 ≠ 0 by omega)]; exact h9), fun b k hb => (w37_0.2.2 b k hb).trans ((w29_0.2.2 b k hb).trans ((w26_0.2 b k hb).trans (w22_0.2 b k hb)))⟩)⟩))
                · exact absurd (by omega) h147
              · exact absurd (by omega) h121
            · exact absurd (by omega) h103
          · refine jr.bipush rfl (jbp _ (nlt rfl)) ?_
            refine jr.goto rfl rfl ?_
            refine jr.iadd rfl ?_
            refine jr.istore (ls' := [_, _, _, _, _, _, _]) rfl (nlt rfl) rfl ?_
            refine jr.aload_n rfl rfl ?_
            refine jr.aload_n rfl rfl ?_
            refine jr.getf (i := 4) (x := v12) (v := .int (Int32.ofInt (v12))) rfl rfl (nlt rfl) rfl (nlt rfl) rfl rfl e12 rfl ?_
            refine jr_v rfl rfl (Or.inl rfl) rfl rfl (nlt rfl) rfl ⟨rfl, Nat.le_of_ble_eq_true rfl, Nat.le_of_ble_eq_true rfl⟩ rfl (jc.deep (c_Headers_placeAt_x hC_M1 (show kd 3 = 18 from rfl) (by omega) e18 (HS.fr p1 (show kd 3 = 18 from rfl) hC_M hf_M1 rfl) (fun r40 z40 w40_0 => ?_)) (Nat.le_of_ble_eq_true rfl))
            refine jr.iload rfl rfl ?_
            refine jr.if_ne rfl rfl (by first | (refine rgb (by assumption) ?_; exact rfl) | omega) (fun h103 => ?_) (fun h103 => ?_)
            · exact absurd h103 (by omega)
            · refine jr.iconst rfl ?_
              refine jr.goto rfl rfl ?_
              refine jr.iadd rfl ?_
              refine jr.istore (ls' := [_, _, _, _, _, _, _, _]) rfl (nlt rfl) rfl ?_
              refine jr.aload rfl rfl ?_
              refine jr.iload rfl rfl ?_
              refine jr.iconst rfl ?_
              refine jr.iload rfl rfl ?_
              refine jr.if_ne rfl rfl (by first | (refine rgb (by assumption) ?_; exact rfl) | omega) (fun h121 => ?_) (fun h121 => ?_)
              · exact absurd h121 (by omega)
              · refine jr.aload_n rfl rfl ?_
                obtain ⟨v41, e41⟩ : ∃ z_, M ((xe ((V.toNat)) r3)) 14 = z_ := ⟨_, rfl⟩
                have b41 : (-9223372036854775808) ≤ v41 ∧ v41 ≤ 9223372036854775807 := by rw [← e41]; exact (CI.r hC_M k10.2 (by decide) 14)
                have e42 : M1 ((xe ((V.toNat)) r3)) 14 = v41 := (hf_M1.g k10.2 rfl).trans e41
                refine jr.getf (i := 14) (x := v41) (v := .long (Int64.ofInt (v41))) rfl rfl (Nat.lt_trans (kx_1 k10.2).1 (by decide)) (kx_1 k10.2).2 (by decide) rfl rfl e42 rfl ?_
                refine jr.goto rfl rfl ?_
                refine jr_s rfl rfl (Or.inr rfl) ⟨Nat.le_of_ble_eq_true rfl, Nat.le_of_ble_eq_true rfl⟩ rfl rfl (jc.deep (c_PacketWall_putNumber_pf hC_M1 (FR.rfl _ M1) k16.2 (by omega) (by omega) (by omega) rfl (fun M43 hC_M43 hf_M43 w43_0 => ?_)) (Nat.le_of_ble_eq_true rfl))
                have ht_M43 : FR W_c_Flows_rewrite_x T M43 := FR.t ht_M1 hf_M43 (kw_sub rfl)
                refine jr.aload rfl rfl ?_
                refine jr.iload rfl rfl ?_
                refine jr.iconst rfl ?_
                refine jr.iload rfl rfl ?_
                refine jr.if_ne rfl rfl (by first | (refine rgb (by assumption) ?_; exact rfl) | omega) (fun h147 => ?_) (fun h147 => ?_)
                · exact absurd h147 (by omega)
                · refine jr.aload_n rfl rfl ?_
                  obtain ⟨v44, e44⟩ : ∃ z_, M ((xe ((V.toNat)) r3)) 15 = z_ := ⟨_, rfl⟩
                  have b44 : (-2147483648) ≤ v44 ∧ v44 ≤ 2147483647 := by rw [← e44]; exact (CI.r hC_M k10.2 (by decide) 15)
                  have e45 : M1 ((xe ((V.toNat)) r3)) 15 = v44 := (hf_M1.g k10.2 rfl).trans e44
                  have e46 : M43 ((xe ((V.toNat)) r3)) 15 = v44 := (hf_M43.g k10.2 rfl).trans e45
                  refine jr.getf (i := 15) (x := v44) (v := .int (Int32.ofInt (v44))) rfl rfl (Nat.lt_trans (kx_1 k10.2).1 (by decide)) (kx_1 k10.2).2 (by decide) rfl rfl e46 rfl ?_
                  refine jr.i2l rfl (by omega) ?_
                  refine jr.goto rfl rfl ?_
                  refine jr_s rfl rfl (Or.inr rfl) ⟨Nat.le_of_ble_eq_true rfl, Nat.le_of_ble_eq_true rfl⟩ rfl rfl (jc.deep (c_PacketWall_putNumber_pf hC_M43 (FR.rfl _ M43) k16.2 (by omega) (by omega) (by omega) rfl (fun M47 hC_M47 hf_M47 w47_0 => ?_)) (Nat.le_of_ble_eq_true rfl))
                  have ht_M47 : FR W_c_Flows_rewrite_x T M47 := FR.t ht_M43 hf_M47 (kw_sub rfl)
                  refine jr.aload_n rfl rfl ?_
                  refine jr.aload_n rfl rfl ?_
                  have e48 : M43 15 4 = v12 := (hf_M43.g (show kd 15 = 9 from rfl) rfl).trans e12
                  have e49 : M47 15 4 = v12 := (hf_M47.g (show kd 15 = 9 from rfl) rfl).trans e48
                  refine jr.getf (i := 4) (x := v12) (v := .int (Int32.ofInt (v12))) rfl rfl (nlt rfl) rfl (nlt rfl) rfl rfl e49 rfl ?_
                  have e51 : M43 3 3 = C := (hf_M43.g (show kd 3 = 18 from rfl) rfl).trans e18
                  have e52 : M47 3 3 = C := (hf_M47.g (show kd 3 = 18 from rfl) rfl).trans e51
                  have e53 : M43 3 7 = S := (hf_M43.g (show kd 3 = 18 from rfl) rfl).trans e14
                  have e54 : M47 3 7 = S := (hf_M47.g (show kd 3 = 18 from rfl) rfl).trans e53
                  have k50_S : kd (S).toNat = 33 := (congrArg (fun z : Int => kd z.toNat) e54).symm.trans (CI.x hC_M47 (show kd 3 = 18 from rfl) 7 rfl (by decide))
                  refine jr_v rfl rfl (Or.inl rfl) rfl rfl (nlt rfl) rfl ⟨rfl, Nat.le_of_ble_eq_true rfl, Nat.le_of_ble_eq_true rfl⟩ rfl (jc.deep (c_Headers_mend_x hC_M47 (FR.rfl _ M47) (show kd 3 = 18 from rfl) (by omega) e52 e54 rfl (HS2.p (HS2.p (HS.two (HS.fr p1 (show kd 3 = 18 from rfl) hC_M hf_M1 rfl)) (show kd 3 = 18 from rfl) e14 k_S w43_0) (show kd 3 = 18 from rfl) e53 k_S w47_0) (fun r50 M50 hC_M50 hf_M50 z50 w50_0 => ?_)) (Nat.le_of_ble_eq_true rfl))
                  have ht_M50 : FR W_c_Flows_rewrite_x T M50 := FR.t ht_M47 hf_M50 (kw_sub rfl)
                  refine jr.pop rfl rfl ?_
                  refine jr.aload_n rfl rfl ?_
                  refine jr.aload_n rfl rfl ?_
                  have e55 : M43 15 3 = v13 := (hf_M43.g (show kd 15 = 9 from rfl) rfl).trans e13
                  have e56 : M47 15 3 = v13 := (hf_M47.g (show kd 15 = 9 from rfl) rfl).trans e55
                  have e57 : M50 15 3 = v13 := (hf_M50.g (show kd 15 = 9 from rfl) rfl).trans e56
                  refine jr.getf (i := 3) (x := v13) (v := .int (Int32.ofInt (v13))) rfl rfl (nlt rfl) rfl (nlt rfl) rfl rfl e57 rfl ?_
                  have e59 : M50 3 3 = C := (hf_M50.g (show kd 3 = 18 from rfl) rfl).trans e52
                  have e60 : M50 3 7 = S := (hf_M50.g (show kd 3 = 18 from rfl) rfl).trans e54
                  have k58_S : kd (S).toNat = 33 := (congrArg (fun z : Int => kd z.toNat) e60).symm.trans (CI.x hC_M50 (show kd 3 = 18 from rfl) 7 rfl (by decide))
                  refine jr_v rfl rfl (Or.inl rfl) rfl rfl (nlt rfl) rfl ⟨rfl, Nat.le_of_ble_eq_true rfl, Nat.le_of_ble_eq_true rfl⟩ rfl (jc.deep (c_Headers_mend_x hC_M50 (FR.rfl _ M50) (show kd 3 = 18 from rfl) (by omega) e59 e60 rfl (HS2.m (HS2.p (HS2.p (HS.two (HS.fr p1 (show kd 3 = 18 from rfl) hC_M hf_M1 rfl)) (show kd 3 = 18 from rfl) e14 k_S w43_0) (show kd 3 = 18 from rfl) e53 k_S w47_0) (show kd 3 = 18 from rfl) e54 k_S w50_0) (fun r58 M58 hC_M58 hf_M58 z58 w58_0 => ?_)) (Nat.le_of_ble_eq_true rfl))
                  have ht_M58 : FR W_c_Flows_rewrite_x T M58 := FR.t ht_M50 hf_M58 (kw_sub rfl)
                  refine jr.pop rfl rfl ?_
                  refine jr.iload rfl rfl ?_
                  exact jr.ireturn rfl rfl rfl (q _ _ hC_M58 ht_M58 (by omega) (by rw [p0]; exact Or.inr ⟨M1, (show FND M M1 f N C F 1 from by have h9 := w1_0; rw [show r1 = 1 from by omega] at h9; exact h9), Or.inr (Or.inr ⟨by rw [e2]; omega, ⟨by rw [← w3_0]; omega, by rw [← w3_0, e8]; omega⟩, by rw [← w3_0, ← w11_0], (by rw [← w3_0, e13, e12]; simp only [if_pos (show r11 = 0 by omega)]; rw [e42, e45]; have h9 := w58_0.2.1; unfold tuF; rw [show hY f N v13 = r17 from by rw [w17_0]; unfold pA; rw [if_pos (by omega)], show hY f N v12 = r40 from by rw [w40_0]; unfold pA; rw [if_pos (by omega)]]; simp only [if_pos (show r11 = 0 by omega)]; exact h9), fun b k hb => (w58_0.2.2 b k hb).trans ((w50_0.2.2 b k hb).trans ((w47_0.2 b k hb).trans (w43_0.2 b k hb)))⟩)⟩))
        · refine jr.bipush rfl (by decide) ?_
          exact jr.ireturn rfl rfl rfl (q _ _ hC_M1 ht_M1 (by first | exact rgq rfl | omega) (by rw [p0]; exact Or.inr ⟨M1, (show FND M M1 f N C F 1 from by have h9 := w1_0; rw [show r1 = 1 from by omega] at h9; exact h9), Or.inr (Or.inl ⟨by rw [e2]; omega, by rw [← w3_0]; exact Or.inr (by rw [e8]; omega), rfl, rfl⟩)⟩))
    · have sx12 : (1 : Int) ≤ v2 := by omega
      clear h12
      refine jr.bipush rfl (by decide) ?_
      exact jr.ireturn rfl rfl rfl (q _ _ hC_M1 ht_M1 (by first | exact rgq rfl | omega) (by rw [p0]; exact Or.inr ⟨M1, (show FND M M1 f N C F 1 from by have h9 := w1_0; rw [show r1 = 1 from by omega] at h9; exact h9), Or.inl ⟨by rw [e2]; omega, rfl, rfl⟩⟩))
noncomputable def W_c_PacketWall_turn_x : List (Nat × Nat) := [(1, 1), (1, 2), (2, 1000), (7, 1000), (9, 3), (9, 4), (9, 5), (18, 3), (18, 4), (18, 5), (18, 6), (18, 7), (19, 1000), (20, 1000), (21, 1000), (34, 1000)]
theorem c_PacketWall_turn_x {A : Nat → Option (Nat × (Nat → Int32))} {Q : Option Value → jm → Prop} {F : Int → Int → Int} {T : jm} {M : jm} (hC_M : CI M) (ht_M : FR W_c_PacketWall_turn_x T M) {x : Int} (h_x : (-2147483648) ≤ x ∧ x ≤ 2147483647) {V : Int} (g_V : M 15 0 = V) (p0 : T = M) (p1 : PBS M F) (q : ∀ (r : Int) (M' : jm), CI M' → FR W_c_PacketWall_turn_x T M' → (-4) ≤ r ∧ r ≤ 1 → (((x < 0 ∨ 23 < x ∨ T (xe 2 x) 1 = -1) ∧ r = -2 ∧ M' = T) ∨ (((0 ≤ x ∧ x ≤ 23) ∧ T (xe 2 x) 1 ≠ -1) ∧ ∃ (C : Int) (H : jm), HE (F x) (T (xe 2 x) 1) C ∧ (H 3 4 = 0 ↔ hX (F x) (T (xe 2 x) 1) C = -1) ∧ FR W_c_Headers_readAll_x T H ∧ H 3 7 = ((xe 2 x) : Nat) ∧ RWQ H M' (F x) (T (xe 2 x) 1) C (H 3 4) V.toNat (H 3 7) r)) → Q (some (.int (Int32.ofInt r))) M') : jc A 7 25 [.ref (0), .int (Int32.ofInt (x))] M Q := by
  refine jc_of (m := xm_25) rfl (Nat.le_of_ble_eq_true rfl) rfl ?_
  have b_V : 16 ≤ V ∧ V ≤ 17 := by rw [← g_V]; exact (CI.r hC_M (show kd 15 = 9 from rfl) (by decide) 0)
  refine jr.aload_n rfl rfl ?_
  refine jr.iload_n rfl rfl ?_
  refine jr_v rfl rfl (Or.inl rfl) rfl rfl (nlt rfl) rfl ⟨rfl, Nat.le_of_ble_eq_true rfl, Nat.le_of_ble_eq_true rfl⟩ rfl (jc.deep (c_PacketWall_isPacket_x hC_M (by omega) (fun r1 z1 w1_0 w1_1 => ?_)) (Nat.le_of_ble_eq_true rfl))
  refine jr.if_ne rfl rfl (by first | (refine rgb (by assumption) ?_; exact rfl) | omega) (fun h5 => ?_) (fun h5 => ?_)
  · have sx5 : (1 : Int) ≤ r1 := by omega
    clear h5
    refine jr.aload_n rfl rfl ?_
    refine jr.getf (i := 3) (v := .ref 3) rfl rfl (nlt rfl) rfl (nlt rfl) rfl rfl rfl rfl ?_
    refine jr.aload_n rfl rfl ?_
    refine jr.getf (i := 2) (v := .ref 2) rfl rfl (nlt rfl) rfl (nlt rfl) rfl rfl rfl rfl ?_
    refine jr.iload_n rfl rfl ?_
    have k2 := kxe_42 (a := 2) rfl (i := x) (by omega) (by omega)
    refine jr.aald (c := (xe 2 x)) rfl (by decide) rfl (by decide) (by decide) rfl (by decide) (by omega) (by omega) k2.1 ?_
    obtain ⟨v4, e4⟩ : ∃ z_, M ((xe 2 x)) 1 = z_ := ⟨_, rfl⟩
    have b4 : (-1) ≤ v4 ∧ v4 ≤ 400 := by rw [← e4]; exact (CI.r hC_M k2.2 (by decide) 1)
    refine jr_v rfl rfl (Or.inl rfl) rfl rfl (nlt rfl) rfl ⟨rfl, Nat.le_of_ble_eq_true rfl, Nat.le_of_ble_eq_true rfl⟩ rfl (jc.deep (c_Headers_readAll_x hC_M (FR.rfl _ M) (show kd 3 = 18 from rfl) k2.2 e4 (p1 x (by omega) (by omega)) (fun M3 hC_M3 hf_M3 w3_0 w3_1 w3_2 => ?_)) (Nat.le_of_ble_eq_true rfl))
    have ht_M3 : FR W_c_PacketWall_turn_x T M3 := FR.t ht_M hf_M3 (kw_sub rfl)
    refine jr.aload_n rfl rfl ?_
    refine jr.getf (i := 9) (v := .ref 15) rfl rfl (nlt rfl) rfl (nlt rfl) rfl rfl rfl rfl ?_
    refine jr.aload_n rfl rfl ?_
    refine jr.getf (i := 3) (v := .ref 3) rfl rfl (nlt rfl) rfl (nlt rfl) rfl rfl rfl rfl ?_
    obtain ⟨v6, e6⟩ : ∃ z_, M3 3 3 = z_ := ⟨_, rfl⟩
    have b6 : 0 ≤ v6 ∧ v6 ≤ 12 := by rw [← e6]; exact (CI.r hC_M3 (show kd 3 = 18 from rfl) (by decide) 3)
    obtain ⟨v7, e7⟩ : ∃ z_, M3 3 4 = z_ := ⟨_, rfl⟩
    have b7 : (-2147483648) ≤ v7 ∧ v7 ≤ 2147483647 := by rw [← e7]; exact (CI.r hC_M3 (show kd 3 = 18 from rfl) (by decide) 4)
    obtain ⟨v8, e8⟩ : ∃ z_, M3 3 7 = z_ := ⟨_, rfl⟩
    have b8 : 0 ≤ v8 ∧ v8 ≤ 597 := by rw [← e8]; exact (CI.r hC_M3 (show kd 3 = 18 from rfl) (by decide) 7)
    have k5_S : kd (v8).toNat = 33 := (congrArg (fun z : Int => kd z.toNat) e8).symm.trans (CI.x hC_M3 (show kd 3 = 18 from rfl) 7 rfl (by decide))
    have e9 : M3 15 0 = V := (hf_M3.g (show kd 15 = 9 from rfl) rfl).trans g_V
    refine jr_v rfl rfl (Or.inl rfl) rfl rfl (nlt rfl) rfl ⟨rfl, Nat.le_of_ble_eq_true rfl, Nat.le_of_ble_eq_true rfl⟩ rfl (jc.deep (c_Flows_rewrite_x hC_M3 (FR.rfl _ M3)  e6 e7 e8 e9 rfl ((w3_1.resolve_left (fun h => by omega)).2) (fun r5 M5 hC_M5 hf_M5 z5 w5_0 => ?_)) (Nat.le_of_ble_eq_true rfl))
    have ht_M5 : FR W_c_PacketWall_turn_x T M5 := FR.t ht_M3 hf_M5 (kw_sub rfl)
    exact jr.ireturn rfl rfl rfl (q _ _ hC_M5 ht_M5 (by omega) (Or.inr ⟨by rw [p0]; omega, by rw [p0, e4]; exact ⟨v6, M3, (by have hq := HQ.e ((w3_1.resolve_left (fun h => by omega)).2).2.2.2; rw [e6] at hq; exact hq), ⟨fun h => hxc_z ((w3_1.resolve_left (fun h => by omega)).2) e6 h, fun h => Decidable.byContradiction (fun u => hxc_n ((w3_1.resolve_left (fun h => by omega)).2) e6 u h)⟩, hf_M3, w3_2, by rw [e7, e8]; exact w5_0⟩⟩))
  · refine jr.bipush rfl (by decide) ?_
    exact jr.ireturn rfl rfl rfl (q _ _ hC_M ht_M (by first | exact rgq rfl | omega) (Or.inl ⟨by rw [p0]; omega, by omega, p0.symm⟩))
end
section
/-! ===== the table: rows as functions ===== -/
/-- the bytes of a row but its sum -/
noncomputable def xrB (n s p0 p1 w0 w1 a0 a1 l0 l1 u pk by_ : Int) (k : Int) : Int := if k = 0 then n % 256 else if k = 1 then s % 256 else if k < 4 then bt p0 (3 - k) else if k < 6 then bt p1 (5 - k) else if k < 8 then bt w0 (7 - k) else if k < 10 then bt w1 (9 - k) else if k < 18 then bt a0 (17 - k) else if k < 26 then bt a1 (25 - k) else if k < 30 then bt l0 (29 - k) else if k < 34 then bt l1 (33 - k) else if k < 38 then bt u (37 - k) else if k < 42 then bt pk (41 - k) else bt by_ (45 - k)
noncomputable def xrF (f : Int → Int) (y : Int) (B : Int → Int) : Int → Int := fun k => if y ≤ k ∧ k < y + 46 then B (k - y) else f k
/-- a row laid at y -/
noncomputable def rwl (f : Int → Int) (y : Int) (B : Int → Int) : Int → Int := ptn (xrF f y B) (y + 46) 2 (tn (sb (xrF f y B) y 46))
/-- rows of those that u names, one behind another -/
noncomputable def exL (u : Int → Int) (B : Int → Int → Int) (f : Int → Int) : Nat → (Int → Int) × Int
  | 0 => (f, 0)
  | n + 1 => if u n = 0 then exL u B f n else (rwl (exL u B f n).1 (exL u B f n).2 (B n), (exL u B f n).2 + 48)
theorem exL_s {u : Int → Int} {B : Int → Int → Int} {f : Int → Int} {i : Int} (h : 0 ≤ i) : exL u B f (i + 1).toNat = if u i = 0 then exL u B f i.toNat else (rwl (exL u B f i.toNat).1 (exL u B f i.toNat).2 (B i), (exL u B f i.toNat).2 + 48) := by
  obtain ⟨n, rfl⟩ := Int.eq_ofNat_of_zero_le h
  rw [show ((n : Int) + 1).toNat = n + 1 by omega, show ((n : Int)).toNat = n by omega]
  rfl
theorem exL_r (u : Int → Int) (B : Int → Int → Int) (f : Int → Int) : ∀ n : Nat, 0 ≤ (exL u B f n).2 ∧ (exL u B f n).2 ≤ 48 * n := by
  intro n
  induction n with
  | zero => exact ⟨Int.le_refl _, Int.le_refl _⟩
  | succ n ih =>
    unfold exL
    split
    · omega
    · show 0 ≤ (exL u B f n).2 + 48 ∧ (exL u B f n).2 + 48 ≤ _
      omega
theorem exL_e {u u2 : Int → Int} {B B2 : Int → Int → Int} {f : Int → Int} (n : Nat) (h : ∀ i : Int, 0 ≤ i → i < n → u i = u2 i ∧ (u i ≠ 0 → B i = B2 i)) : exL u B f n = exL u2 B2 f n := by
  induction n with
  | zero => rfl
  | succ n ih =>
    have q := h n (by omega) (by omega)
    have e := ih (fun i h0 h1 => h i h0 (by omega))
    unfold exL
    by_cases z : u n = 0
    · rw [if_pos z, if_pos (by rw [← q.1]; exact z), e]
    · rw [if_neg z, if_neg (by rw [← q.1]; exact z), e, q.2 z]
noncomputable def ly0 (f : Int → Int) (y n s : Int) : Int → Int := ptn (ptn f y 1 n) (y + 1) 1 s
noncomputable def lyS (f : Int → Int) (y p w a l i : Int) : Int → Int := ptn (ptn (ptn (ptn f (y + 2 + 2 * i) 2 p) (y + 6 + 2 * i) 2 w) (y + 10 + 8 * i) 8 a) (y + 26 + 4 * i) 4 l
noncomputable def lyI (f : Int → Int) (y : Int) (p w a l : Int → Int) : Nat → Int → Int
  | 0 => f
  | n + 1 => lyS (lyI f y p w a l n) y (p n) (w n) (a n) (l n) n
theorem lyI_s {f : Int → Int} {y : Int} {p w a l : Int → Int} {i : Int} (h : 0 ≤ i) : lyI f y p w a l (i + 1).toNat = lyS (lyI f y p w a l i.toNat) y (p i) (w i) (a i) (l i) i := by
  obtain ⟨n, rfl⟩ := Int.eq_ofNat_of_zero_le h
  rw [show ((n : Int) + 1).toNat = n + 1 by omega, show ((n : Int)).toNat = n by omega]
  rfl
noncomputable def lyE (f : Int → Int) (y u pk by_ : Int) : Int → Int := ptn (ptn (ptn f (y + 34) 4 u) (y + 38) 4 pk) (y + 42) 4 by_
noncomputable def ry1 (f : Int → Int) (t p0 p1 w0 w1 a0 a1 : Int) : Int → Int := ptn (ptn (ptn (ptn (ptn (ptn (ptn (ptn f (t + 2) 2 p0) (t + 4) 2 p1) (t + 6) 2 w0) (t + 8) 2 w1) (t + 10) 4 (a0 / 4294967296)) (t + 14) 4 a0) (t + 18) 4 (a1 / 4294967296)) (t + 22) 4 a1
theorem ptn_in {f : Int → Int} {y n v k : Int} (h : y ≤ k ∧ k < y + n) : ptn f y n v k = bt v (y + n - 1 - k) := if_pos h
theorem ptn_out {f : Int → Int} {y n v k : Int} (h : k < y ∨ y + n ≤ k) : ptn f y n v k = f k := if_neg (by omega)
theorem bt_hi {a j : Int} (h : 0 ≤ j ∧ j < 4) : bt (a / 4294967296) j = bt a (j + 4) := by
  rcases (show j = 0 ∨ j = 1 ∨ j = 2 ∨ j = 3 by omega) with rfl | rfl | rfl | rfl
  · show a / 4294967296 % 256 = a / 4294967296 % 256
    rfl
  · show a / 4294967296 / 256 % 256 = a / 1099511627776 % 256
    omega
  · show a / 4294967296 / 65536 % 256 = a / 281474976710656 % 256
    omega
  · show a / 4294967296 / 16777216 % 256 = a / 72057594037927936 % 256
    omega
theorem jp1 {M : jm} {c : Nat} {t v : Int} (h : 0 ≤ v ∧ v ≤ 255) : ju M c t v c = ptn (M c) t 1 v := by
  funext k
  by_cases q : k = t
  · subst q
    rw [ju_same, ptn_in (by omega), show k + 1 - 1 - k = 0 by omega]
    show v = v % 256
    omega
  · rw [ju_i _ _ q, ptn_out (by omega)]
theorem lyx0 {f : Int → Int} {y n s p0 p1 w0 w1 a0 a1 l0 l1 u pk by_ : Int} : (ptn (ptn (ptn (ptn (ptn (ptn (ptn (ptn (ptn (ptn (ptn (ptn (ptn f y 1 n) (y + 1) 1 s) (y + 2) 2 p0) (y + 6) 2 w0) (y + 10) 8 a0) (y + 26) 4 l0) (y + 4) 2 p1) (y + 8) 2 w1) (y + 18) 8 a1) (y + 30) 4 l1) (y + 34) 4 u) (y + 38) 4 pk) (y + 42) 4 by_) = xrF f y (xrB n s p0 p1 w0 w1 a0 a1 l0 l1 u pk by_) := by
  funext z
  by_cases q : y ≤ z ∧ z < y + 46
  · have hR : xrF f y (xrB n s p0 p1 w0 w1 a0 a1 l0 l1 u pk by_) z = xrB n s p0 p1 w0 w1 a0 a1 l0 l1 u pk by_ (z - y) := if_pos q
    rw [hR]
    unfold xrB
    rcases (show (y + 0 ≤ z ∧ z < y + 1) ∨ (y + 1 ≤ z ∧ z < y + 2) ∨ (y + 2 ≤ z ∧ z < y + 4) ∨ (y + 4 ≤ z ∧ z < y + 6) ∨ (y + 6 ≤ z ∧ z < y + 8) ∨ (y + 8 ≤ z ∧ z < y + 10) ∨ (y + 10 ≤ z ∧ z < y + 18) ∨ (y + 18 ≤ z ∧ z < y + 26) ∨ (y + 26 ≤ z ∧ z < y + 30) ∨ (y + 30 ≤ z ∧ z < y + 34) ∨ (y + 34 ≤ z ∧ z < y + 38) ∨ (y + 38 ≤ z ∧ z < y + 42) ∨ (y + 42 ≤ z ∧ z < y + 46) by omega) with c | c | c | c | c | c | c | c | c | c | c | c | c
    · rw [if_pos (show z - y = 0 by omega)]
      rw [ptn_out (by omega), ptn_out (by omega), ptn_out (by omega), ptn_out (by omega), ptn_out (by omega), ptn_out (by omega), ptn_out (by omega), ptn_out (by omega), ptn_out (by omega), ptn_out (by omega), ptn_out (by omega), ptn_out (by omega), ptn_in (by omega)]
      rw [show y + 1 - 1 - z = 0 by omega]
      rfl
    · rw [if_neg (show ¬ z - y = 0 by omega), if_pos (show z - y = 1 by omega)]
      rw [ptn_out (by omega), ptn_out (by omega), ptn_out (by omega), ptn_out (by omega), ptn_out (by omega), ptn_out (by omega), ptn_out (by omega), ptn_out (by omega), ptn_out (by omega), ptn_out (by omega), ptn_out (by omega), ptn_in (by omega)]
      rw [show y + 1 + 1 - 1 - z = 0 by omega]
      rfl
    · rw [if_neg (show ¬ z - y = 0 by omega), if_neg (show ¬ z - y = 1 by omega), if_pos (show z - y < 4 by omega)]
      rw [ptn_out (by omega), ptn_out (by omega), ptn_out (by omega), ptn_out (by omega), ptn_out (by omega), ptn_out (by omega), ptn_out (by omega), ptn_out (by omega), ptn_out (by omega), ptn_out (by omega), ptn_in (by omega)]
      congr 1
      omega
    · rw [if_neg (show ¬ z - y = 0 by omega), if_neg (show ¬ z - y = 1 by omega), if_neg (show ¬ z - y < 4 by omega), if_pos (show z - y < 6 by omega)]
      rw [ptn_out (by omega), ptn_out (by omega), ptn_out (by omega), ptn_out (by omega), ptn_out (by omega), ptn_out (by omega), ptn_in (by omega)]
      congr 1
      omega
    · rw [if_neg (show ¬ z - y = 0 by omega), if_neg (show ¬ z - y = 1 by omega), if_neg (show ¬ z - y < 4 by omega), if_neg (show ¬ z - y < 6 by omega), if_pos (show z - y < 8 by omega)]
      rw [ptn_out (by omega), ptn_out (by omega), ptn_out (by omega), ptn_out (by omega), ptn_out (by omega), ptn_out (by omega), ptn_out (by omega), ptn_out (by omega), ptn_out (by omega), ptn_in (by omega)]
      congr 1
      omega
    · rw [if_neg (show ¬ z - y = 0 by omega), if_neg (show ¬ z - y = 1 by omega), if_neg (show ¬ z - y < 4 by omega), if_neg (show ¬ z - y < 6 by omega), if_neg (show ¬ z - y < 8 by omega), if_pos (show z - y < 10 by omega)]
      rw [ptn_out (by omega), ptn_out (by omega), ptn_out (by omega), ptn_out (by omega), ptn_out (by omega), ptn_in (by omega)]
      congr 1
      omega
    · rw [if_neg (show ¬ z - y = 0 by omega), if_neg (show ¬ z - y = 1 by omega), if_neg (show ¬ z - y < 4 by omega), if_neg (show ¬ z - y < 6 by omega), if_neg (show ¬ z - y < 8 by omega), if_neg (show ¬ z - y < 10 by omega), if_pos (show z - y < 18 by omega)]
      rw [ptn_out (by omega), ptn_out (by omega), ptn_out (by omega), ptn_out (by omega), ptn_out (by omega), ptn_out (by omega), ptn_out (by omega), ptn_out (by omega), ptn_in (by omega)]
      congr 1
      omega
    · rw [if_neg (show ¬ z - y = 0 by omega), if_neg (show ¬ z - y = 1 by omega), if_neg (show ¬ z - y < 4 by omega), if_neg (show ¬ z - y < 6 by omega), if_neg (show ¬ z - y < 8 by omega), if_neg (show ¬ z - y < 10 by omega), if_neg (show ¬ z - y < 18 by omega), if_pos (show z - y < 26 by omega)]
      rw [ptn_out (by omega), ptn_out (by omega), ptn_out (by omega), ptn_out (by omega), ptn_in (by omega)]
      congr 1
      omega
    · rw [if_neg (show ¬ z - y = 0 by omega), if_neg (show ¬ z - y = 1 by omega), if_neg (show ¬ z - y < 4 by omega), if_neg (show ¬ z - y < 6 by omega), if_neg (show ¬ z - y < 8 by omega), if_neg (show ¬ z - y < 10 by omega), if_neg (show ¬ z - y < 18 by omega), if_neg (show ¬ z - y < 26 by omega), if_pos (show z - y < 30 by omega)]
      rw [ptn_out (by omega), ptn_out (by omega), ptn_out (by omega), ptn_out (by omega), ptn_out (by omega), ptn_out (by omega), ptn_out (by omega), ptn_in (by omega)]
      congr 1
      omega
    · rw [if_neg (show ¬ z - y = 0 by omega), if_neg (show ¬ z - y = 1 by omega), if_neg (show ¬ z - y < 4 by omega), if_neg (show ¬ z - y < 6 by omega), if_neg (show ¬ z - y < 8 by omega), if_neg (show ¬ z - y < 10 by omega), if_neg (show ¬ z - y < 18 by omega), if_neg (show ¬ z - y < 26 by omega), if_neg (show ¬ z - y < 30 by omega), if_pos (show z - y < 34 by omega)]
      rw [ptn_out (by omega), ptn_out (by omega), ptn_out (by omega), ptn_in (by omega)]
      congr 1
      omega
    · rw [if_neg (show ¬ z - y = 0 by omega), if_neg (show ¬ z - y = 1 by omega), if_neg (show ¬ z - y < 4 by omega), if_neg (show ¬ z - y < 6 by omega), if_neg (show ¬ z - y < 8 by omega), if_neg (show ¬ z - y < 10 by omega), if_neg (show ¬ z - y < 18 by omega), if_neg (show ¬ z - y < 26 by omega), if_neg (show ¬ z - y < 30 by omega), if_neg (show ¬ z - y < 34 by omega), if_pos (show z - y < 38 by omega)]
      rw [ptn_out (by omega), ptn_out (by omega), ptn_in (by omega)]
      congr 1
      omega
    · rw [if_neg (show ¬ z - y = 0 by omega), if_neg (show ¬ z - y = 1 by omega), if_neg (show ¬ z - y < 4 by omega), if_neg (show ¬ z - y < 6 by omega), if_neg (show ¬ z - y < 8 by omega), if_neg (show ¬ z - y < 10 by omega), if_neg (show ¬ z - y < 18 by omega), if_neg (show ¬ z - y < 26 by omega), if_neg (show ¬ z - y < 30 by omega), if_neg (show ¬ z - y < 34 by omega), if_neg (show ¬ z - y < 38 by omega), if_pos (show z - y < 42 by omega)]
      rw [ptn_out (by omega), ptn_in (by omega)]
      congr 1
      omega
    · rw [if_neg (show ¬ z - y = 0 by omega), if_neg (show ¬ z - y = 1 by omega), if_neg (show ¬ z - y < 4 by omega), if_neg (show ¬ z - y < 6 by omega), if_neg (show ¬ z - y < 8 by omega), if_neg (show ¬ z - y < 10 by omega), if_neg (show ¬ z - y < 18 by omega), if_neg (show ¬ z - y < 26 by omega), if_neg (show ¬ z - y < 30 by omega), if_neg (show ¬ z - y < 34 by omega), if_neg (show ¬ z - y < 38 by omega), if_neg (show ¬ z - y < 42 by omega)]
      rw [ptn_in (by omega)]
      congr 1
      omega
  · rw [ptn_out (by omega), ptn_out (by omega), ptn_out (by omega), ptn_out (by omega), ptn_out (by omega), ptn_out (by omega), ptn_out (by omega), ptn_out (by omega), ptn_out (by omega), ptn_out (by omega), ptn_out (by omega), ptn_out (by omega), ptn_out (by omega)]
    exact (if_neg q).symm
theorem ryx0 {f : Int → Int} {y n s p0 p1 w0 w1 a0 a1 l0 l1 u pk by_ : Int} : (ptn (ptn (ptn (ptn (ptn (ptn (ptn (ptn (ptn (ptn (ptn (ptn (ptn (ptn (ptn f y 1 n) (y + 1) 1 s) (y + 2) 2 p0) (y + 4) 2 p1) (y + 6) 2 w0) (y + 8) 2 w1) (y + 10) 4 (a0 / 4294967296)) (y + 14) 4 a0) (y + 18) 4 (a1 / 4294967296)) (y + 22) 4 a1) (y + 26) 4 l0) (y + 30) 4 l1) (y + 34) 4 u) (y + 38) 4 pk) (y + 42) 4 by_) = xrF f y (xrB n s p0 p1 w0 w1 a0 a1 l0 l1 u pk by_) := by
  funext z
  by_cases q : y ≤ z ∧ z < y + 46
  · have hR : xrF f y (xrB n s p0 p1 w0 w1 a0 a1 l0 l1 u pk by_) z = xrB n s p0 p1 w0 w1 a0 a1 l0 l1 u pk by_ (z - y) := if_pos q
    rw [hR]
    unfold xrB
    rcases (show (y + 0 ≤ z ∧ z < y + 1) ∨ (y + 1 ≤ z ∧ z < y + 2) ∨ (y + 2 ≤ z ∧ z < y + 4) ∨ (y + 4 ≤ z ∧ z < y + 6) ∨ (y + 6 ≤ z ∧ z < y + 8) ∨ (y + 8 ≤ z ∧ z < y + 10) ∨ (y + 10 ≤ z ∧ z < y + 18) ∨ (y + 18 ≤ z ∧ z < y + 26) ∨ (y + 26 ≤ z ∧ z < y + 30) ∨ (y + 30 ≤ z ∧ z < y + 34) ∨ (y + 34 ≤ z ∧ z < y + 38) ∨ (y + 38 ≤ z ∧ z < y + 42) ∨ (y + 42 ≤ z ∧ z < y + 46) by omega) with c | c | c | c | c | c | c | c | c | c | c | c | c
    · rw [if_pos (show z - y = 0 by omega)]
      rw [ptn_out (by omega), ptn_out (by omega), ptn_out (by omega), ptn_out (by omega), ptn_out (by omega), ptn_out (by omega), ptn_out (by omega), ptn_out (by omega), ptn_out (by omega), ptn_out (by omega), ptn_out (by omega), ptn_out (by omega), ptn_out (by omega), ptn_out (by omega), ptn_in (by omega)]
      rw [show y + 1 - 1 - z = 0 by omega]
      rfl
    · rw [if_neg (show ¬ z - y = 0 by omega), if_pos (show z - y = 1 by omega)]
      rw [ptn_out (by omega), ptn_out (by omega), ptn_out (by omega), ptn_out (by omega), ptn_out (by omega), ptn_out (by omega), ptn_out (by omega), ptn_out (by omega), ptn_out (by omega), ptn_out (by omega), ptn_out (by omega), ptn_out (by omega), ptn_out (by omega), ptn_in (by omega)]
      rw [show y + 1 + 1 - 1 - z = 0 by omega]
      rfl
    · rw [if_neg (show ¬ z - y = 0 by omega), if_neg (show ¬ z - y = 1 by omega), if_pos (show z - y < 4 by omega)]
      rw [ptn_out (by omega), ptn_out (by omega), ptn_out (by omega), ptn_out (by omega), ptn_out (by omega), ptn_out (by omega), ptn_out (by omega), ptn_out (by omega), ptn_out (by omega), ptn_out (by omega), ptn_out (by omega), ptn_out (by omega), ptn_in (by omega)]
      congr 1
      omega
    · rw [if_neg (show ¬ z - y = 0 by omega), if_neg (show ¬ z - y = 1 by omega), if_neg (show ¬ z - y < 4 by omega), if_pos (show z - y < 6 by omega)]
      rw [ptn_out (by omega), ptn_out (by omega), ptn_out (by omega), ptn_out (by omega), ptn_out (by omega), ptn_out (by omega), ptn_out (by omega), ptn_out (by omega), ptn_out (by omega), ptn_out (by omega), ptn_out (by omega), ptn_in (by omega)]
      congr 1
      omega
    · rw [if_neg (show ¬ z - y = 0 by omega), if_neg (show ¬ z - y = 1 by omega), if_neg (show ¬ z - y < 4 by omega), if_neg (show ¬ z - y < 6 by omega), if_pos (show z - y < 8 by omega)]
      rw [ptn_out (by omega), ptn_out (by omega), ptn_out (by omega), ptn_out (by omega), ptn_out (by omega), ptn_out (by omega), ptn_out (by omega), ptn_out (by omega), ptn_out (by omega), ptn_out (by omega), ptn_in (by omega)]
      congr 1
      omega
    · rw [if_neg (show ¬ z - y = 0 by omega), if_neg (show ¬ z - y = 1 by omega), if_neg (show ¬ z - y < 4 by omega), if_neg (show ¬ z - y < 6 by omega), if_neg (show ¬ z - y < 8 by omega), if_pos (show z - y < 10 by omega)]
      rw [ptn_out (by omega), ptn_out (by omega), ptn_out (by omega), ptn_out (by omega), ptn_out (by omega), ptn_out (by omega), ptn_out (by omega), ptn_out (by omega), ptn_out (by omega), ptn_in (by omega)]
      congr 1
      omega
    · rw [if_neg (show ¬ z - y = 0 by omega), if_neg (show ¬ z - y = 1 by omega), if_neg (show ¬ z - y < 4 by omega), if_neg (show ¬ z - y < 6 by omega), if_neg (show ¬ z - y < 8 by omega), if_neg (show ¬ z - y < 10 by omega), if_pos (show z - y < 18 by omega)]
      by_cases d : z < y + 14
      · rw [ptn_out (by omega), ptn_out (by omega), ptn_out (by omega), ptn_out (by omega), ptn_out (by omega), ptn_out (by omega), ptn_out (by omega), ptn_out (by omega), ptn_in (by omega), bt_hi (by omega)]
        congr 1
        omega
      · rw [ptn_out (by omega), ptn_out (by omega), ptn_out (by omega), ptn_out (by omega), ptn_out (by omega), ptn_out (by omega), ptn_out (by omega), ptn_in (by omega)]
        congr 1
        omega
    · rw [if_neg (show ¬ z - y = 0 by omega), if_neg (show ¬ z - y = 1 by omega), if_neg (show ¬ z - y < 4 by omega), if_neg (show ¬ z - y < 6 by omega), if_neg (show ¬ z - y < 8 by omega), if_neg (show ¬ z - y < 10 by omega), if_neg (show ¬ z - y < 18 by omega), if_pos (show z - y < 26 by omega)]
      by_cases d : z < y + 22
      · rw [ptn_out (by omega), ptn_out (by omega), ptn_out (by omega), ptn_out (by omega), ptn_out (by omega), ptn_out (by omega), ptn_in (by omega), bt_hi (by omega)]
        congr 1
        omega
      · rw [ptn_out (by omega), ptn_out (by omega), ptn_out (by omega), ptn_out (by omega), ptn_out (by omega), ptn_in (by omega)]
        congr 1
        omega
    · rw [if_neg (show ¬ z - y = 0 by omega), if_neg (show ¬ z - y = 1 by omega), if_neg (show ¬ z - y < 4 by omega), if_neg (show ¬ z - y < 6 by omega), if_neg (show ¬ z - y < 8 by omega), if_neg (show ¬ z - y < 10 by omega), if_neg (show ¬ z - y < 18 by omega), if_neg (show ¬ z - y < 26 by omega), if_pos (show z - y < 30 by omega)]
      rw [ptn_out (by omega), ptn_out (by omega), ptn_out (by omega), ptn_out (by omega), ptn_in (by omega)]
      congr 1
      omega
    · rw [if_neg (show ¬ z - y = 0 by omega), if_neg (show ¬ z - y = 1 by omega), if_neg (show ¬ z - y < 4 by omega), if_neg (show ¬ z - y < 6 by omega), if_neg (show ¬ z - y < 8 by omega), if_neg (show ¬ z - y < 10 by omega), if_neg (show ¬ z - y < 18 by omega), if_neg (show ¬ z - y < 26 by omega), if_neg (show ¬ z - y < 30 by omega), if_pos (show z - y < 34 by omega)]
      rw [ptn_out (by omega), ptn_out (by omega), ptn_out (by omega), ptn_in (by omega)]
      congr 1
      omega
    · rw [if_neg (show ¬ z - y = 0 by omega), if_neg (show ¬ z - y = 1 by omega), if_neg (show ¬ z - y < 4 by omega), if_neg (show ¬ z - y < 6 by omega), if_neg (show ¬ z - y < 8 by omega), if_neg (show ¬ z - y < 10 by omega), if_neg (show ¬ z - y < 18 by omega), if_neg (show ¬ z - y < 26 by omega), if_neg (show ¬ z - y < 30 by omega), if_neg (show ¬ z - y < 34 by omega), if_pos (show z - y < 38 by omega)]
      rw [ptn_out (by omega), ptn_out (by omega), ptn_in (by omega)]
      congr 1
      omega
    · rw [if_neg (show ¬ z - y = 0 by omega), if_neg (show ¬ z - y = 1 by omega), if_neg (show ¬ z - y < 4 by omega), if_neg (show ¬ z - y < 6 by omega), if_neg (show ¬ z - y < 8 by omega), if_neg (show ¬ z - y < 10 by omega), if_neg (show ¬ z - y < 18 by omega), if_neg (show ¬ z - y < 26 by omega), if_neg (show ¬ z - y < 30 by omega), if_neg (show ¬ z - y < 34 by omega), if_neg (show ¬ z - y < 38 by omega), if_pos (show z - y < 42 by omega)]
      rw [ptn_out (by omega), ptn_in (by omega)]
      congr 1
      omega
    · rw [if_neg (show ¬ z - y = 0 by omega), if_neg (show ¬ z - y = 1 by omega), if_neg (show ¬ z - y < 4 by omega), if_neg (show ¬ z - y < 6 by omega), if_neg (show ¬ z - y < 8 by omega), if_neg (show ¬ z - y < 10 by omega), if_neg (show ¬ z - y < 18 by omega), if_neg (show ¬ z - y < 26 by omega), if_neg (show ¬ z - y < 30 by omega), if_neg (show ¬ z - y < 34 by omega), if_neg (show ¬ z - y < 38 by omega), if_neg (show ¬ z - y < 42 by omega)]
      rw [ptn_in (by omega)]
      congr 1
      omega
  · rw [ptn_out (by omega), ptn_out (by omega), ptn_out (by omega), ptn_out (by omega), ptn_out (by omega), ptn_out (by omega), ptn_out (by omega), ptn_out (by omega), ptn_out (by omega), ptn_out (by omega), ptn_out (by omega), ptn_out (by omega), ptn_out (by omega), ptn_out (by omega), ptn_out (by omega)]
    exact (if_neg q).symm
theorem ryx {f : Int → Int} {y n s p0 p1 w0 w1 a0 a1 l0 l1 u pk by_ : Int} : lyE (ptn (ptn (ry1 (ly0 f y n s) y p0 p1 w0 w1 a0 a1) (y + 26) 4 l0) (y + 30) 4 l1) y u pk by_ = xrF f y (xrB n s p0 p1 w0 w1 a0 a1 l0 l1 u pk by_) := ryx0
theorem lyx {f : Int → Int} {y n s u pk by_ : Int} {p w a l : Int → Int} : lyE (lyI (ly0 f y n s) y p w a l 2) y u pk by_ = xrF f y (xrB n s (p 0) (p 1) (w 0) (w 1) (a 0) (a 1) (l 0) (l 1) u pk by_) := by
  rw [← lyx0]
  show lyE (lyS (lyS (ly0 f y n s) y (p (0 : Nat)) (w (0 : Nat)) (a (0 : Nat)) (l (0 : Nat)) (0 : Nat)) y (p (1 : Nat)) (w (1 : Nat)) (a (1 : Nat)) (l (1 : Nat)) (1 : Nat)) y u pk by_ = _
  unfold lyE lyS ly0
  rw [show y + 2 + 2 * ((0 : Nat) : Int) = y + 2 by omega, show y + 6 + 2 * ((0 : Nat) : Int) = y + 6 by omega, show y + 10 + 8 * ((0 : Nat) : Int) = y + 10 by omega, show y + 26 + 4 * ((0 : Nat) : Int) = y + 26 by omega, show y + 2 + 2 * ((1 : Nat) : Int) = y + 4 by omega, show y + 6 + 2 * ((1 : Nat) : Int) = y + 8 by omega, show y + 10 + 8 * ((1 : Nat) : Int) = y + 18 by omega, show y + 26 + 4 * ((1 : Nat) : Int) = y + 30 by omega]
  rfl
end
section
/-! ===== the class: export ===== -/
theorem tpb {M : jm} (h : CI M) (i : Int) : 0 ≤ M 1 i ∧ M 1 i ≤ 255 := CI.r h (show kd 1 = 43 from rfl) (by decide) i
theorem PN.pt {T M : jm} {c : Nat} {y n v : Int} (h : PN T M c y n v n 1600) (h0 : 0 ≤ y ∧ y + n ≤ 1600) : M c = ptn (T c) y n v := by
  funext k
  rw [h.1 k]
  unfold pnf ptn
  by_cases q : y ≤ k ∧ k < y + n
  · rw [if_pos (by omega), if_pos q]
  · rw [if_neg (by omega), if_neg q]
theorem c_PacketWall_numberAt_tx_L5 {A : Nat → Option (Nat × (Nat → Int32))} {Q : Option Value → jm → Prop} {M : jm} (hC_M : CI M) {y : Int} {z : Int} (q : ∀ (r : Int), (-9223372036854775808) ≤ r ∧ r ≤ 9223372036854775807 → (r = jl_w (nbs (M 1) y z.toNat)) → Q (some (.long (Int64.ofInt r))) M) : ∀ (nM : Nat) (n : Int) (i : Int), 0 ≤ y ∧ y ≤ 1600 → 0 ≤ z ∧ z ≤ 8 → (-9223372036854775808) ≤ n ∧ n ≤ 9223372036854775807 → 0 ≤ i ∧ i ≤ 1608 → (n = jl_w (nbs (M 1) y (i - y).toNat)) → (y ≤ i ∧ i ≤ y + z ∧ y + z ≤ 1600) → y + z - i ≤ nM → jr A 0 xm_52 5 [(1, .int (Int32.ofInt (y))), (2, .int (Int32.ofInt (z))), (3, .long (Int64.ofInt (n))), (5, .int (Int32.ofInt (i))), (0, .ref (1))] [] M Q := by
  intro nM
  induction nM using Nat.strongRecOn with
  | ind nM ih =>
    intro n i h_y h_z h_n h_i hy0 hy1 hm
    refine jr.iload rfl rfl ?_
    refine jr.iload_n rfl rfl ?_
    refine jr.iload_n rfl rfl ?_
    refine jr.iadd rfl ?_
    refine jr.icmp_ge rfl rfl (by first | (refine rgb (by assumption) ?_; exact rfl) | omega) (by first | (refine rgb (by assumption) ?_; exact rfl) | omega) (fun h10 => ?_) (fun h10 => ?_)
    · refine jr.lload_n rfl rfl ?_
      exact jr.lreturn rfl rfl (q _ (by omega) (by rw [hy0, show i - y = z from by omega]))
    · refine jr.lload_n rfl rfl ?_
      refine jr.bipush rfl (jbp _ (nlt rfl)) ?_
      refine jr.lshl rfl ?_
      refine jr.iload rfl rfl ?_
      refine jr.if_lt rfl rfl (by first | (refine rgb (by assumption) ?_; exact rfl) | omega) (fun h19 => ?_) (fun h19 => ?_)
      · exact absurd h19 (by omega)
      · refine jr.iload rfl rfl ?_
        refine jr.aload_n rfl rfl ?_
        refine jr.alen0 (x := 1600) rfl (by decide) rfl rfl ?_
        refine jr.icmp_ge rfl rfl (by first | (refine rgb (by assumption) ?_; exact rfl) | omega) (by first | (refine rgb (by assumption) ?_; exact rfl) | omega) (fun h26 => ?_) (fun h26 => ?_)
        · refine jr.iconst rfl ?_
          refine jr.i2l rfl (by omega) ?_
          refine jr.lor rfl ?_
          have b1 : jl_or (jl_shl n 8) 0 = jl_w (n * 256 + 0) ∧ -9223372036854775808 ≤ jl_or (jl_shl n 8) 0 ∧ jl_or (jl_shl n 8) 0 ≤ 9223372036854775807 := ⟨jl_sho_w (by omega), jbl_any _⟩
          generalize jl_or (jl_shl n 8) 0 = v1 at b1 ⊢
          refine jr.lstore_n (ls' := [_, _, _, _, _]) rfl (nlt rfl) rfl ?_
          refine jr.iinc (ls' := [_, _, _, _, _]) rfl rfl (nlt rfl) rfl ?_
          refine jr.goto rfl rfl ?_
          refine jr.pick (ls := [_, _, _, _, _]) [2, 3, 1, 0, 4] rfl rfl ?_
          exact ih (nM - 1) (by omega) v1 (i + 1) (by omega) (by omega) (by omega) (by omega) (b1.1.trans (nbw_s (by omega) hy0 (by omega))) (by omega) (by omega)
        · refine jr.aload_n rfl rfl ?_
          refine jr.iload rfl rfl ?_
          obtain ⟨v2, e2⟩ : ∃ z_, M 1 i = z_ := ⟨_, rfl⟩
          have b2 : 0 ≤ v2 ∧ v2 ≤ 255 := by rw [← e2]; exact (CI.r hC_M (show kd 1 = 43 from rfl) (by decide) i)
          refine jr.iald (i := i) (x := v2) rfl (nlt rfl) rfl (Nat.le_of_ble_eq_true rfl) (by omega) (by omega) e2 ?_
          refine jr.goto rfl rfl ?_
          refine jr.i2l rfl (by omega) ?_
          refine jr.lor rfl ?_
          have b3 : jl_or (jl_shl n 8) v2 = jl_w (n * 256 + v2) ∧ -9223372036854775808 ≤ jl_or (jl_shl n 8) v2 ∧ jl_or (jl_shl n 8) v2 ≤ 9223372036854775807 := ⟨jl_sho_w (by omega), jbl_any _⟩
          generalize jl_or (jl_shl n 8) v2 = v3 at b3 ⊢
          refine jr.lstore_n (ls' := [_, _, _, _, _]) rfl (nlt rfl) rfl ?_
          refine jr.iinc (ls' := [_, _, _, _, _]) rfl rfl (nlt rfl) rfl ?_
          refine jr.goto rfl rfl ?_
          refine jr.pick (ls := [_, _, _, _, _]) [2, 3, 1, 0, 4] rfl rfl ?_
          exact ih (nM - 1) (by omega) v3 (i + 1) (by omega) (by omega) (by omega) (by omega) (b3.1.trans (nbw_s (by omega) hy0 (by omega))) (by omega) (by omega)
theorem c_PacketWall_numberAt_tx {A : Nat → Option (Nat × (Nat → Int32))} {Q : Option Value → jm → Prop} {M : jm} (hC_M : CI M) {y : Int} (h_y : 0 ≤ y ∧ y ≤ 1600) {z : Int} (h_z : 0 ≤ z ∧ z ≤ 8) (p0 : y + z ≤ 1600) (q : ∀ (r : Int), (-9223372036854775808) ≤ r ∧ r ≤ 9223372036854775807 → (r = jl_w (nbs (M 1) y z.toNat)) → Q (some (.long (Int64.ofInt r))) M) : jc A 1 52 [.ref (1), .int (Int32.ofInt (y)), .int (Int32.ofInt (z))] M Q := by
  refine jc_of (m := xm_52) rfl (Nat.le_of_ble_eq_true rfl) rfl ?_
  refine jr.lconst (x := 0) rfl (by decide) ?_
  refine jr.lstore_n (ls' := [_, _, _, _]) rfl (nlt rfl) rfl ?_
  refine jr.iload_n rfl rfl ?_
  refine jr.istore (ls' := [_, _, _, _, _]) rfl (nlt rfl) rfl ?_
  refine jr.pick (ls := [_, _, _, _, _]) [3, 4, 1, 0, 2] rfl rfl ?_
  exact c_PacketWall_numberAt_tx_L5 hC_M  q 8 0 y (by omega) (by omega) (by omega) (by omega) (nbw_0 _ _) (by omega) (by omega)
theorem c_PacketWall_addedTwos_tx_L5 {A : Nat → Option (Nat × (Nat → Int32))} {Q : Option Value → jm → Prop} {M : jm} (hC_M : CI M) {y : Int} {z : Int} (q : ∀ (r : Int), 0 ≤ r ∧ r ≤ 110000000 → (r = sb (M 1) y (z - y).toNat) → Q (some (.long (Int64.ofInt r))) M) : ∀ (nM : Nat) (n : Int) (i : Int), 0 ≤ y ∧ y ≤ 1600 → 0 ≤ z ∧ z ≤ 1600 → 0 ≤ n ∧ n ≤ 104900000 → 0 ≤ i ∧ i ≤ 1602 → ((i ≤ z ∧ n = sb (M 1) y (i - y).toNat ∧ (i - y) % 2 = 0) ∨ (i = z + 1 ∧ n = sb (M 1) y (z - y).toNat)) → (y ≤ i ∧ y ≤ z ∧ n ≤ 65535 * (i - y)) → z - i ≤ nM → jr A 1 xm_54 5 [(1, .int (Int32.ofInt (y))), (2, .int (Int32.ofInt (z))), (3, .long (Int64.ofInt (n))), (5, .int (Int32.ofInt (i))), (0, .ref (1))] [] M Q := by
  intro nM
  induction nM using Nat.strongRecOn with
  | ind nM ih =>
    intro n i h_y h_z h_n h_i hy0 hy1 hm
    refine jr.iload rfl rfl ?_
    refine jr.iload_n rfl rfl ?_
    refine jr.icmp_ge rfl rfl (by first | (refine rgb (by assumption) ?_; exact rfl) | omega) (by first | (refine rgb (by assumption) ?_; exact rfl) | omega) (fun h8 => ?_) (fun h8 => ?_)
    · refine jr.lload_n rfl rfl ?_
      exact jr.lreturn rfl rfl (q _ (by omega) (by rcases hy0 with ⟨h1, h2, h3⟩ | ⟨h1, h2⟩; rw [h2, show i = z from by omega]; exact h2))
    · refine jr.lload_n rfl rfl ?_
      refine jr.iload rfl rfl ?_
      refine jr.iconst rfl ?_
      refine jr.iadd rfl ?_
      refine jr.iload_n rfl rfl ?_
      refine jr.icmp_ge rfl rfl (by first | (refine rgb (by assumption) ?_; exact rfl) | omega) (by first | (refine rgb (by assumption) ?_; exact rfl) | omega) (fun h17 => ?_) (fun h17 => ?_)
      · refine jr.aload_n rfl rfl ?_
        refine jr.iload rfl rfl ?_
        refine jr.iconst rfl ?_
        refine jr_s rfl rfl (Or.inl rfl) ⟨Nat.le_of_ble_eq_true rfl, Nat.le_of_ble_eq_true rfl⟩ rfl rfl (jc.deep (c_PacketWall_numberAt_tx hC_M (by omega) (by omega) (by omega) (fun r1 z1 w1_0 => ?_)) (Nat.le_of_ble_eq_true rfl))
        have hb1 := tpb hC_M i
        have hv1 : r1 = M 1 i := (by have hq := w1_0; rw [show (1 : Int).toNat = 1 from rfl, nbs_1, jl_w_id (by omega)] at hq; exact hq)
        refine jr.bipush rfl (jbp _ (nlt rfl)) ?_
        refine jr.lshl rfl ?_
        have b2 : jl_shl r1 8 = r1 * 256 := jl_shl_8x (by omega)
        generalize jl_shl r1 8 = v2 at b2 ⊢
        refine jr.ladd rfl ?_
        refine jr.lstore_n (ls' := [_, _, _, _, _]) rfl (nlt rfl) rfl ?_
        refine jr.iinc (ls' := [_, _, _, _, _]) rfl rfl (nlt rfl) rfl ?_
        refine jr.goto rfl rfl ?_
        refine jr.pick (ls := [_, _, _, _, _]) [2, 3, 1, 0, 4] rfl rfl ?_
        exact ih (nM - 1) (by omega) (n + v2) (i + 2) (by omega) (by omega) (by omega) (by omega) (by rcases hy0 with ⟨h1, h2, h3⟩ | ⟨h1, h2⟩; exact Or.inr ⟨by omega, by rw [show z = i + 1 from by omega, sb_s (by omega), if_pos (by omega), ← h2]; omega⟩; omega) (by omega) (by omega)
      · refine jr.aload_n rfl rfl ?_
        refine jr.iload rfl rfl ?_
        refine jr.iconst rfl ?_
        refine jr_s rfl rfl (Or.inl rfl) ⟨Nat.le_of_ble_eq_true rfl, Nat.le_of_ble_eq_true rfl⟩ rfl rfl (jc.deep (c_PacketWall_numberAt_tx hC_M (by omega) (by omega) (by omega) (fun r3 z3 w3_0 => ?_)) (Nat.le_of_ble_eq_true rfl))
        have hb1 := tpb hC_M i
        have hb2 := tpb hC_M (i + 1)
        have hv3 : r3 = M 1 i * 256 + M 1 (i + 1) := (by have hq := w3_0; rw [show (2 : Int).toNat = 2 from rfl, nbs_2, jl_w_id (by omega)] at hq; exact hq)
        refine jr.goto rfl rfl ?_
        refine jr.ladd rfl ?_
        refine jr.lstore_n (ls' := [_, _, _, _, _]) rfl (nlt rfl) rfl ?_
        refine jr.iinc (ls' := [_, _, _, _, _]) rfl rfl (nlt rfl) rfl ?_
        refine jr.goto rfl rfl ?_
        refine jr.pick (ls := [_, _, _, _, _]) [2, 3, 1, 0, 4] rfl rfl ?_
        exact ih (nM - 1) (by omega) (n + r3) (i + 2) (by omega) (by omega) (by omega) (by omega) (by rcases hy0 with ⟨h1, h2, h3⟩ | ⟨h1, h2⟩; exact Or.inl ⟨by omega, by rw [show i + 2 = (i + 1) + 1 from by omega, sb_s (i := i + 1) (by omega), sb_s (by omega), if_pos (by omega), if_neg (by omega), ← h2]; omega, by omega⟩; omega) (by omega) (by omega)
theorem c_PacketWall_addedTwos_tx {A : Nat → Option (Nat × (Nat → Int32))} {Q : Option Value → jm → Prop} {M : jm} (hC_M : CI M) {y : Int} (h_y : 0 ≤ y ∧ y ≤ 1600) {z : Int} (h_z : 0 ≤ z ∧ z ≤ 1600) (p0 : y ≤ z) (q : ∀ (r : Int), 0 ≤ r ∧ r ≤ 110000000 → (r = sb (M 1) y (z - y).toNat) → Q (some (.long (Int64.ofInt r))) M) : jc A 2 54 [.ref (1), .int (Int32.ofInt (y)), .int (Int32.ofInt (z))] M Q := by
  refine jc_of (m := xm_54) rfl (Nat.le_of_ble_eq_true rfl) rfl ?_
  refine jr.lconst (x := 0) rfl (by decide) ?_
  refine jr.lstore_n (ls' := [_, _, _, _]) rfl (nlt rfl) rfl ?_
  refine jr.iload_n rfl rfl ?_
  refine jr.istore (ls' := [_, _, _, _, _]) rfl (nlt rfl) rfl ?_
  refine jr.pick (ls := [_, _, _, _, _]) [3, 4, 1, 0, 2] rfl rfl ?_
  exact c_PacketWall_addedTwos_tx_L5 hC_M  q 1600 0 y (by omega) (by omega) (by omega) (by omega) (Or.inl ⟨by omega, (sb_0 _ _).symm, by omega⟩) (by omega) (by omega)
noncomputable def flgF (M : jm) (t : Nat) : Int := (if M t 1 = 0 then 0 else 16) + (if M (t + 4) 0 = 0 then 0 else 32) + (if M (t + 4) 1 = 0 then 0 else 64) + (if M t 12 = 0 then 0 else 128)
/-- the row that a flow of the class tells -/
noncomputable def rcB (T : jm) (t : Nat) (Z : Int) : Int → Int := xrB (T t 2) (j_w (T t 5 + flgF T t)) (T (t + 2) 0) (T (t + 2) 1) (T (t + 5) 0) (T (t + 5) 1) (T (t + 1) 0) (T (t + 1) 1) (T (t + 3) 0) (T (t + 3) 1) (j_w (T t 6 - Z)) (jl_w (T (t + 6) 0 + T (t + 6) 1)) (jl_w (T (t + 7) 0 + T (t + 7) 1))
theorem rcB_e {M T : jm} {t : Nat} {Z : Int} (h : ∀ (b : Nat) (k : Int), b ≠ 1 → M b k = T b k) (ht : 1 < t) : rcB M t Z = rcB T t Z := by
  unfold rcB flgF
  rw [h t 1 (by omega), h t 2 (by omega), h t 5 (by omega), h t 6 (by omega), h t 12 (by omega), h (t + 1) 0 (by omega), h (t + 1) 1 (by omega), h (t + 2) 0 (by omega), h (t + 2) 1 (by omega), h (t + 3) 0 (by omega), h (t + 3) 1 (by omega), h (t + 4) 0 (by omega), h (t + 4) 1 (by omega), h (t + 5) 0 (by omega), h (t + 5) 1 (by omega), h (t + 6) 0 (by omega), h (t + 6) 1 (by omega), h (t + 7) 0 (by omega), h (t + 7) 1 (by omega)]
theorem lay_fin {f : Int → Int} {M Ma Mb Mc Md : jm} {y n s u pk by_ sm r : Int} {p w a l : Int → Int} (hy : 0 ≤ y ∧ y ≤ 1552) (hM : M 1 = lyI (ly0 f y n s) y p w a l 2) (ha : PN M Ma 1 (y + 34) 4 u 4 1600) (hb : PN Ma Mb 1 (y + 38) 4 pk 4 1600) (hc : PN Mb Mc 1 (y + 42) 4 by_ 4 1600) (hd : PN Mc Md 1 (y + 46) 2 sm 2 1600) (hs : sm = tn r) (hr : r = sb (Mc 1) y (y + 46 - y).toNat) : Md 1 = rwl f y (xrB n s (p 0) (p 1) (w 0) (w 1) (a 0) (a 1) (l 0) (l 1) u pk by_) := by
  have e : Mc 1 = xrF f y (xrB n s (p 0) (p 1) (w 0) (w 1) (a 0) (a 1) (l 0) (l 1) u pk by_) := by
    rw [← lyx, ← hM]
    unfold lyE
    rw [hc.pt (by omega), hb.pt (by omega), ha.pt (by omega)]
  rw [hd.pt (by omega), hs, hr, e, show (y + 46 - y).toNat = 46 by omega]
  rfl
noncomputable def W_c_Flow_layRow_x : List (Nat × Nat) := [(43, 1000)]
theorem c_Flow_layRow_x_L92 {A : Nat → Option (Nat × (Nat → Int32))} {Q : Option Value → jm → Prop} {T : jm} {t : Nat} (k_t : kd t = 1) {y : Int} {z : Int} (q : ∀ (M' : jm), CI M' → FR W_c_Flow_layRow_x T M' → (M' 1 = rwl (T 1) y (rcB T t z) ∧ ∀ (b : Nat) (k : Int), b ≠ 1 → M' b k = T b k) → Q none M') : ∀ (nM : Nat) (M : jm) (i : Int), CI M → FR W_c_Flow_layRow_x T M → 0 ≤ y ∧ y ≤ 1552 → 0 ≤ z ∧ z ≤ 2000000000 → 0 ≤ i ∧ i ≤ 2 → (M 1 = lyI (ly0 (T 1) y (T t 2) (j_w (T t 5 + flgF T t))) y (T (t + 2)) (T (t + 5)) (T (t + 1)) (T (t + 3)) i.toNat) → (∀ (b : Nat) (k : Int), b ≠ 1 → M b k = T b k) → 2 - i ≤ nM → jr A 2 xm_64 92 [(2, .int (Int32.ofInt (y))), (3, .int (Int32.ofInt (z))), (5, .int (Int32.ofInt (i))), (0, .ref (t)), (1, .ref (1))] [] M Q := by
  intro nM
  induction nM using Nat.strongRecOn with
  | ind nM ih =>
    intro M i hC_M ht_M h_y h_z h_i hy0 hy1 hm
    refine jr.iload rfl rfl ?_
    refine jr.iconst rfl ?_
    refine jr.icmp_ge rfl rfl (by first | (refine rgb (by assumption) ?_; exact rfl) | omega) (rgl rfl) (fun h95 => ?_) (fun h95 => ?_)
    · refine jr.aload_n rfl rfl ?_
      refine jr.iload_n rfl rfl ?_
      refine jr.bipush rfl (jbp _ (nlt rfl)) ?_
      refine jr.iadd rfl ?_
      refine jr.iconst rfl ?_
      refine jr.aload_n rfl rfl ?_
      obtain ⟨v1, e1⟩ : ∃ z_, M t 6 = z_ := ⟨_, rfl⟩
      have b1 : (-2147483648) ≤ v1 ∧ v1 ≤ 2147483647 := by rw [← e1]; exact (CI.r hC_M k_t (by decide) 6)
      refine jr.getf (i := 6) (x := v1) (v := .int (Int32.ofInt (v1))) rfl rfl (Nat.lt_trans (kx_1 k_t).1 (by decide)) (kx_1 k_t).2 (by decide) rfl rfl e1 rfl ?_
      refine jr.iload_n rfl rfl ?_
      refine jr.isub rfl ?_
      refine jr.iw (j_w (v1 - z)) (j_w_eq _) ?_
      have b2 : -2147483648 ≤ j_w (v1 - z) ∧ j_w (v1 - z) ≤ 2147483647 := jb_any _
      refine jr.i2l rfl (by omega) ?_
      refine jr_s rfl rfl (Or.inr rfl) ⟨Nat.le_of_ble_eq_true rfl, Nat.le_of_ble_eq_true rfl⟩ rfl rfl (jc.deep (c_PacketWall_putNumber_tf hC_M (FR.rfl _ M) (show kd 1 = 43 from rfl) (by omega) (by omega) (by omega) rfl (fun M3 hC_M3 hf_M3 w3_0 => ?_)) (Nat.le_of_ble_eq_true rfl))
      have ht_M3 : FR W_c_Flow_layRow_x T M3 := FR.t ht_M hf_M3 (kw_sub rfl)
      refine jr.aload_n rfl rfl ?_
      refine jr.iload_n rfl rfl ?_
      refine jr.bipush rfl (jbp _ (nlt rfl)) ?_
      refine jr.iadd rfl ?_
      refine jr.iconst rfl ?_
      refine jr.aload_n rfl rfl ?_
      have k4 := kf_1_10 k_t
      refine jr.getf (i := 10) (v := .ref (t + 6)) rfl rfl (Nat.lt_trans (kx_1 k_t).1 (by decide)) (kx_1 k_t).2 (by decide) rfl rfl rfl (jval_ref rfl k4.1) ?_
      refine jr.iconst rfl ?_
      obtain ⟨v5, e5⟩ : ∃ z_, M ((t + 6)) 0 = z_ := ⟨_, rfl⟩
      have b5 : (-9223372036854775808) ≤ v5 ∧ v5 ≤ 9223372036854775807 := by rw [← e5]; exact (CI.r hC_M k4.2 (by decide) 0)
      have e6 : M3 ((t + 6)) 0 = v5 := (hf_M3.g k4.2 rfl).trans e5
      refine jr.lald (i := 0) (x := v5) rfl (Nat.lt_trans (kx_6 k4.2).1 (by decide)) (kx_6 k4.2).2 (by decide) (by omega) (by omega) e6 ?_
      refine jr.aload_n rfl rfl ?_
      have k7 := kf_1_10 k_t
      refine jr.getf (i := 10) (v := .ref (t + 6)) rfl rfl (Nat.lt_trans (kx_1 k_t).1 (by decide)) (kx_1 k_t).2 (by decide) rfl rfl rfl (jval_ref rfl k7.1) ?_
      refine jr.iconst rfl ?_
      obtain ⟨v8, e8⟩ : ∃ z_, M ((t + 6)) 1 = z_ := ⟨_, rfl⟩
      have b8 : (-9223372036854775808) ≤ v8 ∧ v8 ≤ 9223372036854775807 := by rw [← e8]; exact (CI.r hC_M k7.2 (by decide) 1)
      have e9 : M3 ((t + 6)) 1 = v8 := (hf_M3.g k7.2 rfl).trans e8
      refine jr.lald (i := 1) (x := v8) rfl (Nat.lt_trans (kx_6 k7.2).1 (by decide)) (kx_6 k7.2).2 (by decide) (by omega) (by omega) e9 ?_
      refine jr.ladd rfl ?_
      refine jr.lw (jl_w (v5 + v8)) (jl_w_eq _) ?_
      have b10 : -9223372036854775808 ≤ jl_w (v5 + v8) ∧ jl_w (v5 + v8) ≤ 9223372036854775807 := jbl_any _
      refine jr_s rfl rfl (Or.inr rfl) ⟨Nat.le_of_ble_eq_true rfl, Nat.le_of_ble_eq_true rfl⟩ rfl rfl (jc.deep (c_PacketWall_putNumber_tf hC_M3 (FR.rfl _ M3) (show kd 1 = 43 from rfl) (by omega) (by omega) (by omega) rfl (fun M11 hC_M11 hf_M11 w11_0 => ?_)) (Nat.le_of_ble_eq_true rfl))
      have ht_M11 : FR W_c_Flow_layRow_x T M11 := FR.t ht_M3 hf_M11 (kw_sub rfl)
      refine jr.aload_n rfl rfl ?_
      refine jr.iload_n rfl rfl ?_
      refine jr.bipush rfl (jbp _ (nlt rfl)) ?_
      refine jr.iadd rfl ?_
      refine jr.iconst rfl ?_
      refine jr.aload_n rfl rfl ?_
      have k12 := kf_1_11 k_t
      refine jr.getf (i := 11) (v := .ref (t + 7)) rfl rfl (Nat.lt_trans (kx_1 k_t).1 (by decide)) (kx_1 k_t).2 (by decide) rfl rfl rfl (jval_ref rfl k12.1) ?_
      refine jr.iconst rfl ?_
      obtain ⟨v13, e13⟩ : ∃ z_, M ((t + 7)) 0 = z_ := ⟨_, rfl⟩
      have b13 : (-9223372036854775808) ≤ v13 ∧ v13 ≤ 9223372036854775807 := by rw [← e13]; exact (CI.r hC_M k12.2 (by decide) 0)
      have e14 : M3 ((t + 7)) 0 = v13 := (hf_M3.g k12.2 rfl).trans e13
      have e15 : M11 ((t + 7)) 0 = v13 := (hf_M11.g k12.2 rfl).trans e14
      refine jr.lald (i := 0) (x := v13) rfl (Nat.lt_trans (kx_3 k12.2).1 (by decide)) (kx_3 k12.2).2 (by decide) (by omega) (by omega) e15 ?_
      refine jr.aload_n rfl rfl ?_
      have k16 := kf_1_11 k_t
      refine jr.getf (i := 11) (v := .ref (t + 7)) rfl rfl (Nat.lt_trans (kx_1 k_t).1 (by decide)) (kx_1 k_t).2 (by decide) rfl rfl rfl (jval_ref rfl k16.1) ?_
      refine jr.iconst rfl ?_
      obtain ⟨v17, e17⟩ : ∃ z_, M ((t + 7)) 1 = z_ := ⟨_, rfl⟩
      have b17 : (-9223372036854775808) ≤ v17 ∧ v17 ≤ 9223372036854775807 := by rw [← e17]; exact (CI.r hC_M k16.2 (by decide) 1)
      have e18 : M3 ((t + 7)) 1 = v17 := (hf_M3.g k16.2 rfl).trans e17
      have e19 : M11 ((t + 7)) 1 = v17 := (hf_M11.g k16.2 rfl).trans e18
      refine jr.lald (i := 1) (x := v17) rfl (Nat.lt_trans (kx_3 k16.2).1 (by decide)) (kx_3 k16.2).2 (by decide) (by omega) (by omega) e19 ?_
      refine jr.ladd rfl ?_
      refine jr.lw (jl_w (v13 + v17)) (jl_w_eq _) ?_
      have b20 : -9223372036854775808 ≤ jl_w (v13 + v17) ∧ jl_w (v13 + v17) ≤ 9223372036854775807 := jbl_any _
      refine jr_s rfl rfl (Or.inr rfl) ⟨Nat.le_of_ble_eq_true rfl, Nat.le_of_ble_eq_true rfl⟩ rfl rfl (jc.deep (c_PacketWall_putNumber_tf hC_M11 (FR.rfl _ M11) (show kd 1 = 43 from rfl) (by omega) (by omega) (by omega) rfl (fun M21 hC_M21 hf_M21 w21_0 => ?_)) (Nat.le_of_ble_eq_true rfl))
      have ht_M21 : FR W_c_Flow_layRow_x T M21 := FR.t ht_M11 hf_M21 (kw_sub rfl)
      refine jr.aload_n rfl rfl ?_
      refine jr.iload_n rfl rfl ?_
      refine jr.bipush rfl (jbp _ (nlt rfl)) ?_
      refine jr.iadd rfl ?_
      refine jr.iconst rfl ?_
      refine jr.aload_n rfl rfl ?_
      refine jr.iload_n rfl rfl ?_
      refine jr.iload_n rfl rfl ?_
      refine jr.bipush rfl (jbp _ (nlt rfl)) ?_
      refine jr.iadd rfl ?_
      refine jr_s rfl rfl (Or.inr rfl) ⟨Nat.le_of_ble_eq_true rfl, Nat.le_of_ble_eq_true rfl⟩ rfl rfl (jc.deep (c_PacketWall_addedTwos_tx hC_M21 (by omega) (by omega) (by omega) (fun r22 z22 w22_0 => ?_)) (Nat.le_of_ble_eq_true rfl))
      refine jr_s rfl rfl (Or.inr rfl) ⟨Nat.le_of_ble_eq_true rfl, Nat.le_of_ble_eq_true rfl⟩ rfl rfl (jc.deep (c_PacketWall_foldedSum_x hC_M21 (by omega) (fun r23 z23 w23_0 => ?_)) (Nat.le_of_ble_eq_true rfl))
      refine jr.i2l rfl (by omega) ?_
      refine jr_s rfl rfl (Or.inr rfl) ⟨Nat.le_of_ble_eq_true rfl, Nat.le_of_ble_eq_true rfl⟩ rfl rfl (jc.deep (c_PacketWall_putNumber_tf hC_M21 (FR.rfl _ M21) (show kd 1 = 43 from rfl) (by omega) (by omega) (by omega) rfl (fun M24 hC_M24 hf_M24 w24_0 => ?_)) (Nat.le_of_ble_eq_true rfl))
      have ht_M24 : FR W_c_Flow_layRow_x T M24 := FR.t ht_M21 hf_M24 (kw_sub rfl)
      exact jr.vreturn rfl rfl (q _ hC_M24 ht_M24  ⟨(by unfold rcB; rw [(show T t 6 = _ from (hy1 t 6 (kd_ne (by rw [k_t]; decide))).symm.trans e1), (show T (t + 6) 0 = _ from (hy1 (t + 6) 0 (kd_ne (by rw [(kf_1_10 k_t).2]; decide))).symm.trans e5), (show T (t + 6) 1 = _ from (hy1 (t + 6) 1 (kd_ne (by rw [(kf_1_10 k_t).2]; decide))).symm.trans e8), (show T (t + 7) 0 = _ from (hy1 (t + 7) 0 (kd_ne (by rw [(kf_1_11 k_t).2]; decide))).symm.trans e13), (show T (t + 7) 1 = _ from (hy1 (t + 7) 1 (kd_ne (by rw [(kf_1_11 k_t).2]; decide))).symm.trans e17)]; exact lay_fin (by omega) (by have h9 := hy0; rw [show i = 2 from by omega] at h9; exact h9) w3_0 w11_0 w21_0 w24_0 w23_0 w22_0), (fun b k hb => ((w24_0.2 b k hb).trans ((w21_0.2 b k hb).trans ((w11_0.2 b k hb).trans ((w3_0.2 b k hb).trans (hy1 b k hb))))))⟩)
    · refine jr.aload_n rfl rfl ?_
      refine jr.iload_n rfl rfl ?_
      refine jr.iconst rfl ?_
      refine jr.iadd rfl ?_
      refine jr.iconst rfl ?_
      refine jr.iload rfl rfl ?_
      refine jr.imul rfl ?_
      refine jr.iadd rfl ?_
      refine jr.iconst rfl ?_
      refine jr.aload_n rfl rfl ?_
      have k25 := kf_1_4 k_t
      refine jr.getf (i := 4) (v := .ref (t + 2)) rfl rfl (Nat.lt_trans (kx_1 k_t).1 (by decide)) (kx_1 k_t).2 (by decide) rfl rfl rfl (jval_ref rfl k25.1) ?_
      refine jr.iload rfl rfl ?_
      obtain ⟨v26, e26⟩ : ∃ z_, M ((t + 2)) i = z_ := ⟨_, rfl⟩
      have b26 : (-2147483648) ≤ v26 ∧ v26 ≤ 2147483647 := by rw [← e26]; exact (CI.r hC_M k25.2 (by decide) i)
      refine jr.iald (i := i) (x := v26) rfl (Nat.lt_trans (kx_7 k25.2).1 (by decide)) (kx_7 k25.2).2 (by decide) (by omega) (by omega) e26 ?_
      refine jr.i2l rfl (by omega) ?_
      refine jr_s rfl rfl (Or.inr rfl) ⟨Nat.le_of_ble_eq_true rfl, Nat.le_of_ble_eq_true rfl⟩ rfl rfl (jc.deep (c_PacketWall_putNumber_tf hC_M (FR.rfl _ M) (show kd 1 = 43 from rfl) (by omega) (by omega) (by omega) rfl (fun M27 hC_M27 hf_M27 w27_0 => ?_)) (Nat.le_of_ble_eq_true rfl))
      have ht_M27 : FR W_c_Flow_layRow_x T M27 := FR.t ht_M hf_M27 (kw_sub rfl)
      refine jr.aload_n rfl rfl ?_
      refine jr.iload_n rfl rfl ?_
      refine jr.bipush rfl (jbp _ (nlt rfl)) ?_
      refine jr.iadd rfl ?_
      refine jr.iconst rfl ?_
      refine jr.iload rfl rfl ?_
      refine jr.imul rfl ?_
      refine jr.iadd rfl ?_
      refine jr.iconst rfl ?_
      refine jr.aload_n rfl rfl ?_
      have k28 := kf_1_9 k_t
      refine jr.getf (i := 9) (v := .ref (t + 5)) rfl rfl (Nat.lt_trans (kx_1 k_t).1 (by decide)) (kx_1 k_t).2 (by decide) rfl rfl rfl (jval_ref rfl k28.1) ?_
      refine jr.iload rfl rfl ?_
      obtain ⟨v29, e29⟩ : ∃ z_, M ((t + 5)) i = z_ := ⟨_, rfl⟩
      have b29 : (-2147483648) ≤ v29 ∧ v29 ≤ 2147483647 := by rw [← e29]; exact (CI.r hC_M k28.2 (by decide) i)
      have e30 : M27 ((t + 5)) i = v29 := (hf_M27.g k28.2 rfl).trans e29
      refine jr.iald (i := i) (x := v29) rfl (Nat.lt_trans (kx_8 k28.2).1 (by decide)) (kx_8 k28.2).2 (by decide) (by omega) (by omega) e30 ?_
      refine jr.i2l rfl (by omega) ?_
      refine jr_s rfl rfl (Or.inr rfl) ⟨Nat.le_of_ble_eq_true rfl, Nat.le_of_ble_eq_true rfl⟩ rfl rfl (jc.deep (c_PacketWall_putNumber_tf hC_M27 (FR.rfl _ M27) (show kd 1 = 43 from rfl) (by omega) (by omega) (by omega) rfl (fun M31 hC_M31 hf_M31 w31_0 => ?_)) (Nat.le_of_ble_eq_true rfl))
      have ht_M31 : FR W_c_Flow_layRow_x T M31 := FR.t ht_M27 hf_M31 (kw_sub rfl)
      refine jr.aload_n rfl rfl ?_
      refine jr.iload_n rfl rfl ?_
      refine jr.bipush rfl (jbp _ (nlt rfl)) ?_
      refine jr.iadd rfl ?_
      refine jr.bipush rfl (jbp _ (nlt rfl)) ?_
      refine jr.iload rfl rfl ?_
      refine jr.imul rfl ?_
      refine jr.iadd rfl ?_
      refine jr.bipush rfl (jbp _ (nlt rfl)) ?_
      refine jr.aload_n rfl rfl ?_
      have k32 := kf_1_3 k_t
      refine jr.getf (i := 3) (v := .ref (t + 1)) rfl rfl (Nat.lt_trans (kx_1 k_t).1 (by decide)) (kx_1 k_t).2 (by decide) rfl rfl rfl (jval_ref rfl k32.1) ?_
      refine jr.iload rfl rfl ?_
      obtain ⟨v33, e33⟩ : ∃ z_, M ((t + 1)) i = z_ := ⟨_, rfl⟩
      have b33 : (-9223372036854775808) ≤ v33 ∧ v33 ≤ 9223372036854775807 := by rw [← e33]; exact (CI.r hC_M k32.2 (by decide) i)
      have e34 : M27 ((t + 1)) i = v33 := (hf_M27.g k32.2 rfl).trans e33
      have e35 : M31 ((t + 1)) i = v33 := (hf_M31.g k32.2 rfl).trans e34
      refine jr.lald (i := i) (x := v33) rfl (Nat.lt_trans (kx_2 k32.2).1 (by decide)) (kx_2 k32.2).2 (by decide) (by omega) (by omega) e35 ?_
      refine jr_s rfl rfl (Or.inr rfl) ⟨Nat.le_of_ble_eq_true rfl, Nat.le_of_ble_eq_true rfl⟩ rfl rfl (jc.deep (c_PacketWall_putNumber_tf hC_M31 (FR.rfl _ M31) (show kd 1 = 43 from rfl) (by omega) (by omega) (by omega) rfl (fun M36 hC_M36 hf_M36 w36_0 => ?_)) (Nat.le_of_ble_eq_true rfl))
      have ht_M36 : FR W_c_Flow_layRow_x T M36 := FR.t ht_M31 hf_M36 (kw_sub rfl)
      refine jr.aload_n rfl rfl ?_
      refine jr.iload_n rfl rfl ?_
      refine jr.bipush rfl (jbp _ (nlt rfl)) ?_
      refine jr.iadd rfl ?_
      refine jr.iconst rfl ?_
      refine jr.iload rfl rfl ?_
      refine jr.imul rfl ?_
      refine jr.iadd rfl ?_
      refine jr.iconst rfl ?_
      refine jr.aload_n rfl rfl ?_
      have k37 := kf_1_7 k_t
      refine jr.getf (i := 7) (v := .ref (t + 3)) rfl rfl (Nat.lt_trans (kx_1 k_t).1 (by decide)) (kx_1 k_t).2 (by decide) rfl rfl rfl (jval_ref rfl k37.1) ?_
      refine jr.iload rfl rfl ?_
      obtain ⟨v38, e38⟩ : ∃ z_, M ((t + 3)) i = z_ := ⟨_, rfl⟩
      have b38 : (-2147483648) ≤ v38 ∧ v38 ≤ 2147483647 := by rw [← e38]; exact (CI.r hC_M k37.2 (by decide) i)
      have e39 : M27 ((t + 3)) i = v38 := (hf_M27.g k37.2 rfl).trans e38
      have e40 : M31 ((t + 3)) i = v38 := (hf_M31.g k37.2 rfl).trans e39
      have e41 : M36 ((t + 3)) i = v38 := (hf_M36.g k37.2 rfl).trans e40
      refine jr.iald (i := i) (x := v38) rfl (Nat.lt_trans (kx_5 k37.2).1 (by decide)) (kx_5 k37.2).2 (by decide) (by omega) (by omega) e41 ?_
      refine jr.i2l rfl (by omega) ?_
      refine jr_s rfl rfl (Or.inr rfl) ⟨Nat.le_of_ble_eq_true rfl, Nat.le_of_ble_eq_true rfl⟩ rfl rfl (jc.deep (c_PacketWall_putNumber_tf hC_M36 (FR.rfl _ M36) (show kd 1 = 43 from rfl) (by omega) (by omega) (by omega) rfl (fun M42 hC_M42 hf_M42 w42_0 => ?_)) (Nat.le_of_ble_eq_true rfl))
      have ht_M42 : FR W_c_Flow_layRow_x T M42 := FR.t ht_M36 hf_M42 (kw_sub rfl)
      refine jr.iinc (ls' := [_, _, _, _, _]) rfl rfl (nlt rfl) rfl ?_
      refine jr.goto rfl rfl ?_
      refine jr.pick (ls := [_, _, _, _, _]) [1, 2, 0, 3, 4] rfl rfl ?_
      exact ih (nM - 1) (by omega) M42 (i + 1) hC_M42 ht_M42 (by omega) (by omega) (by omega) (by rw [lyI_s (by omega), w42_0.pt (by omega), w36_0.pt (by omega), w31_0.pt (by omega), w27_0.pt (by omega), hy0, (show T (t + 2) i = _ from (hy1 (t + 2) i (kd_ne (by rw [(kf_1_4 k_t).2]; decide))).symm.trans e26), (show T (t + 5) i = _ from (hy1 (t + 5) i (kd_ne (by rw [(kf_1_9 k_t).2]; decide))).symm.trans e29), (show T (t + 1) i = _ from (hy1 (t + 1) i (kd_ne (by rw [(kf_1_3 k_t).2]; decide))).symm.trans e33), (show T (t + 3) i = _ from (hy1 (t + 3) i (kd_ne (by rw [(kf_1_7 k_t).2]; decide))).symm.trans e38)]; rfl) (fun b k hb => ((w42_0.2 b k hb).trans ((w36_0.2 b k hb).trans ((w31_0.2 b k hb).trans ((w27_0.2 b k hb).trans (hy1 b k hb)))))) (by omega)
theorem c_Flow_layRow_x_L62 {A : Nat → Option (Nat × (Nat → Int32))} {Q : Option Value → jm → Prop} {T : jm} {t : Nat} (k_t : kd t = 1) {y : Int} {z : Int} (q : ∀ (M' : jm), CI M' → FR W_c_Flow_layRow_x T M' → (M' 1 = rwl (T 1) y (rcB T t z) ∧ ∀ (b : Nat) (k : Int), b ≠ 1 → M' b k = T b k) → Q none M') : ∀ (nM : Nat) (M : jm) (a_ : Int), CI M → FR W_c_Flow_layRow_x T M → 0 ≤ y ∧ y ≤ 1552 → 0 ≤ z ∧ z ≤ 2000000000 → 0 ≤ a_ ∧ a_ ≤ 240 → (a_ = flgF T t) → (M = T) → 0 ≤ nM → jr A 2 xm_64 62 [(2, .int (Int32.ofInt (y))), (3, .int (Int32.ofInt (z))), (4, .int (Int32.ofInt (a_))), (0, .ref (t)), (1, .ref (1))] [] M Q := by
  intro nM
  induction nM using Nat.strongRecOn with
  | ind nM ih =>
    intro M a_ hC_M ht_M h_y h_z h_a_ hy0 hy1 hm
    refine jr.aload_n rfl rfl ?_
    refine jr.iload_n rfl rfl ?_
    refine jr.iconst rfl ?_
    refine jr.aload_n rfl rfl ?_
    obtain ⟨v1, e1⟩ : ∃ z_, M t 2 = z_ := ⟨_, rfl⟩
    have b1 : (-2147483648) ≤ v1 ∧ v1 ≤ 2147483647 := by rw [← e1]; exact (CI.r hC_M k_t (by decide) 2)
    refine jr.getf (i := 2) (x := v1) (v := .int (Int32.ofInt (v1))) rfl rfl (Nat.lt_trans (kx_1 k_t).1 (by decide)) (kx_1 k_t).2 (by decide) rfl rfl e1 rfl ?_
    refine jr.i2l rfl (by omega) ?_
    refine jr_s rfl rfl (Or.inr rfl) ⟨Nat.le_of_ble_eq_true rfl, Nat.le_of_ble_eq_true rfl⟩ rfl rfl (jc.deep (c_PacketWall_putNumber_tf hC_M (FR.rfl _ M) (show kd 1 = 43 from rfl) (by omega) (by omega) (by omega) rfl (fun M2 hC_M2 hf_M2 w2_0 => ?_)) (Nat.le_of_ble_eq_true rfl))
    have ht_M2 : FR W_c_Flow_layRow_x T M2 := FR.t ht_M hf_M2 (kw_sub rfl)
    refine jr.aload_n rfl rfl ?_
    refine jr.iload_n rfl rfl ?_
    refine jr.iconst rfl ?_
    refine jr.iadd rfl ?_
    refine jr.iconst rfl ?_
    refine jr.aload_n rfl rfl ?_
    obtain ⟨v3, e3⟩ : ∃ z_, M t 5 = z_ := ⟨_, rfl⟩
    have b3 : (-2147483648) ≤ v3 ∧ v3 ≤ 2147483647 := by rw [← e3]; exact (CI.r hC_M k_t (by decide) 5)
    have e4 : M2 t 5 = v3 := (hf_M2.g k_t rfl).trans e3
    refine jr.getf (i := 5) (x := v3) (v := .int (Int32.ofInt (v3))) rfl rfl (Nat.lt_trans (kx_1 k_t).1 (by decide)) (kx_1 k_t).2 (by decide) rfl rfl e4 rfl ?_
    refine jr.iload rfl rfl ?_
    refine jr.iadd rfl ?_
    refine jr.iw (j_w (v3 + a_)) (j_w_eq _) ?_
    have b5 : -2147483648 ≤ j_w (v3 + a_) ∧ j_w (v3 + a_) ≤ 2147483647 := jb_any _
    refine jr.i2l rfl (by omega) ?_
    refine jr_s rfl rfl (Or.inr rfl) ⟨Nat.le_of_ble_eq_true rfl, Nat.le_of_ble_eq_true rfl⟩ rfl rfl (jc.deep (c_PacketWall_putNumber_tf hC_M2 (FR.rfl _ M2) (show kd 1 = 43 from rfl) (by omega) (by omega) (by omega) rfl (fun M6 hC_M6 hf_M6 w6_0 => ?_)) (Nat.le_of_ble_eq_true rfl))
    have ht_M6 : FR W_c_Flow_layRow_x T M6 := FR.t ht_M2 hf_M6 (kw_sub rfl)
    refine jr.iconst rfl ?_
    refine jr.istore (ls' := [_, _, _, _, _, _]) rfl (nlt rfl) rfl ?_
    refine jr.pick (ls := [_, _, _, _, _]) [1, 2, 0, 4, 5] rfl rfl ?_
    exact c_Flow_layRow_x_L92 k_t q 2 M6 0 hC_M6 ht_M6 (by omega) (by omega) (by omega) (by rw [w6_0.pt (by omega), w2_0.pt (by omega), ← hy0, ← hy1, e1, e3]; rfl) (fun b k hb => ((w6_0.2 b k hb).trans ((w2_0.2 b k hb).trans (by rw [hy1])))) (by omega)
theorem c_Flow_layRow_x {A : Nat → Option (Nat × (Nat → Int32))} {Q : Option Value → jm → Prop} {T : jm} {M : jm} (hC_M : CI M) (ht_M : FR W_c_Flow_layRow_x T M) {t : Nat} (k_t : kd t = 1) {y : Int} (h_y : 0 ≤ y ∧ y ≤ 1552) {z : Int} (h_z : 0 ≤ z ∧ z ≤ 2000000000) (p0 : T = M) (q : ∀ (M' : jm), CI M' → FR W_c_Flow_layRow_x T M' → (M' 1 = rwl (T 1) y (rcB T t z) ∧ ∀ (b : Nat) (k : Int), b ≠ 1 → M' b k = T b k) → Q none M') : jc A 3 64 [.ref (t), .ref (1), .int (Int32.ofInt (y)), .int (Int32.ofInt (z))] M Q := by
  refine jc_of (m := xm_64) rfl (Nat.le_of_ble_eq_true rfl) rfl ?_
  refine jr.aload_n rfl rfl ?_
  obtain ⟨v1, e1⟩ : ∃ z_, M t 1 = z_ := ⟨_, rfl⟩
  have b1 : 0 ≤ v1 ∧ v1 ≤ 1 := by rw [← e1]; exact (CI.r hC_M k_t (by decide) 1)
  refine jr.getf (i := 1) (x := v1) (v := .int (Int32.ofInt (v1))) rfl rfl (Nat.lt_trans (kx_1 k_t).1 (by decide)) (kx_1 k_t).2 (by decide) rfl rfl e1 rfl ?_
  refine jr.if_eq rfl rfl (by first | (refine rgb (by assumption) ?_; exact rfl) | omega) (fun h4 => ?_) (fun h4 => ?_)
  · refine jr.iconst rfl ?_
    refine jr.aload_n rfl rfl ?_
    have k2 := kf_1_8 k_t
    refine jr.getf (i := 8) (v := .ref (t + 4)) rfl rfl (Nat.lt_trans (kx_1 k_t).1 (by decide)) (kx_1 k_t).2 (by decide) rfl rfl rfl (jval_ref rfl k2.1) ?_
    refine jr.iconst rfl ?_
    obtain ⟨v3, e3⟩ : ∃ z_, M ((t + 4)) 0 = z_ := ⟨_, rfl⟩
    have b3 : 0 ≤ v3 ∧ v3 ≤ 1 := by rw [← e3]; exact (CI.r hC_M k2.2 (by decide) 0)
    refine jr.zald (i := 0) (x := v3) rfl (Nat.lt_trans (kx_4 k2.2).1 (by decide)) (kx_4 k2.2).2 (by decide) (by omega) (by omega) e3 ?_
    refine jr.if_eq rfl rfl (by first | (refine rgb (by assumption) ?_; exact rfl) | omega) (fun h19 => ?_) (fun h19 => ?_)
    · refine jr.iconst rfl ?_
      refine jr.iadd rfl ?_
      refine jr.aload_n rfl rfl ?_
      have k4 := kf_1_8 k_t
      refine jr.getf (i := 8) (v := .ref (t + 4)) rfl rfl (Nat.lt_trans (kx_1 k_t).1 (by decide)) (kx_1 k_t).2 (by decide) rfl rfl rfl (jval_ref rfl k4.1) ?_
      refine jr.iconst rfl ?_
      obtain ⟨v5, e5⟩ : ∃ z_, M ((t + 4)) 1 = z_ := ⟨_, rfl⟩
      have b5 : 0 ≤ v5 ∧ v5 ≤ 1 := by rw [← e5]; exact (CI.r hC_M k4.2 (by decide) 1)
      refine jr.zald (i := 1) (x := v5) rfl (Nat.lt_trans (kx_4 k4.2).1 (by decide)) (kx_4 k4.2).2 (by decide) (by omega) (by omega) e5 ?_
      refine jr.if_eq rfl rfl (by first | (refine rgb (by assumption) ?_; exact rfl) | omega) (fun h35 => ?_) (fun h35 => ?_)
      · refine jr.iconst rfl ?_
        refine jr.iadd rfl ?_
        refine jr.aload_n rfl rfl ?_
        obtain ⟨v6, e6⟩ : ∃ z_, M t 12 = z_ := ⟨_, rfl⟩
        have b6 : 0 ≤ v6 ∧ v6 ≤ 1 := by rw [← e6]; exact (CI.r hC_M k_t (by decide) 12)
        refine jr.getf (i := 12) (x := v6) (v := .int (Int32.ofInt (v6))) rfl rfl (Nat.lt_trans (kx_1 k_t).1 (by decide)) (kx_1 k_t).2 (by decide) rfl rfl e6 rfl ?_
        refine jr.if_eq rfl rfl (by first | (refine rgb (by assumption) ?_; exact rfl) | omega) (fun h49 => ?_) (fun h49 => ?_)
        · refine jr.iconst rfl ?_
          refine jr.iadd rfl ?_
          refine jr.istore (ls' := [_, _, _, _, _]) rfl (nlt rfl) rfl ?_
          refine jr.pick (ls := [_, _, _, _, _]) [3, 4, 0, 1, 2] rfl rfl ?_
          exact c_Flow_layRow_x_L62 k_t q 0 M (((0 + 0) + 0) + 0) hC_M ht_M (by omega) (by omega) (by omega) (by unfold flgF; rw [p0]; (repeat' split) <;> omega) p0.symm (by omega)
        · have sx49 : (1 : Int) ≤ v6 := by omega
          clear h49
          refine jr.sipush rfl (by decide) ?_
          refine jr.goto rfl rfl ?_
          refine jr.iadd rfl ?_
          refine jr.istore (ls' := [_, _, _, _, _]) rfl (nlt rfl) rfl ?_
          refine jr.pick (ls := [_, _, _, _, _]) [3, 4, 0, 1, 2] rfl rfl ?_
          exact c_Flow_layRow_x_L62 k_t q 0 M (((0 + 0) + 0) + 128) hC_M ht_M (by omega) (by omega) (by omega) (by unfold flgF; rw [p0]; (repeat' split) <;> omega) p0.symm (by omega)
      · have sx35 : (1 : Int) ≤ v5 := by omega
        clear h35
        refine jr.bipush rfl (jbp _ (nlt rfl)) ?_
        refine jr.goto rfl rfl ?_
        refine jr.iadd rfl ?_
        refine jr.aload_n rfl rfl ?_
        obtain ⟨v7, e7⟩ : ∃ z_, M t 12 = z_ := ⟨_, rfl⟩
        have b7 : 0 ≤ v7 ∧ v7 ≤ 1 := by rw [← e7]; exact (CI.r hC_M k_t (by decide) 12)
        refine jr.getf (i := 12) (x := v7) (v := .int (Int32.ofInt (v7))) rfl rfl (Nat.lt_trans (kx_1 k_t).1 (by decide)) (kx_1 k_t).2 (by decide) rfl rfl e7 rfl ?_
        refine jr.if_eq rfl rfl (by first | (refine rgb (by assumption) ?_; exact rfl) | omega) (fun h49 => ?_) (fun h49 => ?_)
        · refine jr.iconst rfl ?_
          refine jr.iadd rfl ?_
          refine jr.istore (ls' := [_, _, _, _, _]) rfl (nlt rfl) rfl ?_
          refine jr.pick (ls := [_, _, _, _, _]) [3, 4, 0, 1, 2] rfl rfl ?_
          exact c_Flow_layRow_x_L62 k_t q 0 M (((0 + 0) + 64) + 0) hC_M ht_M (by omega) (by omega) (by omega) (by unfold flgF; rw [p0]; (repeat' split) <;> omega) p0.symm (by omega)
        · have sx49 : (1 : Int) ≤ v7 := by omega
          clear h49
          refine jr.sipush rfl (by decide) ?_
          refine jr.goto rfl rfl ?_
          refine jr.iadd rfl ?_
          refine jr.istore (ls' := [_, _, _, _, _]) rfl (nlt rfl) rfl ?_
          refine jr.pick (ls := [_, _, _, _, _]) [3, 4, 0, 1, 2] rfl rfl ?_
          exact c_Flow_layRow_x_L62 k_t q 0 M (((0 + 0) + 64) + 128) hC_M ht_M (by omega) (by omega) (by omega) (by unfold flgF; rw [p0]; (repeat' split) <;> omega) p0.symm (by omega)
    · have sx19 : (1 : Int) ≤ v3 := by omega
      clear h19
      refine jr.bipush rfl (jbp _ (nlt rfl)) ?_
      refine jr.goto rfl rfl ?_
      refine jr.iadd rfl ?_
      refine jr.aload_n rfl rfl ?_
      have k8 := kf_1_8 k_t
      refine jr.getf (i := 8) (v := .ref (t + 4)) rfl rfl (Nat.lt_trans (kx_1 k_t).1 (by decide)) (kx_1 k_t).2 (by decide) rfl rfl rfl (jval_ref rfl k8.1) ?_
      refine jr.iconst rfl ?_
      obtain ⟨v9, e9⟩ : ∃ z_, M ((t + 4)) 1 = z_ := ⟨_, rfl⟩
      have b9 : 0 ≤ v9 ∧ v9 ≤ 1 := by rw [← e9]; exact (CI.r hC_M k8.2 (by decide) 1)
      refine jr.zald (i := 1) (x := v9) rfl (Nat.lt_trans (kx_4 k8.2).1 (by decide)) (kx_4 k8.2).2 (by decide) (by omega) (by omega) e9 ?_
      refine jr.if_eq rfl rfl (by first | (refine rgb (by assumption) ?_; exact rfl) | omega) (fun h35 => ?_) (fun h35 => ?_)
      · refine jr.iconst rfl ?_
        refine jr.iadd rfl ?_
        refine jr.aload_n rfl rfl ?_
        obtain ⟨v10, e10⟩ : ∃ z_, M t 12 = z_ := ⟨_, rfl⟩
        have b10 : 0 ≤ v10 ∧ v10 ≤ 1 := by rw [← e10]; exact (CI.r hC_M k_t (by decide) 12)
        refine jr.getf (i := 12) (x := v10) (v := .int (Int32.ofInt (v10))) rfl rfl (Nat.lt_trans (kx_1 k_t).1 (by decide)) (kx_1 k_t).2 (by decide) rfl rfl e10 rfl ?_
        refine jr.if_eq rfl rfl (by first | (refine rgb (by assumption) ?_; exact rfl) | omega) (fun h49 => ?_) (fun h49 => ?_)
        · refine jr.iconst rfl ?_
          refine jr.iadd rfl ?_
          refine jr.istore (ls' := [_, _, _, _, _]) rfl (nlt rfl) rfl ?_
          refine jr.pick (ls := [_, _, _, _, _]) [3, 4, 0, 1, 2] rfl rfl ?_
          exact c_Flow_layRow_x_L62 k_t q 0 M (((0 + 32) + 0) + 0) hC_M ht_M (by omega) (by omega) (by omega) (by unfold flgF; rw [p0]; (repeat' split) <;> omega) p0.symm (by omega)
        · have sx49 : (1 : Int) ≤ v10 := by omega
          clear h49
          refine jr.sipush rfl (by decide) ?_
          refine jr.goto rfl rfl ?_
          refine jr.iadd rfl ?_
          refine jr.istore (ls' := [_, _, _, _, _]) rfl (nlt rfl) rfl ?_
          refine jr.pick (ls := [_, _, _, _, _]) [3, 4, 0, 1, 2] rfl rfl ?_
          exact c_Flow_layRow_x_L62 k_t q 0 M (((0 + 32) + 0) + 128) hC_M ht_M (by omega) (by omega) (by omega) (by unfold flgF; rw [p0]; (repeat' split) <;> omega) p0.symm (by omega)
      · have sx35 : (1 : Int) ≤ v9 := by omega
        clear h35
        refine jr.bipush rfl (jbp _ (nlt rfl)) ?_
        refine jr.goto rfl rfl ?_
        refine jr.iadd rfl ?_
        refine jr.aload_n rfl rfl ?_
        obtain ⟨v11, e11⟩ : ∃ z_, M t 12 = z_ := ⟨_, rfl⟩
        have b11 : 0 ≤ v11 ∧ v11 ≤ 1 := by rw [← e11]; exact (CI.r hC_M k_t (by decide) 12)
        refine jr.getf (i := 12) (x := v11) (v := .int (Int32.ofInt (v11))) rfl rfl (Nat.lt_trans (kx_1 k_t).1 (by decide)) (kx_1 k_t).2 (by decide) rfl rfl e11 rfl ?_
        refine jr.if_eq rfl rfl (by first | (refine rgb (by assumption) ?_; exact rfl) | omega) (fun h49 => ?_) (fun h49 => ?_)
        · refine jr.iconst rfl ?_
          refine jr.iadd rfl ?_
          refine jr.istore (ls' := [_, _, _, _, _]) rfl (nlt rfl) rfl ?_
          refine jr.pick (ls := [_, _, _, _, _]) [3, 4, 0, 1, 2] rfl rfl ?_
          exact c_Flow_layRow_x_L62 k_t q 0 M (((0 + 32) + 64) + 0) hC_M ht_M (by omega) (by omega) (by omega) (by unfold flgF; rw [p0]; (repeat' split) <;> omega) p0.symm (by omega)
        · have sx49 : (1 : Int) ≤ v11 := by omega
          clear h49
          refine jr.sipush rfl (by decide) ?_
          refine jr.goto rfl rfl ?_
          refine jr.iadd rfl ?_
          refine jr.istore (ls' := [_, _, _, _, _]) rfl (nlt rfl) rfl ?_
          refine jr.pick (ls := [_, _, _, _, _]) [3, 4, 0, 1, 2] rfl rfl ?_
          exact c_Flow_layRow_x_L62 k_t q 0 M (((0 + 32) + 64) + 128) hC_M ht_M (by omega) (by omega) (by omega) (by unfold flgF; rw [p0]; (repeat' split) <;> omega) p0.symm (by omega)
  · have sx4 : (1 : Int) ≤ v1 := by omega
    clear h4
    refine jr.bipush rfl (jbp _ (nlt rfl)) ?_
    refine jr.goto rfl rfl ?_
    refine jr.aload_n rfl rfl ?_
    have k12 := kf_1_8 k_t
    refine jr.getf (i := 8) (v := .ref (t + 4)) rfl rfl (Nat.lt_trans (kx_1 k_t).1 (by decide)) (kx_1 k_t).2 (by decide) rfl rfl rfl (jval_ref rfl k12.1) ?_
    refine jr.iconst rfl ?_
    obtain ⟨v13, e13⟩ : ∃ z_, M ((t + 4)) 0 = z_ := ⟨_, rfl⟩
    have b13 : 0 ≤ v13 ∧ v13 ≤ 1 := by rw [← e13]; exact (CI.r hC_M k12.2 (by decide) 0)
    refine jr.zald (i := 0) (x := v13) rfl (Nat.lt_trans (kx_4 k12.2).1 (by decide)) (kx_4 k12.2).2 (by decide) (by omega) (by omega) e13 ?_
    refine jr.if_eq rfl rfl (by first | (refine rgb (by assumption) ?_; exact rfl) | omega) (fun h19 => ?_) (fun h19 => ?_)
    · refine jr.iconst rfl ?_
      refine jr.iadd rfl ?_
      refine jr.aload_n rfl rfl ?_
      have k14 := kf_1_8 k_t
      refine jr.getf (i := 8) (v := .ref (t + 4)) rfl rfl (Nat.lt_trans (kx_1 k_t).1 (by decide)) (kx_1 k_t).2 (by decide) rfl rfl rfl (jval_ref rfl k14.1) ?_
      refine jr.iconst rfl ?_
      obtain ⟨v15, e15⟩ : ∃ z_, M ((t + 4)) 1 = z_ := ⟨_, rfl⟩
      have b15 : 0 ≤ v15 ∧ v15 ≤ 1 := by rw [← e15]; exact (CI.r hC_M k14.2 (by decide) 1)
      refine jr.zald (i := 1) (x := v15) rfl (Nat.lt_trans (kx_4 k14.2).1 (by decide)) (kx_4 k14.2).2 (by decide) (by omega) (by omega) e15 ?_
      refine jr.if_eq rfl rfl (by first | (refine rgb (by assumption) ?_; exact rfl) | omega) (fun h35 => ?_) (fun h35 => ?_)
      · refine jr.iconst rfl ?_
        refine jr.iadd rfl ?_
        refine jr.aload_n rfl rfl ?_
        obtain ⟨v16, e16⟩ : ∃ z_, M t 12 = z_ := ⟨_, rfl⟩
        have b16 : 0 ≤ v16 ∧ v16 ≤ 1 := by rw [← e16]; exact (CI.r hC_M k_t (by decide) 12)
        refine jr.getf (i := 12) (x := v16) (v := .int (Int32.ofInt (v16))) rfl rfl (Nat.lt_trans (kx_1 k_t).1 (by decide)) (kx_1 k_t).2 (by decide) rfl rfl e16 rfl ?_
        refine jr.if_eq rfl rfl (by first | (refine rgb (by assumption) ?_; exact rfl) | omega) (fun h49 => ?_) (fun h49 => ?_)
        · refine jr.iconst rfl ?_
          refine jr.iadd rfl ?_
          refine jr.istore (ls' := [_, _, _, _, _]) rfl (nlt rfl) rfl ?_
          refine jr.pick (ls := [_, _, _, _, _]) [3, 4, 0, 1, 2] rfl rfl ?_
          exact c_Flow_layRow_x_L62 k_t q 0 M (((16 + 0) + 0) + 0) hC_M ht_M (by omega) (by omega) (by omega) (by unfold flgF; rw [p0]; (repeat' split) <;> omega) p0.symm (by omega)
        · have sx49 : (1 : Int) ≤ v16 := by omega
          clear h49
          refine jr.sipush rfl (by decide) ?_
          refine jr.goto rfl rfl ?_
          refine jr.iadd rfl ?_
          refine jr.istore (ls' := [_, _, _, _, _]) rfl (nlt rfl) rfl ?_
          refine jr.pick (ls := [_, _, _, _, _]) [3, 4, 0, 1, 2] rfl rfl ?_
          exact c_Flow_layRow_x_L62 k_t q 0 M (((16 + 0) + 0) + 128) hC_M ht_M (by omega) (by omega) (by omega) (by unfold flgF; rw [p0]; (repeat' split) <;> omega) p0.symm (by omega)
      · have sx35 : (1 : Int) ≤ v15 := by omega
        clear h35
        refine jr.bipush rfl (jbp _ (nlt rfl)) ?_
        refine jr.goto rfl rfl ?_
        refine jr.iadd rfl ?_
        refine jr.aload_n rfl rfl ?_
        obtain ⟨v17, e17⟩ : ∃ z_, M t 12 = z_ := ⟨_, rfl⟩
        have b17 : 0 ≤ v17 ∧ v17 ≤ 1 := by rw [← e17]; exact (CI.r hC_M k_t (by decide) 12)
        refine jr.getf (i := 12) (x := v17) (v := .int (Int32.ofInt (v17))) rfl rfl (Nat.lt_trans (kx_1 k_t).1 (by decide)) (kx_1 k_t).2 (by decide) rfl rfl e17 rfl ?_
        refine jr.if_eq rfl rfl (by first | (refine rgb (by assumption) ?_; exact rfl) | omega) (fun h49 => ?_) (fun h49 => ?_)
        · refine jr.iconst rfl ?_
          refine jr.iadd rfl ?_
          refine jr.istore (ls' := [_, _, _, _, _]) rfl (nlt rfl) rfl ?_
          refine jr.pick (ls := [_, _, _, _, _]) [3, 4, 0, 1, 2] rfl rfl ?_
          exact c_Flow_layRow_x_L62 k_t q 0 M (((16 + 0) + 64) + 0) hC_M ht_M (by omega) (by omega) (by omega) (by unfold flgF; rw [p0]; (repeat' split) <;> omega) p0.symm (by omega)
        · have sx49 : (1 : Int) ≤ v17 := by omega
          clear h49
          refine jr.sipush rfl (by decide) ?_
          refine jr.goto rfl rfl ?_
          refine jr.iadd rfl ?_
          refine jr.istore (ls' := [_, _, _, _, _]) rfl (nlt rfl) rfl ?_
          refine jr.pick (ls := [_, _, _, _, _]) [3, 4, 0, 1, 2] rfl rfl ?_
          exact c_Flow_layRow_x_L62 k_t q 0 M (((16 + 0) + 64) + 128) hC_M ht_M (by omega) (by omega) (by omega) (by unfold flgF; rw [p0]; (repeat' split) <;> omega) p0.symm (by omega)
    · have sx19 : (1 : Int) ≤ v13 := by omega
      clear h19
      refine jr.bipush rfl (jbp _ (nlt rfl)) ?_
      refine jr.goto rfl rfl ?_
      refine jr.iadd rfl ?_
      refine jr.aload_n rfl rfl ?_
      have k18 := kf_1_8 k_t
      refine jr.getf (i := 8) (v := .ref (t + 4)) rfl rfl (Nat.lt_trans (kx_1 k_t).1 (by decide)) (kx_1 k_t).2 (by decide) rfl rfl rfl (jval_ref rfl k18.1) ?_
      refine jr.iconst rfl ?_
      obtain ⟨v19, e19⟩ : ∃ z_, M ((t + 4)) 1 = z_ := ⟨_, rfl⟩
      have b19 : 0 ≤ v19 ∧ v19 ≤ 1 := by rw [← e19]; exact (CI.r hC_M k18.2 (by decide) 1)
      refine jr.zald (i := 1) (x := v19) rfl (Nat.lt_trans (kx_4 k18.2).1 (by decide)) (kx_4 k18.2).2 (by decide) (by omega) (by omega) e19 ?_
      refine jr.if_eq rfl rfl (by first | (refine rgb (by assumption) ?_; exact rfl) | omega) (fun h35 => ?_) (fun h35 => ?_)
      · refine jr.iconst rfl ?_
        refine jr.iadd rfl ?_
        refine jr.aload_n rfl rfl ?_
        obtain ⟨v20, e20⟩ : ∃ z_, M t 12 = z_ := ⟨_, rfl⟩
        have b20 : 0 ≤ v20 ∧ v20 ≤ 1 := by rw [← e20]; exact (CI.r hC_M k_t (by decide) 12)
        refine jr.getf (i := 12) (x := v20) (v := .int (Int32.ofInt (v20))) rfl rfl (Nat.lt_trans (kx_1 k_t).1 (by decide)) (kx_1 k_t).2 (by decide) rfl rfl e20 rfl ?_
        refine jr.if_eq rfl rfl (by first | (refine rgb (by assumption) ?_; exact rfl) | omega) (fun h49 => ?_) (fun h49 => ?_)
        · refine jr.iconst rfl ?_
          refine jr.iadd rfl ?_
          refine jr.istore (ls' := [_, _, _, _, _]) rfl (nlt rfl) rfl ?_
          refine jr.pick (ls := [_, _, _, _, _]) [3, 4, 0, 1, 2] rfl rfl ?_
          exact c_Flow_layRow_x_L62 k_t q 0 M (((16 + 32) + 0) + 0) hC_M ht_M (by omega) (by omega) (by omega) (by unfold flgF; rw [p0]; (repeat' split) <;> omega) p0.symm (by omega)
        · have sx49 : (1 : Int) ≤ v20 := by omega
          clear h49
          refine jr.sipush rfl (by decide) ?_
          refine jr.goto rfl rfl ?_
          refine jr.iadd rfl ?_
          refine jr.istore (ls' := [_, _, _, _, _]) rfl (nlt rfl) rfl ?_
          refine jr.pick (ls := [_, _, _, _, _]) [3, 4, 0, 1, 2] rfl rfl ?_
          exact c_Flow_layRow_x_L62 k_t q 0 M (((16 + 32) + 0) + 128) hC_M ht_M (by omega) (by omega) (by omega) (by unfold flgF; rw [p0]; (repeat' split) <;> omega) p0.symm (by omega)
      · have sx35 : (1 : Int) ≤ v19 := by omega
        clear h35
        refine jr.bipush rfl (jbp _ (nlt rfl)) ?_
        refine jr.goto rfl rfl ?_
        refine jr.iadd rfl ?_
        refine jr.aload_n rfl rfl ?_
        obtain ⟨v21, e21⟩ : ∃ z_, M t 12 = z_ := ⟨_, rfl⟩
        have b21 : 0 ≤ v21 ∧ v21 ≤ 1 := by rw [← e21]; exact (CI.r hC_M k_t (by decide) 12)
        refine jr.getf (i := 12) (x := v21) (v := .int (Int32.ofInt (v21))) rfl rfl (Nat.lt_trans (kx_1 k_t).1 (by decide)) (kx_1 k_t).2 (by decide) rfl rfl e21 rfl ?_
        refine jr.if_eq rfl rfl (by first | (refine rgb (by assumption) ?_; exact rfl) | omega) (fun h49 => ?_) (fun h49 => ?_)
        · refine jr.iconst rfl ?_
          refine jr.iadd rfl ?_
          refine jr.istore (ls' := [_, _, _, _, _]) rfl (nlt rfl) rfl ?_
          refine jr.pick (ls := [_, _, _, _, _]) [3, 4, 0, 1, 2] rfl rfl ?_
          exact c_Flow_layRow_x_L62 k_t q 0 M (((16 + 32) + 64) + 0) hC_M ht_M (by omega) (by omega) (by omega) (by unfold flgF; rw [p0]; (repeat' split) <;> omega) p0.symm (by omega)
        · have sx49 : (1 : Int) ≤ v21 := by omega
          clear h49
          refine jr.sipush rfl (by decide) ?_
          refine jr.goto rfl rfl ?_
          refine jr.iadd rfl ?_
          refine jr.istore (ls' := [_, _, _, _, _]) rfl (nlt rfl) rfl ?_
          refine jr.pick (ls := [_, _, _, _, _]) [3, 4, 0, 1, 2] rfl rfl ?_
          exact c_Flow_layRow_x_L62 k_t q 0 M (((16 + 32) + 64) + 128) hC_M ht_M (by omega) (by omega) (by omega) (by unfold flgF; rw [p0]; (repeat' split) <;> omega) p0.symm (by omega)
noncomputable def uC (T : jm) (V : Nat) (i : Int) : Int := if T (xe V i) 0 ≠ 0 ∧ T (xe V i) 13 = -1 then 1 else 0
noncomputable def bC (T : jm) (V : Nat) (Z i : Int) : Int → Int := rcB T (xe V i) Z
theorem uC_0 {T : jm} {V : Nat} {i : Int} (h : ¬ (T (xe V i) 0 ≠ 0 ∧ T (xe V i) 13 = -1)) : uC T V i = 0 := if_neg h
theorem uC_1 {T : jm} {V : Nat} {i : Int} (h : T (xe V i) 0 ≠ 0 ∧ T (xe V i) 13 = -1) : uC T V i = 1 := if_pos h
noncomputable def W_c_Flows_layTable_x : List (Nat × Nat) := [(43, 1000)]
theorem c_Flows_layTable_x_L5 {A : Nat → Option (Nat × (Nat → Int32))} {Q : Option Value → jm → Prop} {T : jm} {V : Int} {y : Int} (q : ∀ (r : Int) (M' : jm), CI M' → FR W_c_Flows_layTable_x T M' → 0 ≤ r ∧ r ≤ 1152 → ((M' 1 = (exL (uC T V.toNat) (bC T V.toNat y) (T 1) 24).1 ∧ r = (exL (uC T V.toNat) (bC T V.toNat y) (T 1) 24).2) ∧ ∀ (b : Nat) (k : Int), b ≠ 1 → M' b k = T b k) → Q (some (.int (Int32.ofInt r))) M') : ∀ (nM : Nat) (M : jm) (n : Int) (i : Int), CI M → FR W_c_Flows_layTable_x T M → 0 ≤ y ∧ y ≤ 2000000000 → 0 ≤ n ∧ n ≤ 1152 → 0 ≤ i ∧ i ≤ 24 → M 15 0 = V → (M 1 = (exL (uC T V.toNat) (bC T V.toNat y) (T 1) i.toNat).1 ∧ n = (exL (uC T V.toNat) (bC T V.toNat y) (T 1) i.toNat).2) → (∀ (b : Nat) (k : Int), b ≠ 1 → M b k = T b k) → (n ≤ 48 * i) → 24 - i ≤ nM → jr A 3 xm_83 5 [(2, .int (Int32.ofInt (y))), (3, .int (Int32.ofInt (n))), (4, .int (Int32.ofInt (i))), (0, .ref (15)), (1, .ref (1))] [] M Q := by
  intro nM
  induction nM using Nat.strongRecOn with
  | ind nM ih =>
    intro M n i hC_M ht_M h_y h_n h_i g_V hy0 hy1 hy2 hm
    have b_V : 16 ≤ V ∧ V ≤ 17 := by rw [← g_V]; exact (CI.r hC_M (show kd 15 = 9 from rfl) (by decide) 0)
    refine jr.iload rfl rfl ?_
    refine jr.bipush rfl (jbp _ (nlt rfl)) ?_
    refine jr.icmp_ge rfl rfl (by first | (refine rgb (by assumption) ?_; exact rfl) | omega) (rgl rfl) (fun h9 => ?_) (fun h9 => ?_)
    · refine jr.iload_n rfl rfl ?_
      exact jr.ireturn rfl rfl rfl (q _ _ hC_M ht_M (by omega) ⟨by have h9 := hy0; rw [show i = 24 from by omega] at h9; exact h9, hy1⟩)
    · refine jr.aload_n rfl rfl ?_
      have k1 : kd (V).toNat = 13 := by rcases (show V = 16 ∨ V = 17 by omega) with h | h <;> (rw [h]; rfl)
      refine jr.getf (i := 0) (x := V) (v := .ref (V.toNat)) rfl rfl (nlt rfl) rfl (nlt rfl) rfl rfl g_V rfl ?_
      refine jr.iload rfl rfl ?_
      have k2 := kxe_13 k1 (i := i) (by omega) (by omega)
      refine jr.aald (c := (xe ((V.toNat)) i)) rfl (Nat.lt_trans (kx_13 k1).1 (by decide)) (kx_13 k1).2 (by decide) (by decide) rfl (by decide) (by omega) (by omega) k2.1 ?_
      obtain ⟨v3, e3⟩ : ∃ z_, M ((xe ((V.toNat)) i)) 0 = z_ := ⟨_, rfl⟩
      have b3 : 0 ≤ v3 ∧ v3 ≤ 1 := by rw [← e3]; exact (CI.r hC_M k2.2 (by decide) 0)
      refine jr.getf (i := 0) (x := v3) (v := .int (Int32.ofInt (v3))) rfl rfl (Nat.lt_trans (kx_1 k2.2).1 (by decide)) (kx_1 k2.2).2 (by decide) rfl rfl e3 rfl ?_
      refine jr.if_eq rfl rfl (by first | (refine rgb (by assumption) ?_; exact rfl) | omega) (fun h22 => ?_) (fun h22 => ?_)
      · refine jr.iinc (ls' := [_, _, _, _, _]) rfl rfl (nlt rfl) rfl ?_
        refine jr.goto rfl rfl ?_
        refine jr.pick (ls := [_, _, _, _, _]) [1, 2, 0, 3, 4] rfl rfl ?_
        exact ih (nM - 1) (by omega) M n (i + 1) hC_M ht_M (by omega) (by omega) (by omega) g_V (by rw [exL_s (by omega), if_pos (uC_0 (fun u => by rw [← hy1 _ 0 (kd_ne (by rw [k2.2]; decide)), e3] at u; omega))]; exact hy0) hy1 (by omega) (by omega)
      · have sx22 : (1 : Int) ≤ v3 := by omega
        clear h22
        refine jr.aload_n rfl rfl ?_
        have k4 : kd (V).toNat = 13 := by rcases (show V = 16 ∨ V = 17 by omega) with h | h <;> (rw [h]; rfl)
        refine jr.getf (i := 0) (x := V) (v := .ref (V.toNat)) rfl rfl (nlt rfl) rfl (nlt rfl) rfl rfl g_V rfl ?_
        refine jr.iload rfl rfl ?_
        have k5 := kxe_13 k4 (i := i) (by omega) (by omega)
        refine jr.aald (c := (xe ((V.toNat)) i)) rfl (Nat.lt_trans (kx_13 k4).1 (by decide)) (kx_13 k4).2 (by decide) (by decide) rfl (by decide) (by omega) (by omega) k5.1 ?_
        obtain ⟨v6, e6⟩ : ∃ z_, M ((xe ((V.toNat)) i)) 13 = z_ := ⟨_, rfl⟩
        have b6 : (-2147483648) ≤ v6 ∧ v6 ≤ 2147483647 := by rw [← e6]; exact (CI.r hC_M k5.2 (by decide) 13)
        refine jr.getf (i := 13) (x := v6) (v := .int (Int32.ofInt (v6))) rfl rfl (Nat.lt_trans (kx_1 k5.2).1 (by decide)) (kx_1 k5.2).2 (by decide) rfl rfl e6 rfl ?_
        refine jr.iconst rfl ?_
        refine jr.icmp_ne rfl rfl (by first | (refine rgb (by assumption) ?_; exact rfl) | omega) (rgl rfl) (fun h36 => ?_) (fun h36 => ?_)
        · refine jr.iinc (ls' := [_, _, _, _, _]) rfl rfl (nlt rfl) rfl ?_
          refine jr.goto rfl rfl ?_
          refine jr.pick (ls := [_, _, _, _, _]) [1, 2, 0, 3, 4] rfl rfl ?_
          exact ih (nM - 1) (by omega) M n (i + 1) hC_M ht_M (by omega) (by omega) (by omega) g_V (by rw [exL_s (by omega), if_pos (uC_0 (fun u => by rw [← hy1 _ 0 (kd_ne (by rw [k5.2]; decide)), ← hy1 _ 13 (kd_ne (by rw [k5.2]; decide)), e3, e6] at u; omega))]; exact hy0) hy1 (by omega) (by omega)
        · refine jr.aload_n rfl rfl ?_
          have k7 : kd (V).toNat = 13 := by rcases (show V = 16 ∨ V = 17 by omega) with h | h <;> (rw [h]; rfl)
          refine jr.getf (i := 0) (x := V) (v := .ref (V.toNat)) rfl rfl (nlt rfl) rfl (nlt rfl) rfl rfl g_V rfl ?_
          refine jr.iload rfl rfl ?_
          have k8 := kxe_13 k7 (i := i) (by omega) (by omega)
          refine jr.aald (c := (xe ((V.toNat)) i)) rfl (Nat.lt_trans (kx_13 k7).1 (by decide)) (kx_13 k7).2 (by decide) (by decide) rfl (by decide) (by omega) (by omega) k8.1 ?_
          refine jr.aload_n rfl rfl ?_
          refine jr.iload_n rfl rfl ?_
          refine jr.iload_n rfl rfl ?_
          refine jr_v rfl rfl (Or.inl rfl) rfl rfl (Nat.lt_trans (kx_1 k8.2).1 (by decide)) (kx_1 k8.2).2 ⟨rfl, Nat.le_of_ble_eq_true rfl, Nat.le_of_ble_eq_true rfl⟩ rfl (jc.deep (c_Flow_layRow_x hC_M (FR.rfl _ M) k8.2 (by omega) (by omega) rfl (fun M9 hC_M9 hf_M9 w9_0 => ?_)) (Nat.le_of_ble_eq_true rfl))
          have ht_M9 : FR W_c_Flows_layTable_x T M9 := FR.t ht_M hf_M9 (kw_sub rfl)
          refine jr.iinc (ls' := [_, _, _, _, _]) rfl rfl (nlt rfl) rfl ?_
          refine jr.iinc (ls' := [_, _, _, _, _]) rfl rfl (nlt rfl) rfl ?_
          refine jr.goto rfl rfl ?_
          have e10 : M9 15 0 = V := (hf_M9.g (show kd 15 = 9 from rfl) rfl).trans g_V
          refine jr.pick (ls := [_, _, _, _, _]) [2, 1, 0, 3, 4] rfl rfl ?_
          exact ih (nM - 1) (by omega) M9 (n + 48) (i + 1) hC_M9 ht_M9 (by omega) (by omega) (by omega) e10 (by rw [exL_s (by omega), if_neg (by rw [uC_1 ⟨by rw [← hy1 _ 0 (kd_ne (by rw [k8.2]; decide)), e3]; omega, by rw [← hy1 _ 13 (kd_ne (by rw [k8.2]; decide)), e6]; omega⟩]; decide)]; exact ⟨by rw [w9_0.1, rcB_e hy1 (by have q := xfl (V := V) (i := i) (by omega) (by omega); omega), hy0.1, hy0.2]; rfl, by rw [hy0.2]⟩) (fun b k hb => (w9_0.2 b k hb).trans (hy1 b k hb)) (by omega) (by omega)
theorem c_Flows_layTable_x {A : Nat → Option (Nat × (Nat → Int32))} {Q : Option Value → jm → Prop} {T : jm} {M : jm} (hC_M : CI M) (ht_M : FR W_c_Flows_layTable_x T M) {y : Int} (h_y : 0 ≤ y ∧ y ≤ 2000000000) {V : Int} (g_V : M 15 0 = V) (p0 : T = M) (q : ∀ (r : Int) (M' : jm), CI M' → FR W_c_Flows_layTable_x T M' → 0 ≤ r ∧ r ≤ 1152 → ((M' 1 = (exL (uC T V.toNat) (bC T V.toNat y) (T 1) 24).1 ∧ r = (exL (uC T V.toNat) (bC T V.toNat y) (T 1) 24).2) ∧ ∀ (b : Nat) (k : Int), b ≠ 1 → M' b k = T b k) → Q (some (.int (Int32.ofInt r))) M') : jc A 4 83 [.ref (15), .ref (1), .int (Int32.ofInt (y))] M Q := by
  refine jc_of (m := xm_83) rfl (Nat.le_of_ble_eq_true rfl) rfl ?_
  have b_V : 16 ≤ V ∧ V ≤ 17 := by rw [← g_V]; exact (CI.r hC_M (show kd 15 = 9 from rfl) (by decide) 0)
  refine jr.iconst rfl ?_
  refine jr.istore_n (ls' := [_, _, _, _]) rfl (nlt rfl) rfl ?_
  refine jr.iconst rfl ?_
  refine jr.istore (ls' := [_, _, _, _, _]) rfl (nlt rfl) rfl ?_
  refine jr.pick (ls := [_, _, _, _, _]) [4, 1, 0, 2, 3] rfl rfl ?_
  exact c_Flows_layTable_x_L5  q 24 M 0 0 hC_M ht_M (by omega) (by omega) (by omega) g_V ⟨by rw [p0]; rfl, rfl⟩ (fun b k _ => by rw [p0]) (by omega) (by omega)
noncomputable def W_c_PacketWall_export_x : List (Nat × Nat) := [(35, 1), (43, 1000)]
theorem c_PacketWall_export_x {A : Nat → Option (Nat × (Nat → Int32))} {Q : Option Value → jm → Prop} {T : jm} {M : jm} (hC_M : CI M) (ht_M : FR W_c_PacketWall_export_x T M) {Z : Int} (g_Z : M 0 8 = Z) {V : Int} (g_V : M 15 0 = V) (p0 : T = M) (p1 : 0 ≤ Z ∧ Z ≤ 2000000000) (q : ∀ (r : Int) (M' : jm), CI M' → FR W_c_PacketWall_export_x T M' → 0 ≤ r ∧ r ≤ 1152 → ((M' 1 = (exL (uC T V.toNat) (bC T V.toNat Z) (T 1) 24).1 ∧ r = (exL (uC T V.toNat) (bC T V.toNat Z) (T 1) 24).2) ∧ M' 0 1 = r ∧ (∀ k : Int, k ≠ 1 → M' 0 k = T 0 k) ∧ ∀ (b : Nat) (k : Int), b ≠ 0 → b ≠ 1 → M' b k = T b k) → Q (some (.int (Int32.ofInt r))) M') : jc A 5 37 [.ref (0)] M Q := by
  refine jc_of (m := xm_37) rfl (Nat.le_of_ble_eq_true rfl) rfl ?_
  have b_Z : (-2147483648) ≤ Z ∧ Z ≤ 2147483647 := by rw [← g_Z]; exact (CI.r hC_M (show kd 0 = 35 from rfl) (by decide) 8)
  have b_V : 16 ≤ V ∧ V ≤ 17 := by rw [← g_V]; exact (CI.r hC_M (show kd 15 = 9 from rfl) (by decide) 0)
  refine jr.aload_n rfl rfl ?_
  refine jr.aload_n rfl rfl ?_
  refine jr.getf (i := 9) (v := .ref 15) rfl rfl (nlt rfl) rfl (nlt rfl) rfl rfl rfl rfl ?_
  refine jr.aload_n rfl rfl ?_
  refine jr.getf (i := 0) (v := .ref 1) rfl rfl (nlt rfl) rfl (nlt rfl) rfl rfl rfl rfl ?_
  refine jr.aload_n rfl rfl ?_
  refine jr.getf (i := 8) (x := Z) (v := .int (Int32.ofInt (Z))) rfl rfl (nlt rfl) rfl (nlt rfl) rfl rfl g_Z rfl ?_
  refine jr_v rfl rfl (Or.inl rfl) rfl rfl (nlt rfl) rfl ⟨rfl, Nat.le_of_ble_eq_true rfl, Nat.le_of_ble_eq_true rfl⟩ rfl (jc.deep (c_Flows_layTable_x hC_M (FR.rfl _ M) (by omega) g_V rfl (fun r1 M1 hC_M1 hf_M1 z1 w1_0 => ?_)) (Nat.le_of_ble_eq_true rfl))
  have ht_M1 : FR W_c_PacketWall_export_x T M1 := FR.t ht_M hf_M1 (kw_sub rfl)
  refine jr.putf (i := 1) (x := r1) rfl rfl (nlt rfl) rfl (nlt rfl) rfl rfl rfl rfl rfl ?_
  refine jr.aload_n rfl rfl ?_
  refine jr.getf (i := 1) (x := r1) (v := .int (Int32.ofInt (r1))) rfl rfl (nlt rfl) rfl (nlt rfl) rfl rfl (ju_same _ _ _ _) rfl ?_
  exact jr.ireturn rfl rfl rfl (q _ _ (CI.u hC_M1 (i := 1) (show kd 0 = 35 from rfl) (show (0 : Int) ≤ _ ∧ _ ≤ (1600 : Int) from by omega) rfl) (FR.o ht_M1 (show kd 0 = 35 from rfl) rfl) (by omega) (by rw [p0]; exact ⟨⟨by rw [ju1_row (by decide)]; exact w1_0.1.1, w1_0.1.2⟩, ju_same _ _ _ _, fun k hk => by rw [ju_i _ _ hk]; exact w1_0.2 0 k (by decide), fun b k h0 h1 => by rw [ju_c _ _ h0]; exact w1_0.2 b k h1⟩))
end
