/-! ===== the reference: track ===== -/
noncomputable def heG (f : Int → Int) (N C : Int) : Prop := hX f N C = -1 ∧ heF f N C 0
theorem heG_i {f : Int → Int} {N C F : Int} (h : F = 0 ↔ hX f N C = -1) : heF f N C F ↔ heG f N C := by
  unfold heG heF
  constructor
  · intro u; exact ⟨h.1 u.1, rfl, u.2⟩
  · intro u; exact ⟨h.2 u.1, u.2.2⟩
noncomputable def SFl (T M : jm) : Prop := ∀ (b : Nat) (i : Int), 627 ≤ b → b ≤ 642 → M b i = T b i
theorem sd6_f {M M1 : jm} {g : Int} (h : ∀ (b : Nat) (i : Int), 627 ≤ b → b ≤ 642 → M1 b i = M b i) (h9 : M1 598 59 = M 598 59) (h0 : M1 598 60 = M 598 60) (h1 : M1 598 61 = M 598 61) (h2 : M1 598 62 = M 598 62) (h3 : M1 598 63 = M 598 63) (h4 : M1 598 64 = M 598 64) : sd6 M1 g = sd6 M g := by
  unfold sd6
  simp only [h9, h0, h1, h2, h3, h4, h 627 _ (by decide) (by decide), h 628 _ (by decide) (by decide), h 629 _ (by decide) (by decide), h 630 _ (by decide) (by decide), h 631 _ (by decide) (by decide), h 640 _ (by decide) (by decide), h 641 _ (by decide) (by decide), h 642 _ (by decide) (by decide)]
theorem fe6_e {M M1 : jm} (h : ∀ g : Int, sd6 M1 g = sd6 M g) : ∀ (n : Nat) (i : Int), fe6 M1 n i = fe6 M n i := by
  intro n
  induction n with
  | zero => intro i; rfl
  | succ n ih => intro i; unfold fe6; rw [h, ih]
noncomputable def OBF (E B : jm) : Prop := ∀ (a : Nat) (i : Int), a ≠ 627 → a ≠ 628 → a ≠ 629 → a ≠ 630 → a ≠ 631 → a ≠ 632 → a ≠ 633 → a ≠ 634 → a ≠ 635 → a ≠ 636 → a ≠ 637 → a ≠ 640 → B a i = E a i
noncomputable def OFG (E B : jm) : Prop := ∀ (a : Nat) (i : Int), a ≠ 632 → a ≠ 633 → a ≠ 634 → a ≠ 635 → a ≠ 636 → a ≠ 637 → B a i = E a i
noncomputable def clE (E : jm) (x : Int) : Int := scf (E 601 (400 * x + (E 604 (E 598 65) + 13)))
noncomputable def mayE (E : jm) (x : Int) : Prop := (E 598 60 = 6 ∧ clE E x = 0) ∨ (E 598 60 ≠ 6 ∧ (E 598 60 = 17 ∨ E 601 (400 * x + E 604 (E 598 65)) = 8))
noncomputable def afE (E : jm) (x g : Int) : Int := if clE E x = 5 then 0 else E 647 (10 * (E 638 g - 1) + 5 * E 598 66 + clE E x)
noncomputable def u7E (E : jm) (g : Int) : Int := if E 598 60 = 17 ∧ (E 598 66 = 1 ∨ E 638 g = 1) then 1 else 0
noncomputable def K6 (B : jm) (g n t st : Int) : jm := ju (ju B 638 g st) 639 g (t + lvf n st)
/-- a packet that isn't related, behind the search for its flow -/
noncomputable def TRN (E M' : jm) (x r : Int) : Prop := (fe6 E 24 0 = -1 ∧ ((¬ mayE E x ∧ r = -6 ∧ M' = E) ∨ (mayE E x ∧ fE6 E 24 0 = -1 ∧ r = -5 ∧ M' = E) ∨ (mayE E x ∧ fE6 E 24 0 ≠ -1 ∧ r = fE6 E 24 0 ∧ ∃ B : jm, BF6 E B r ∧ OBF E B ∧ CT6 (K6 (ju B 598 66 0) r (E 598 60) (E 598 2) (if E 598 60 = 6 then 1 else 0)) M' x r (2 * r + 0)))) ∨ (fe6 E 24 0 ≠ -1 ∧ ((E 598 60 = 6 ∧ afE E x (fe6 E 24 0) = 0 ∧ r = -7 ∧ M' = E) ∨ (E 598 60 = 6 ∧ afE E x (fe6 E 24 0) ≠ 0 ∧ io6 E x (fe6 E 24 0) (clE E x) = 1 ∧ r = -8 ∧ M' = E) ∨ (E 598 60 = 6 ∧ afE E x (fe6 E 24 0) ≠ 0 ∧ io6 E x (fe6 E 24 0) (clE E x) ≠ 1 ∧ r = fe6 E 24 0 ∧ ∃ B : jm, (((9 ≤ E 638 r ∧ E 598 66 = 0 ∧ clE E x = 0) ∧ FG6 E B r (2 * r + 2) ∧ OFG E B) ∨ (¬ (9 ≤ E 638 r ∧ E 598 66 = 0 ∧ clE E x = 0) ∧ B = E)) ∧ CT6 (K6 B r (E 598 60) (E 598 2) (afE E x r)) M' x r (2 * r + E 598 66)) ∨ (E 598 60 ≠ 6 ∧ r = fe6 E 24 0 ∧ CT6 (K6 E r (E 598 60) (E 598 2) (u7E E r)) M' x r (2 * r + E 598 66))))
noncomputable def TRE (T E : jm) (f : Int → Int) (N C x : Int) : Prop := SFl T E ∧ E 598 2 = T 598 2 ∧ HT E f N C ∧ rf E x = f ∧ E 600 x = N ∧ (∀ i : Int, E 647 i = T 647 i)
noncomputable def TR7 (T M' : jm) (f : Int → Int) (N C x r : Int) : Prop := (¬ heG f N C ∧ r = -4 ∧ SFl T M') ∨ (heG f N C ∧ qfF f N C (inf f N C (ntf f N C)) ∧ ∃ E : jm, TRE T E f N C x ∧ EN6 E f N C (inf f N C (ntf f N C) + 1) (inf f N C (ntf f N C) + 2) ∧ SFl T M' ∧ r = (if fe6 E 24 0 = -1 then -6 else fe6 E 24 0)) ∨ (heG f N C ∧ ¬ qfF f N C (inf f N C (ntf f N C)) ∧ ∃ E : jm, TRE T E f N C x ∧ EN6 E f N C (ntf f N C) (inf f N C (ntf f N C)) ∧ (fe6 E 24 0 = -1 ∨ E 598 66 = sd6 E (fe6 E 24 0)) ∧ TRN E M' x r)
noncomputable def TR6 (T M' : jm) (x r : Int) : Prop := ((x < 0 ∨ 23 < x ∨ T 600 x = -1) ∧ r = -2 ∧ M' = T) ∨ (((0 ≤ x ∧ x ≤ 23) ∧ T 600 x ≠ -1) ∧ ∃ C : Int, HE (rf T x) (T 600 x) C ∧ TR7 T M' (rf T x) (T 600 x) C x r)
theorem TR6.h0 {T H : jm} {x z : Int} (hx : (0 ≤ x ∧ x ≤ 23) ∧ T 600 x ≠ -1) (hz : z = 0) (hn : HN6 T H x z) (fH : ∀ (a : Nat) (i : Int), a ≠ 598 → a ≠ 603 → a ≠ 604 → a ≠ 605 → H a i = T a i) : TR6 T H x (-4) := by
  obtain ⟨h1, ⟨h2, h3⟩, h4⟩ := hn
  refine Or.inr ⟨hx, _, h2, Or.inl ⟨?_, rfl, fun b i b1 b2 => fH b i (by omega) (by omega) (by omega) (by omega)⟩⟩
  rw [← heG_i h3]
  rcases h4 with h4 | h4
  · exact h4.1
  · omega
theorem TRE.m {T H R E : jm} {x z : Int} (hn : HN6 T H x z) (fH : ∀ (a : Nat) (i : Int), a ≠ 598 → a ≠ 603 → a ≠ 604 → a ≠ 605 → H a i = T a i) (f2 : H 598 2 = T 598 2) (fR : ∀ (a : Nat) (i : Int), a ≠ 598 → R a i = H a i) (gR : ∀ (i : Int), i ≠ 59 → i ≠ 60 → i ≠ 61 → i ≠ 62 → i ≠ 63 → i ≠ 64 → i ≠ 65 → R 598 i = H 598 i) (fE : ∀ (a : Nat) (i : Int), a ≠ 598 → E a i = R a i) (gE : ∀ (i : Int), i ≠ 66 → E 598 i = R 598 i) : TRE T E (rf T x) (T 600 x) (H 598 6) x := by
  have fA : ∀ (a : Nat) (i : Int), a ≠ 598 → a ≠ 603 → a ≠ 604 → a ≠ 605 → E a i = T a i := fun a i a1 a2 a3 a4 => (fE a i a1).trans ((fR a i a1).trans (fH a i a1 a2 a3 a4))
  refine ⟨fun b i b1 b2 => fA b i (by omega) (by omega) (by omega) (by omega), ?_, ?_, rf_e (fun i => fA 601 i (by decide) (by decide) (by decide) (by decide)), fA 600 x (by decide) (by decide) (by decide) (by decide), fun i => fA 647 i (by decide) (by decide) (by decide) (by decide)⟩
  · rw [gE 2 (by decide), gR 2 (by decide) (by decide) (by decide) (by decide) (by decide) (by decide) (by decide), f2]
  · exact hn.1.q (fun b i hb => (fE b i hb).trans (fR b i hb)) ((gE 6 (by decide)).trans (gR 6 (by decide) (by decide) (by decide) (by decide) (by decide) (by decide) (by decide)))
theorem fe6_b {R E : jm} (fE : ∀ (a : Nat) (i : Int), a ≠ 598 → E a i = R a i) (gE : ∀ (i : Int), i ≠ 66 → E 598 i = R 598 i) : (∀ g : Int, sd6 E g = sd6 R g) ∧ ∀ (n : Nat) (i : Int), fe6 E n i = fe6 R n i := by
  have hs : ∀ g : Int, sd6 E g = sd6 R g := fun g => sd6_f (fun b i b1 b2 => fE b i (by omega)) (gE 59 (by decide)) (gE 60 (by decide)) (gE 61 (by decide)) (gE 62 (by decide)) (gE 63 (by decide)) (gE 64 (by decide))
  exact ⟨hs, fe6_e hs⟩
theorem EN6.e {M M1 : jm} {f : Int → Int} {N C t h : Int} (e : EN6 M f N C t h) (gE : ∀ (i : Int), i ≠ 66 → M1 598 i = M 598 i) : EN6 M1 f N C t h := by
  unfold EN6
  rw [gE 59 (by decide), gE 60 (by decide), gE 61 (by decide), gE 62 (by decide), gE 63 (by decide), gE 64 (by decide), gE 65 (by decide)]
  exact e
theorem TR6.r {T H R E : jm} {x z y g r : Int} (hx : (0 ≤ x ∧ x ≤ 23) ∧ T 600 x ≠ -1) (hz : z ≠ 0) (hn : HN6 T H x z) (fH : ∀ (a : Nat) (i : Int), a ≠ 598 → a ≠ 603 → a ≠ 604 → a ≠ 605 → H a i = T a i) (f2 : H 598 2 = T 598 2) (hy : y ≠ 0) (hr : (y = 0 ∧ ¬ qfF (rf T x) (T 600 x) (H 598 6) (H 598 65) ∧ R = H) ∨ (y = 1 ∧ qfF (rf T x) (T 600 x) (H 598 6) (H 598 65) ∧ EN6 R (rf T x) (T 600 x) (H 598 6) (H 598 65 + 1) (H 598 65 + 2))) (fR : ∀ (a : Nat) (i : Int), a ≠ 598 → R a i = H a i) (gR : ∀ (i : Int), i ≠ 59 → i ≠ 60 → i ≠ 61 → i ≠ 62 → i ≠ 63 → i ≠ 64 → i ≠ 65 → R 598 i = H 598 i) (hb : g = fe6 R 24 0) (fE : ∀ (a : Nat) (i : Int), a ≠ 598 → E a i = R a i) (gE : ∀ (i : Int), i ≠ 66 → E 598 i = R 598 i) (h : r = if g = -1 then -6 else g) : TR6 T E x r := by
  have te := TRE.m hn fH f2 fR gR fE gE
  obtain ⟨h1, ⟨h2, h3⟩, h4⟩ := hn
  rcases h4 with h4 | h4
  · exact absurd h4.2 hz
  rcases hr with hr | hr
  · exact absurd hr.1 hy
  have e5 := h4.2.2.2
  rw [e5] at hr
  refine Or.inr ⟨hx, _, h2, Or.inr (Or.inl ⟨(heG_i h3).1 h4.1, hr.2.1, E, te, hr.2.2.e gE, te.1, ?_⟩)⟩
  rw [(fe6_b fE gE).2, ← hb]
  exact h
theorem TR6.n {T H R E M' : jm} {x z y g r : Int} (hx : (0 ≤ x ∧ x ≤ 23) ∧ T 600 x ≠ -1) (hz : z ≠ 0) (hn : HN6 T H x z) (fH : ∀ (a : Nat) (i : Int), a ≠ 598 → a ≠ 603 → a ≠ 604 → a ≠ 605 → H a i = T a i) (f2 : H 598 2 = T 598 2) (hy : y = 0) (hr : (y = 0 ∧ ¬ qfF (rf T x) (T 600 x) (H 598 6) (H 598 65) ∧ R = H) ∨ (y = 1 ∧ qfF (rf T x) (T 600 x) (H 598 6) (H 598 65) ∧ EN6 R (rf T x) (T 600 x) (H 598 6) (H 598 65 + 1) (H 598 65 + 2))) (hb : g = fe6 R 24 0 ∧ (g = -1 ∨ E 598 66 = sd6 R g)) (fE : ∀ (a : Nat) (i : Int), a ≠ 598 → E a i = R a i) (gE : ∀ (i : Int), i ≠ 66 → E 598 i = R 598 i) (h : TRN E M' x r) : TR6 T M' x r := by
  rcases hr with hr | hr
  · obtain ⟨-, hq, hR⟩ := hr
    subst hR
    have te := TRE.m hn fH f2 (fun _ _ _ => rfl) (fun _ _ _ _ _ _ _ _ => rfl) fE gE
    obtain ⟨h1, ⟨h2, h3⟩, h4⟩ := hn
    rcases h4 with h4 | h4
    · exact absurd h4.2 hz
    have e5 := h4.2.2.2
    rw [e5] at hq
    refine Or.inr ⟨hx, _, h2, Or.inr (Or.inr ⟨(heG_i h3).1 h4.1, hq, E, te, h4.2.2.e gE, ?_, h⟩)⟩
    rw [(fe6_b fE gE).2, (fe6_b fE gE).1, ← hb.1]
    exact hb.2
  · omega
theorem r_track_x {A : Nat → Option (Nat × (Nat → Int32))} {Q : Option Value → jm → Prop} {M : jm} (hI_M : RI M) (hH_M : RH M) (hS_M : RF M) {x : Int} (h_x : (-2147483648) ≤ x ∧ x ≤ 2147483647) (q : ∀ (r : Int) (M' : jm), RI M' → RH M' → RF M' → (-8) ≤ r ∧ r ≤ 23 → TR6 M M' x r → (∀ (a : Nat) (i : Int), a ≠ 598 → a ≠ 603 → a ≠ 604 → a ≠ 605 → a ≠ 627 → a ≠ 628 → a ≠ 629 → a ≠ 630 → a ≠ 631 → a ≠ 632 → a ≠ 633 → a ≠ 634 → a ≠ 635 → a ≠ 636 → a ≠ 637 → a ≠ 638 → a ≠ 639 → a ≠ 640 → M' a i = M a i) → (∀ (i : Int), i ≠ 6 → i ≠ 10 → i ≠ 11 → i ≠ 12 → i ≠ 59 → i ≠ 60 → i ≠ 61 → i ≠ 62 → i ≠ 63 → i ≠ 64 → i ≠ 65 → i ≠ 66 → M' 598 i = M 598 i) → Q (some (.int (Int32.ofInt r))) M') : jc A 8 314 [.ref (598), .int (Int32.ofInt (x))] M Q := by
  refine jc_of (m := xm_314) rfl (Nat.le_of_ble_eq_true rfl) rfl ?_
  refine jr.aload_n rfl rfl ?_
  refine jr.iload_n rfl rfl ?_
  refine jr_v rfl rfl (Or.inl rfl) rfl rfl (nlt rfl) rfl ⟨rfl, Nat.le_of_ble_eq_true rfl, Nat.le_of_ble_eq_true rfl⟩ rfl (jc.deep (c_isThere hI_M (by omega) (fun l2 u2 t2 => ?_) (fun n2 => ?_)) (Nat.le_of_ble_eq_true rfl))
  · refine jr.if_ne rfl rfl (by first | exact rgl rfl | omega) (fun _ => ?_) (fun h => absurd (by decide) h)
    refine jr.aload_n rfl rfl ?_
    refine jr.iload_n rfl rfl ?_
    obtain ⟨v2, e2⟩ : ∃ z, M 600 x = z := ⟨_, rfl⟩
    have b2 : (-1) ≤ v2 ∧ v2 ≤ 400 := by rw [← e2]; exact (by have q := hI_M 600 x (Nat.le_of_ble_eq_true rfl); rw [xri_row rfl rfl] at q; exact q)
    refine jr_v rfl rfl (Or.inl rfl) rfl rfl (nlt rfl) rfl ⟨rfl, Nat.le_of_ble_eq_true rfl, Nat.le_of_ble_eq_true rfl⟩ rfl (jc.deep (r_hasEnds_x hI_M hH_M hS_M  (by omega) (by rw [e2]; omega) (fun r1 M1 hI_M1 hH_M1 hS_M1  z1 w1_0 w1_1 w1_2 w1_3 => ?_)) (Nat.le_of_ble_eq_true rfl))
    refine jr.if_ne rfl rfl (by first | (refine rgb (by assumption) ?_; exact rfl) | omega) (fun h16 => ?_) (fun h16 => ?_)
    · have sx16 : (1 : Int) ≤ r1 := by omega
      clear h16
      refine jr.aload_n rfl rfl ?_
      refine jr.iload_n rfl rfl ?_
      refine jr_v rfl rfl (Or.inl rfl) rfl rfl (nlt rfl) rfl ⟨rfl, Nat.le_of_ble_eq_true rfl, Nat.le_of_ble_eq_true rfl⟩ rfl (jc.deep (r_isRelated_x hI_M1 hH_M1 hS_M1  (by omega) (w1_0.resolve_left (by omega)) w1_1.1 (rf_e (fun i => w1_2 601 i (nne rfl) (nne rfl) (nne rfl) (nne rfl))) (fun r3 M3 hI_M3 hH_M3 hS_M3  z3 w3_0 w3_1 w3_2 w3_3 => ?_)) (Nat.le_of_ble_eq_true rfl))
      have q3 := w3_0
      obtain ⟨re1, re2, re3, re4, re5, tt, rt0, rt1, rt2⟩ := q3
      obtain ⟨ea, hea⟩ : ∃ z, M3 598 65 = z := ⟨_, rfl⟩
      rw [hea] at re1 re2 re3 re4
      have rc := RH.car hH_M3 ea
      have b65 : M3 598 6 ≤ 12 := (hI_M3 598 6 (Nat.le_of_ble_eq_true rfl)).2
      have rc1 : M3 604 ea ≤ 392 := rc.1 re3
      have rc2 := rc.2
      have re3b : 7 ≤ M3 603 ea ∧ M3 603 ea ≤ 9 := by clear rc rc2 re5 re4; omega
      have rt2b : 2 ≤ M3 603 tt ∧ M3 603 tt ≤ 3 := by clear rc rc2 re5 re4 re3; omega
      clear rc re3 rt2
      refine jr.if_eq rfl rfl (by first | (refine rgb (by assumption) ?_; exact rfl) | omega) (fun h27 => ?_) (fun h27 => ?_)
      · refine jr.aload_n rfl rfl ?_
        refine jr_v rfl rfl (Or.inl rfl) rfl rfl (nlt rfl) rfl ⟨rfl, Nat.le_of_ble_eq_true rfl, Nat.le_of_ble_eq_true rfl⟩ rfl (jc.deep (r_flowByEnds_x hI_M3 hH_M3 hS_M3    (fun r4 M4 hI_M4 hH_M4 hS_M4  z4 w4_0 w4_1 w4_2 w4_3 => ?_)) (Nat.le_of_ble_eq_true rfl))
        have rf := hS_M4 r4
        have g60 := w4_3 60 (zne rfl)
        have g629 := (w4_2 629 r4 (nne rfl)).trans ((w3_2 629 r4 (nne rfl)).trans (w1_2 629 r4 (nne rfl) (nne rfl) (nne rfl) (nne rfl)))
        have g638 := (w4_2 638 r4 (nne rfl)).trans ((w3_2 638 r4 (nne rfl)).trans (w1_2 638 r4 (nne rfl) (nne rfl) (nne rfl) (nne rfl)))
        refine jr.istore_n (ls' := [_, _, _]) rfl (nlt rfl) rfl ?_
        refine jr.aload_n rfl rfl ?_
        obtain ⟨v5, e5⟩ : ∃ z, M3 598 60 = z := ⟨_, rfl⟩
        have b5 : 0 ≤ v5 ∧ v5 ≤ 255 := by rw [← e5]; exact hI_M3 598 60 (Nat.le_of_ble_eq_true rfl)
        have e6 : M4 598 60 = v5 := ((w4_3 60 (zne rfl)).trans e5)
        refine jr.getf (i := 60) (x := v5) (v := .int (Int32.ofInt (v5))) rfl rfl (nlt rfl) rfl (nlt rfl) rfl rfl e6 rfl ?_
        refine jr.bipush rfl (jbp _ (nlt rfl)) ?_
        refine jr.icmp_ne rfl rfl (by first | (refine rgb (by assumption) ?_; exact rfl) | omega) (rgl rfl) (fun h58 => ?_) (fun h58 => ?_)
        · refine jr.iconst rfl ?_
          refine jr.istore_n (ls' := [_, _, _, _]) rfl (nlt rfl) rfl ?_
          refine jr.iconst rfl ?_
          refine jr.istore (ls' := [_, _, _, _, _]) rfl (nlt rfl) rfl ?_
          refine jr.iload_n rfl rfl ?_
          refine jr.iconst rfl ?_
          refine jr.icmp_ne rfl rfl (by first | (refine rgb (by assumption) ?_; exact rfl) | omega) (rgl rfl) (fun h91 => ?_) (fun h91 => ?_)
          · have sx91 : (0 : Int) ≤ r4 := by omega
            clear h91
            have w4r := w4_0.resolve_left (by omega)
            have rf1 := rf sx91
            clear w4_0 rf
            refine jr.aload_n rfl rfl ?_
            refine jr.getf (i := 60) (x := v5) (v := .int (Int32.ofInt (v5))) rfl rfl (nlt rfl) rfl (nlt rfl) rfl rfl e6 rfl ?_
            refine jr.bipush rfl (jbp _ (nlt rfl)) ?_
            refine jr.icmp_ne rfl rfl (by first | (refine rgb (by assumption) ?_; exact rfl) | omega) (rgl rfl) (fun h201 => ?_) (fun h201 => ?_)
            · refine jr.aload_n rfl rfl ?_
              refine jr.getf (i := 60) (x := v5) (v := .int (Int32.ofInt (v5))) rfl rfl (nlt rfl) rfl (nlt rfl) rfl rfl e6 rfl ?_
              refine jr.bipush rfl (jbp _ (nlt rfl)) ?_
              refine jr.icmp_ne rfl rfl (by first | (refine rgb (by assumption) ?_; exact rfl) | omega) (rgl rfl) (fun h278 => ?_) (fun h278 => ?_)
              · refine jr.aload_n rfl rfl ?_
                refine jr.getf (i := 50) (v := .ref 638) rfl rfl (nlt rfl) rfl (nlt rfl) rfl rfl rfl rfl ?_
                refine jr.iload_n rfl rfl ?_
                refine jr.iload rfl rfl ?_
                refine jr.iast (i := r4) (x := 0) rfl (nlt rfl) rfl (Nat.le_of_ble_eq_true rfl) (by omega) (by omega) ?_
                refine jr.aload_n rfl rfl ?_
                refine jr.getf (i := 51) (v := .ref 639) rfl rfl (nlt rfl) rfl (nlt rfl) rfl rfl rfl rfl ?_
                refine jr.iload_n rfl rfl ?_
                refine jr.aload_n rfl rfl ?_
                obtain ⟨v7, e7⟩ : ∃ z, M 598 2 = z := ⟨_, rfl⟩
                have b7 : 0 ≤ v7 ∧ v7 ≤ 2000000 := by rw [← e7]; exact hI_M 598 2 (Nat.le_of_ble_eq_true rfl)
                have e8 : M1 598 2 = v7 := ((w1_3 2 (zne rfl) (zne rfl) (zne rfl) (zne rfl) (zne rfl) (zne rfl) (zne rfl) (zne rfl) (zne rfl) (zne rfl) (zne rfl)).trans e7)
                have e9 : M3 598 2 = v7 := ((w3_3 2 (zne rfl) (zne rfl) (zne rfl) (zne rfl) (zne rfl) (zne rfl) (zne rfl)).trans e8)
                have e10 : M4 598 2 = v7 := ((w4_3 2 (zne rfl)).trans e9)
                refine jr.getf (i := 2) (x := v7) (v := .int (Int32.ofInt (v7))) rfl rfl (nlt rfl) rfl (nlt rfl) rfl rfl ((ju_c _ _ (by decide)).trans e10) rfl ?_
                refine jr.aload_n rfl rfl ?_
                refine jr.getf (i := 41) (v := .ref 629) rfl rfl (nlt rfl) rfl (nlt rfl) rfl rfl rfl rfl ?_
                refine jr.iload_n rfl rfl ?_
                obtain ⟨v11, e11⟩ : ∃ z, M 629 r4 = z := ⟨_, rfl⟩
                have b11 : 0 ≤ v11 ∧ v11 ≤ 255 := by rw [← e11]; exact (by have q := hI_M 629 r4 (Nat.le_of_ble_eq_true rfl); rw [xri_row rfl rfl] at q; exact q)
                have e12 : M1 629 r4 = v11 := ((w1_2 629 r4 (nne rfl) (nne rfl) (nne rfl) (nne rfl)).trans e11)
                have e13 : M3 629 r4 = v11 := ((w3_2 629 r4 (nne rfl)).trans e12)
                have e14 : M4 629 r4 = v11 := ((w4_2 629 r4 (nne rfl)).trans e13)
                refine jr.iald (i := r4) (x := v11) rfl (nlt rfl) rfl (Nat.le_of_ble_eq_true rfl) (by omega) (by omega) ((ju_c _ _ (by decide)).trans e14) ?_
                refine jr.iload rfl rfl ?_
                refine jr_s rfl rfl (Or.inl rfl) ⟨Nat.le_of_ble_eq_true rfl, Nat.le_of_ble_eq_true rfl⟩ rfl rfl (jc.deep (r_lives_x (RI.u hI_M4 (a := 638) (i := r4) (by rw [xri_row rfl rfl]; show (0 : Int) ≤ _ ∧ _ ≤ (15 : Int); omega)) (RH.o hH_M4 (by decide) (by decide) (by decide)) (RF.w hS_M4 (fun q => by rw [e14] at q; omega))  (by omega) (by omega) (by omega) (fun r15 z15 w15_0 => ?_)) (Nat.le_of_ble_eq_true rfl))
                refine jr.iadd rfl ?_
                refine jr.iast (i := r4) (x := (v7 + r15)) rfl (nlt rfl) rfl (Nat.le_of_ble_eq_true rfl) (by omega) (by omega) ?_
                refine jr.aload_n rfl rfl ?_
                refine jr.iload_n rfl rfl ?_
                refine jr.iload_n rfl rfl ?_
                have e17 : M4 598 65 = ea := ((w4_3 65 (zne rfl)).trans hea)
                obtain ⟨v18, e18⟩ : ∃ z, M1 604 ea = z := ⟨_, rfl⟩
                have b18 : 0 ≤ v18 ∧ v18 ≤ 400 := by rw [← e18]; exact (by have q := hI_M1 604 ea (Nat.le_of_ble_eq_true rfl); rw [xri_row rfl rfl] at q; exact q)
                have e19 : M3 604 ea = v18 := ((w3_2 604 ea (nne rfl)).trans e18)
                have e20 : M4 604 ea = v18 := ((w4_2 604 ea (nne rfl)).trans e19)
                obtain ⟨v21, e21⟩ : ∃ z, M4 598 66 = z := ⟨_, rfl⟩
                have b21 : (-1) ≤ v21 ∧ v21 ≤ 1 := by rw [← e21]; exact hI_M4 598 66 (Nat.le_of_ble_eq_true rfl)
                refine jr_v rfl rfl (Or.inl rfl) rfl rfl (nlt rfl) rfl ⟨rfl, Nat.le_of_ble_eq_true rfl, Nat.le_of_ble_eq_true rfl⟩ rfl (jc.deep (r_counts_x (RI.u (RI.u hI_M4 (a := 638) (i := r4) (by rw [xri_row rfl rfl]; show (0 : Int) ≤ _ ∧ _ ≤ (15 : Int); omega)) (a := 639) (i := r4) (by rw [xri_row rfl rfl]; show (-2147483648 : Int) ≤ _ ∧ _ ≤ (2147483647 : Int); omega)) (RH.o (RH.o hH_M4 (by decide) (by decide) (by decide)) (by decide) (by decide) (by decide)) (RF.o (RF.w hS_M4 (fun q => by rw [e14] at q; omega)) (by decide) (by decide))  (by omega) (by omega) (by rw [((ju_c _ _ (by decide)).trans ((ju_c _ _ (by decide)).trans e17))]; omega) (by rw [((ju_c _ _ (by decide)).trans ((ju_c _ _ (by decide)).trans e14)), ((ju_c _ _ (by decide)).trans ((ju_c _ _ (by decide)).trans e17)), ((ju_c _ _ (by decide)).trans ((ju_c _ _ (by decide)).trans e20))]; intro q; omega) (by rw [((ju_c _ _ (by decide)).trans ((ju_c _ _ (by decide)).trans e21))]; omega) (fun M16 hI_M16 hH_M16 hS_M16  w16_0 w16_1 => ?_)) (Nat.le_of_ble_eq_true rfl))
                refine jr.iload_n rfl rfl ?_
                obtain ⟨v22, e22⟩ : ∃ z, M 638 r4 = z := ⟨_, rfl⟩
                have b22 : 0 ≤ v22 ∧ v22 ≤ 15 := by rw [← e22]; exact (by have q := hI_M 638 r4 (Nat.le_of_ble_eq_true rfl); rw [xri_row rfl rfl] at q; exact q)
                have e23 : M1 638 r4 = v22 := ((w1_2 638 r4 (nne rfl) (nne rfl) (nne rfl) (nne rfl)).trans e22)
                have e24 : M3 638 r4 = v22 := ((w3_2 638 r4 (nne rfl)).trans e23)
                have e25 : M4 638 r4 = v22 := ((w4_2 638 r4 (nne rfl)).trans e24)
                exact jr.ireturn rfl rfl rfl (q _ _ hI_M16 hH_M16 hS_M16  (by omega) (TR6.n ⟨⟨by omega, by omega⟩, by omega⟩ (by omega) w1_1 w1_2 (w1_3 2 (zne rfl) (zne rfl) (zne rfl) (zne rfl) (zne rfl) (zne rfl) (zne rfl) (zne rfl) (zne rfl) (zne rfl) (zne rfl)) (by omega) w3_1 w4_1 w4_2 w4_3 (by have hg : fe6 M4 24 0 = r4 := (by rw [(fe6_b w4_2 w4_3).2, ← w4_1.1]); have hu7 : u7E M4 r4 = 0 := (by unfold u7E; rw [e6, e21, e25]; rw [if_neg (by omega)]); have hK : K6 M4 r4 (M4 598 60) (M4 598 2) (u7E M4 r4) = (ju (ju M4 638 r4 0) 639 r4 (v7 + r15)) := (by unfold K6; rw [hu7, e6, e10, w15_0]; first | rfl | (rw [show v11 = v5 from by omega])); have hs : (ju (ju M4 638 r4 0) 639 r4 (v7 + r15)) 598 66 = M4 598 66 := (by rw [e21]; exact ((ju_c _ _ (by decide)).trans ((ju_c _ _ (by decide)).trans e21))); have h9 := w16_0; rw [hs, ← hK] at h9; exact Or.inr ⟨by rw [hg]; omega, Or.inr (Or.inr (Or.inr ⟨by rw [e6]; omega, hg.symm, h9⟩))⟩)) (fun a i f598 f603 f604 f605 f627 f628 f629 f630 f631 f632 f633 f634 f635 f636 f637 f638 f639 f640 => ((w16_1 a i f632 f633 f634 f635 f636 f637).trans ((ju_c _ _ f639).trans ((ju_c _ _ f638).trans ((w4_2 a i f598).trans ((w3_2 a i f598).trans ((w1_2 a i f598 f603 f604 f605).trans rfl))))))) (fun i g6 g10 g11 g12 g59 g60 g61 g62 g63 g64 g65 g66 => ((w16_1 598 i (nne rfl) (nne rfl) (nne rfl) (nne rfl) (nne rfl) (nne rfl)).trans ((ju_c _ _ (by decide)).trans ((ju_c _ _ (by decide)).trans ((w4_3 i g66).trans ((w3_3 i g59 g60 g61 g62 g63 g64 g65).trans ((w1_3 i g6 g10 g11 g12 g59 g60 g61 g62 g63 g64 g65).trans rfl))))))))
              · refine jr.aload_n rfl rfl ?_
                obtain ⟨v26, e26⟩ : ∃ z, M4 598 66 = z := ⟨_, rfl⟩
                have b26 : (-1) ≤ v26 ∧ v26 ≤ 1 := by rw [← e26]; exact hI_M4 598 66 (Nat.le_of_ble_eq_true rfl)
                refine jr.getf (i := 66) (x := v26) (v := .int (Int32.ofInt (v26))) rfl rfl (nlt rfl) rfl (nlt rfl) rfl rfl e26 rfl ?_
                refine jr.iconst rfl ?_
                refine jr.icmp_eq rfl rfl (by first | (refine rgb (by assumption) ?_; exact rfl) | omega) (rgl rfl) (fun h286 => ?_) (fun h286 => ?_)
                · refine jr.iconst rfl ?_
                  refine jr.goto rfl rfl ?_
                  refine jr.istore (ls' := [_, _, _, _, _]) rfl (nlt rfl) rfl ?_
                  refine jr.aload_n rfl rfl ?_
                  refine jr.getf (i := 50) (v := .ref 638) rfl rfl (nlt rfl) rfl (nlt rfl) rfl rfl rfl rfl ?_
                  refine jr.iload_n rfl rfl ?_
                  refine jr.iload rfl rfl ?_
                  refine jr.iast (i := r4) (x := 1) rfl (nlt rfl) rfl (Nat.le_of_ble_eq_true rfl) (by omega) (by omega) ?_
                  refine jr.aload_n rfl rfl ?_
                  refine jr.getf (i := 51) (v := .ref 639) rfl rfl (nlt rfl) rfl (nlt rfl) rfl rfl rfl rfl ?_
                  refine jr.iload_n rfl rfl ?_
                  refine jr.aload_n rfl rfl ?_
                  obtain ⟨v27, e27⟩ : ∃ z, M 598 2 = z := ⟨_, rfl⟩
                  have b27 : 0 ≤ v27 ∧ v27 ≤ 2000000 := by rw [← e27]; exact hI_M 598 2 (Nat.le_of_ble_eq_true rfl)
                  have e28 : M1 598 2 = v27 := ((w1_3 2 (zne rfl) (zne rfl) (zne rfl) (zne rfl) (zne rfl) (zne rfl) (zne rfl) (zne rfl) (zne rfl) (zne rfl) (zne rfl)).trans e27)
                  have e29 : M3 598 2 = v27 := ((w3_3 2 (zne rfl) (zne rfl) (zne rfl) (zne rfl) (zne rfl) (zne rfl) (zne rfl)).trans e28)
                  have e30 : M4 598 2 = v27 := ((w4_3 2 (zne rfl)).trans e29)
                  refine jr.getf (i := 2) (x := v27) (v := .int (Int32.ofInt (v27))) rfl rfl (nlt rfl) rfl (nlt rfl) rfl rfl ((ju_c _ _ (by decide)).trans e30) rfl ?_
                  refine jr.aload_n rfl rfl ?_
                  refine jr.getf (i := 41) (v := .ref 629) rfl rfl (nlt rfl) rfl (nlt rfl) rfl rfl rfl rfl ?_
                  refine jr.iload_n rfl rfl ?_
                  obtain ⟨v31, e31⟩ : ∃ z, M 629 r4 = z := ⟨_, rfl⟩
                  have b31 : 0 ≤ v31 ∧ v31 ≤ 255 := by rw [← e31]; exact (by have q := hI_M 629 r4 (Nat.le_of_ble_eq_true rfl); rw [xri_row rfl rfl] at q; exact q)
                  have e32 : M1 629 r4 = v31 := ((w1_2 629 r4 (nne rfl) (nne rfl) (nne rfl) (nne rfl)).trans e31)
                  have e33 : M3 629 r4 = v31 := ((w3_2 629 r4 (nne rfl)).trans e32)
                  have e34 : M4 629 r4 = v31 := ((w4_2 629 r4 (nne rfl)).trans e33)
                  refine jr.iald (i := r4) (x := v31) rfl (nlt rfl) rfl (Nat.le_of_ble_eq_true rfl) (by omega) (by omega) ((ju_c _ _ (by decide)).trans e34) ?_
                  refine jr.iload rfl rfl ?_
                  refine jr_s rfl rfl (Or.inl rfl) ⟨Nat.le_of_ble_eq_true rfl, Nat.le_of_ble_eq_true rfl⟩ rfl rfl (jc.deep (r_lives_x (RI.u hI_M4 (a := 638) (i := r4) (by rw [xri_row rfl rfl]; show (0 : Int) ≤ _ ∧ _ ≤ (15 : Int); omega)) (RH.o hH_M4 (by decide) (by decide) (by decide)) (RF.w hS_M4 (fun q => by rw [e34] at q; omega))  (by omega) (by omega) (by omega) (fun r35 z35 w35_0 => ?_)) (Nat.le_of_ble_eq_true rfl))
                  refine jr.iadd rfl ?_
                  refine jr.iast (i := r4) (x := (v27 + r35)) rfl (nlt rfl) rfl (Nat.le_of_ble_eq_true rfl) (by omega) (by omega) ?_
                  refine jr.aload_n rfl rfl ?_
                  refine jr.iload_n rfl rfl ?_
                  refine jr.iload_n rfl rfl ?_
                  have e37 : M4 598 65 = ea := ((w4_3 65 (zne rfl)).trans hea)
                  obtain ⟨v38, e38⟩ : ∃ z, M1 604 ea = z := ⟨_, rfl⟩
                  have b38 : 0 ≤ v38 ∧ v38 ≤ 400 := by rw [← e38]; exact (by have q := hI_M1 604 ea (Nat.le_of_ble_eq_true rfl); rw [xri_row rfl rfl] at q; exact q)
                  have e39 : M3 604 ea = v38 := ((w3_2 604 ea (nne rfl)).trans e38)
                  have e40 : M4 604 ea = v38 := ((w4_2 604 ea (nne rfl)).trans e39)
                  refine jr_v rfl rfl (Or.inl rfl) rfl rfl (nlt rfl) rfl ⟨rfl, Nat.le_of_ble_eq_true rfl, Nat.le_of_ble_eq_true rfl⟩ rfl (jc.deep (r_counts_x (RI.u (RI.u hI_M4 (a := 638) (i := r4) (by rw [xri_row rfl rfl]; show (0 : Int) ≤ _ ∧ _ ≤ (15 : Int); omega)) (a := 639) (i := r4) (by rw [xri_row rfl rfl]; show (-2147483648 : Int) ≤ _ ∧ _ ≤ (2147483647 : Int); omega)) (RH.o (RH.o hH_M4 (by decide) (by decide) (by decide)) (by decide) (by decide) (by decide)) (RF.o (RF.w hS_M4 (fun q => by rw [e34] at q; omega)) (by decide) (by decide))  (by omega) (by omega) (by rw [((ju_c _ _ (by decide)).trans ((ju_c _ _ (by decide)).trans e37))]; omega) (by rw [((ju_c _ _ (by decide)).trans ((ju_c _ _ (by decide)).trans e34)), ((ju_c _ _ (by decide)).trans ((ju_c _ _ (by decide)).trans e37)), ((ju_c _ _ (by decide)).trans ((ju_c _ _ (by decide)).trans e40))]; intro q; omega) (by rw [((ju_c _ _ (by decide)).trans ((ju_c _ _ (by decide)).trans e26))]; omega) (fun M36 hI_M36 hH_M36 hS_M36  w36_0 w36_1 => ?_)) (Nat.le_of_ble_eq_true rfl))
                  refine jr.iload_n rfl rfl ?_
                  obtain ⟨v41, e41⟩ : ∃ z, M 638 r4 = z := ⟨_, rfl⟩
                  have b41 : 0 ≤ v41 ∧ v41 ≤ 15 := by rw [← e41]; exact (by have q := hI_M 638 r4 (Nat.le_of_ble_eq_true rfl); rw [xri_row rfl rfl] at q; exact q)
                  have e42 : M1 638 r4 = v41 := ((w1_2 638 r4 (nne rfl) (nne rfl) (nne rfl) (nne rfl)).trans e41)
                  have e43 : M3 638 r4 = v41 := ((w3_2 638 r4 (nne rfl)).trans e42)
                  have e44 : M4 638 r4 = v41 := ((w4_2 638 r4 (nne rfl)).trans e43)
                  exact jr.ireturn rfl rfl rfl (q _ _ hI_M36 hH_M36 hS_M36  (by omega) (TR6.n ⟨⟨by omega, by omega⟩, by omega⟩ (by omega) w1_1 w1_2 (w1_3 2 (zne rfl) (zne rfl) (zne rfl) (zne rfl) (zne rfl) (zne rfl) (zne rfl) (zne rfl) (zne rfl) (zne rfl) (zne rfl)) (by omega) w3_1 w4_1 w4_2 w4_3 (by have hg : fe6 M4 24 0 = r4 := (by rw [(fe6_b w4_2 w4_3).2, ← w4_1.1]); have hu7 : u7E M4 r4 = 1 := (by unfold u7E; rw [e6, e26, e44]; rw [if_pos (by omega)]); have hK : K6 M4 r4 (M4 598 60) (M4 598 2) (u7E M4 r4) = (ju (ju M4 638 r4 1) 639 r4 (v27 + r35)) := (by unfold K6; rw [hu7, e6, e30, w35_0]; first | rfl | (rw [show v31 = v5 from by omega])); have hs : (ju (ju M4 638 r4 1) 639 r4 (v27 + r35)) 598 66 = M4 598 66 := (by rw [e26]; exact ((ju_c _ _ (by decide)).trans ((ju_c _ _ (by decide)).trans e26))); have h9 := w36_0; rw [hs, ← hK] at h9; exact Or.inr ⟨by rw [hg]; omega, Or.inr (Or.inr (Or.inr ⟨by rw [e6]; omega, hg.symm, h9⟩))⟩)) (fun a i f598 f603 f604 f605 f627 f628 f629 f630 f631 f632 f633 f634 f635 f636 f637 f638 f639 f640 => ((w36_1 a i f632 f633 f634 f635 f636 f637).trans ((ju_c _ _ f639).trans ((ju_c _ _ f638).trans ((w4_2 a i f598).trans ((w3_2 a i f598).trans ((w1_2 a i f598 f603 f604 f605).trans rfl))))))) (fun i g6 g10 g11 g12 g59 g60 g61 g62 g63 g64 g65 g66 => ((w36_1 598 i (nne rfl) (nne rfl) (nne rfl) (nne rfl) (nne rfl) (nne rfl)).trans ((ju_c _ _ (by decide)).trans ((ju_c _ _ (by decide)).trans ((w4_3 i g66).trans ((w3_3 i g59 g60 g61 g62 g63 g64 g65).trans ((w1_3 i g6 g10 g11 g12 g59 g60 g61 g62 g63 g64 g65).trans rfl))))))))
                · have sx286 : v26 ≤ (0 : Int) := by omega
                  clear h286
                  refine jr.aload_n rfl rfl ?_
                  refine jr.getf (i := 50) (v := .ref 638) rfl rfl (nlt rfl) rfl (nlt rfl) rfl rfl rfl rfl ?_
                  refine jr.iload_n rfl rfl ?_
                  obtain ⟨v45, e45⟩ : ∃ z, M 638 r4 = z := ⟨_, rfl⟩
                  have b45 : 0 ≤ v45 ∧ v45 ≤ 15 := by rw [← e45]; exact (by have q := hI_M 638 r4 (Nat.le_of_ble_eq_true rfl); rw [xri_row rfl rfl] at q; exact q)
                  have e46 : M1 638 r4 = v45 := ((w1_2 638 r4 (nne rfl) (nne rfl) (nne rfl) (nne rfl)).trans e45)
                  have e47 : M3 638 r4 = v45 := ((w3_2 638 r4 (nne rfl)).trans e46)
                  have e48 : M4 638 r4 = v45 := ((w4_2 638 r4 (nne rfl)).trans e47)
                  refine jr.iald (i := r4) (x := v45) rfl (nlt rfl) rfl (Nat.le_of_ble_eq_true rfl) (by omega) (by omega) e48 ?_
                  refine jr.iconst rfl ?_
                  refine jr.icmp_ne rfl rfl (by first | (refine rgb (by assumption) ?_; exact rfl) | omega) (rgl rfl) (fun h296 => ?_) (fun h296 => ?_)
                  · refine jr.iconst rfl ?_
                    refine jr.istore (ls' := [_, _, _, _, _]) rfl (nlt rfl) rfl ?_
                    refine jr.aload_n rfl rfl ?_
                    refine jr.getf (i := 50) (v := .ref 638) rfl rfl (nlt rfl) rfl (nlt rfl) rfl rfl rfl rfl ?_
                    refine jr.iload_n rfl rfl ?_
                    refine jr.iload rfl rfl ?_
                    refine jr.iast (i := r4) (x := 0) rfl (nlt rfl) rfl (Nat.le_of_ble_eq_true rfl) (by omega) (by omega) ?_
                    refine jr.aload_n rfl rfl ?_
                    refine jr.getf (i := 51) (v := .ref 639) rfl rfl (nlt rfl) rfl (nlt rfl) rfl rfl rfl rfl ?_
                    refine jr.iload_n rfl rfl ?_
                    refine jr.aload_n rfl rfl ?_
                    obtain ⟨v49, e49⟩ : ∃ z, M 598 2 = z := ⟨_, rfl⟩
                    have b49 : 0 ≤ v49 ∧ v49 ≤ 2000000 := by rw [← e49]; exact hI_M 598 2 (Nat.le_of_ble_eq_true rfl)
                    have e50 : M1 598 2 = v49 := ((w1_3 2 (zne rfl) (zne rfl) (zne rfl) (zne rfl) (zne rfl) (zne rfl) (zne rfl) (zne rfl) (zne rfl) (zne rfl) (zne rfl)).trans e49)
                    have e51 : M3 598 2 = v49 := ((w3_3 2 (zne rfl) (zne rfl) (zne rfl) (zne rfl) (zne rfl) (zne rfl) (zne rfl)).trans e50)
                    have e52 : M4 598 2 = v49 := ((w4_3 2 (zne rfl)).trans e51)
                    refine jr.getf (i := 2) (x := v49) (v := .int (Int32.ofInt (v49))) rfl rfl (nlt rfl) rfl (nlt rfl) rfl rfl ((ju_c _ _ (by decide)).trans e52) rfl ?_
                    refine jr.aload_n rfl rfl ?_
                    refine jr.getf (i := 41) (v := .ref 629) rfl rfl (nlt rfl) rfl (nlt rfl) rfl rfl rfl rfl ?_
                    refine jr.iload_n rfl rfl ?_
                    obtain ⟨v53, e53⟩ : ∃ z, M 629 r4 = z := ⟨_, rfl⟩
                    have b53 : 0 ≤ v53 ∧ v53 ≤ 255 := by rw [← e53]; exact (by have q := hI_M 629 r4 (Nat.le_of_ble_eq_true rfl); rw [xri_row rfl rfl] at q; exact q)
                    have e54 : M1 629 r4 = v53 := ((w1_2 629 r4 (nne rfl) (nne rfl) (nne rfl) (nne rfl)).trans e53)
                    have e55 : M3 629 r4 = v53 := ((w3_2 629 r4 (nne rfl)).trans e54)
                    have e56 : M4 629 r4 = v53 := ((w4_2 629 r4 (nne rfl)).trans e55)
                    refine jr.iald (i := r4) (x := v53) rfl (nlt rfl) rfl (Nat.le_of_ble_eq_true rfl) (by omega) (by omega) ((ju_c _ _ (by decide)).trans e56) ?_
                    refine jr.iload rfl rfl ?_
                    refine jr_s rfl rfl (Or.inl rfl) ⟨Nat.le_of_ble_eq_true rfl, Nat.le_of_ble_eq_true rfl⟩ rfl rfl (jc.deep (r_lives_x (RI.u hI_M4 (a := 638) (i := r4) (by rw [xri_row rfl rfl]; show (0 : Int) ≤ _ ∧ _ ≤ (15 : Int); omega)) (RH.o hH_M4 (by decide) (by decide) (by decide)) (RF.w hS_M4 (fun q => by rw [e56] at q; omega))  (by omega) (by omega) (by omega) (fun r57 z57 w57_0 => ?_)) (Nat.le_of_ble_eq_true rfl))
                    refine jr.iadd rfl ?_
                    refine jr.iast (i := r4) (x := (v49 + r57)) rfl (nlt rfl) rfl (Nat.le_of_ble_eq_true rfl) (by omega) (by omega) ?_
                    refine jr.aload_n rfl rfl ?_
                    refine jr.iload_n rfl rfl ?_
                    refine jr.iload_n rfl rfl ?_
                    have e59 : M4 598 65 = ea := ((w4_3 65 (zne rfl)).trans hea)
                    obtain ⟨v60, e60⟩ : ∃ z, M1 604 ea = z := ⟨_, rfl⟩
                    have b60 : 0 ≤ v60 ∧ v60 ≤ 400 := by rw [← e60]; exact (by have q := hI_M1 604 ea (Nat.le_of_ble_eq_true rfl); rw [xri_row rfl rfl] at q; exact q)
                    have e61 : M3 604 ea = v60 := ((w3_2 604 ea (nne rfl)).trans e60)
                    have e62 : M4 604 ea = v60 := ((w4_2 604 ea (nne rfl)).trans e61)
                    refine jr_v rfl rfl (Or.inl rfl) rfl rfl (nlt rfl) rfl ⟨rfl, Nat.le_of_ble_eq_true rfl, Nat.le_of_ble_eq_true rfl⟩ rfl (jc.deep (r_counts_x (RI.u (RI.u hI_M4 (a := 638) (i := r4) (by rw [xri_row rfl rfl]; show (0 : Int) ≤ _ ∧ _ ≤ (15 : Int); omega)) (a := 639) (i := r4) (by rw [xri_row rfl rfl]; show (-2147483648 : Int) ≤ _ ∧ _ ≤ (2147483647 : Int); omega)) (RH.o (RH.o hH_M4 (by decide) (by decide) (by decide)) (by decide) (by decide) (by decide)) (RF.o (RF.w hS_M4 (fun q => by rw [e56] at q; omega)) (by decide) (by decide))  (by omega) (by omega) (by rw [((ju_c _ _ (by decide)).trans ((ju_c _ _ (by decide)).trans e59))]; omega) (by rw [((ju_c _ _ (by decide)).trans ((ju_c _ _ (by decide)).trans e56)), ((ju_c _ _ (by decide)).trans ((ju_c _ _ (by decide)).trans e59)), ((ju_c _ _ (by decide)).trans ((ju_c _ _ (by decide)).trans e62))]; intro q; omega) (by rw [((ju_c _ _ (by decide)).trans ((ju_c _ _ (by decide)).trans e26))]; omega) (fun M58 hI_M58 hH_M58 hS_M58  w58_0 w58_1 => ?_)) (Nat.le_of_ble_eq_true rfl))
                    refine jr.iload_n rfl rfl ?_
                    exact jr.ireturn rfl rfl rfl (q _ _ hI_M58 hH_M58 hS_M58  (by omega) (TR6.n ⟨⟨by omega, by omega⟩, by omega⟩ (by omega) w1_1 w1_2 (w1_3 2 (zne rfl) (zne rfl) (zne rfl) (zne rfl) (zne rfl) (zne rfl) (zne rfl) (zne rfl) (zne rfl) (zne rfl) (zne rfl)) (by omega) w3_1 w4_1 w4_2 w4_3 (by have hg : fe6 M4 24 0 = r4 := (by rw [(fe6_b w4_2 w4_3).2, ← w4_1.1]); have hu7 : u7E M4 r4 = 0 := (by unfold u7E; rw [e6, e26, e48]; rw [if_neg (by omega)]); have hK : K6 M4 r4 (M4 598 60) (M4 598 2) (u7E M4 r4) = (ju (ju M4 638 r4 0) 639 r4 (v49 + r57)) := (by unfold K6; rw [hu7, e6, e52, w57_0]; first | rfl | (rw [show v53 = v5 from by omega])); have hs : (ju (ju M4 638 r4 0) 639 r4 (v49 + r57)) 598 66 = M4 598 66 := (by rw [e26]; exact ((ju_c _ _ (by decide)).trans ((ju_c _ _ (by decide)).trans e26))); have h9 := w58_0; rw [hs, ← hK] at h9; exact Or.inr ⟨by rw [hg]; omega, Or.inr (Or.inr (Or.inr ⟨by rw [e6]; omega, hg.symm, h9⟩))⟩)) (fun a i f598 f603 f604 f605 f627 f628 f629 f630 f631 f632 f633 f634 f635 f636 f637 f638 f639 f640 => ((w58_1 a i f632 f633 f634 f635 f636 f637).trans ((ju_c _ _ f639).trans ((ju_c _ _ f638).trans ((w4_2 a i f598).trans ((w3_2 a i f598).trans ((w1_2 a i f598 f603 f604 f605).trans rfl))))))) (fun i g6 g10 g11 g12 g59 g60 g61 g62 g63 g64 g65 g66 => ((w58_1 598 i (nne rfl) (nne rfl) (nne rfl) (nne rfl) (nne rfl) (nne rfl)).trans ((ju_c _ _ (by decide)).trans ((ju_c _ _ (by decide)).trans ((w4_3 i g66).trans ((w3_3 i g59 g60 g61 g62 g63 g64 g65).trans ((w1_3 i g6 g10 g11 g12 g59 g60 g61 g62 g63 g64 g65).trans rfl))))))))
                  · refine jr.iconst rfl ?_
                    refine jr.goto rfl rfl ?_
                    refine jr.istore (ls' := [_, _, _, _, _]) rfl (nlt rfl) rfl ?_
                    refine jr.aload_n rfl rfl ?_
                    refine jr.getf (i := 50) (v := .ref 638) rfl rfl (nlt rfl) rfl (nlt rfl) rfl rfl rfl rfl ?_
                    refine jr.iload_n rfl rfl ?_
                    refine jr.iload rfl rfl ?_
                    refine jr.iast (i := r4) (x := 1) rfl (nlt rfl) rfl (Nat.le_of_ble_eq_true rfl) (by omega) (by omega) ?_
                    refine jr.aload_n rfl rfl ?_
                    refine jr.getf (i := 51) (v := .ref 639) rfl rfl (nlt rfl) rfl (nlt rfl) rfl rfl rfl rfl ?_
                    refine jr.iload_n rfl rfl ?_
                    refine jr.aload_n rfl rfl ?_
                    obtain ⟨v63, e63⟩ : ∃ z, M 598 2 = z := ⟨_, rfl⟩
                    have b63 : 0 ≤ v63 ∧ v63 ≤ 2000000 := by rw [← e63]; exact hI_M 598 2 (Nat.le_of_ble_eq_true rfl)
                    have e64 : M1 598 2 = v63 := ((w1_3 2 (zne rfl) (zne rfl) (zne rfl) (zne rfl) (zne rfl) (zne rfl) (zne rfl) (zne rfl) (zne rfl) (zne rfl) (zne rfl)).trans e63)
                    have e65 : M3 598 2 = v63 := ((w3_3 2 (zne rfl) (zne rfl) (zne rfl) (zne rfl) (zne rfl) (zne rfl) (zne rfl)).trans e64)
                    have e66 : M4 598 2 = v63 := ((w4_3 2 (zne rfl)).trans e65)
                    refine jr.getf (i := 2) (x := v63) (v := .int (Int32.ofInt (v63))) rfl rfl (nlt rfl) rfl (nlt rfl) rfl rfl ((ju_c _ _ (by decide)).trans e66) rfl ?_
                    refine jr.aload_n rfl rfl ?_
                    refine jr.getf (i := 41) (v := .ref 629) rfl rfl (nlt rfl) rfl (nlt rfl) rfl rfl rfl rfl ?_
                    refine jr.iload_n rfl rfl ?_
                    obtain ⟨v67, e67⟩ : ∃ z, M 629 r4 = z := ⟨_, rfl⟩
                    have b67 : 0 ≤ v67 ∧ v67 ≤ 255 := by rw [← e67]; exact (by have q := hI_M 629 r4 (Nat.le_of_ble_eq_true rfl); rw [xri_row rfl rfl] at q; exact q)
                    have e68 : M1 629 r4 = v67 := ((w1_2 629 r4 (nne rfl) (nne rfl) (nne rfl) (nne rfl)).trans e67)
                    have e69 : M3 629 r4 = v67 := ((w3_2 629 r4 (nne rfl)).trans e68)
                    have e70 : M4 629 r4 = v67 := ((w4_2 629 r4 (nne rfl)).trans e69)
                    refine jr.iald (i := r4) (x := v67) rfl (nlt rfl) rfl (Nat.le_of_ble_eq_true rfl) (by omega) (by omega) ((ju_c _ _ (by decide)).trans e70) ?_
                    refine jr.iload rfl rfl ?_
                    refine jr_s rfl rfl (Or.inl rfl) ⟨Nat.le_of_ble_eq_true rfl, Nat.le_of_ble_eq_true rfl⟩ rfl rfl (jc.deep (r_lives_x (RI.u hI_M4 (a := 638) (i := r4) (by rw [xri_row rfl rfl]; show (0 : Int) ≤ _ ∧ _ ≤ (15 : Int); omega)) (RH.o hH_M4 (by decide) (by decide) (by decide)) (RF.w hS_M4 (fun q => by rw [e70] at q; omega))  (by omega) (by omega) (by omega) (fun r71 z71 w71_0 => ?_)) (Nat.le_of_ble_eq_true rfl))
                    refine jr.iadd rfl ?_
                    refine jr.iast (i := r4) (x := (v63 + r71)) rfl (nlt rfl) rfl (Nat.le_of_ble_eq_true rfl) (by omega) (by omega) ?_
                    refine jr.aload_n rfl rfl ?_
                    refine jr.iload_n rfl rfl ?_
                    refine jr.iload_n rfl rfl ?_
                    have e73 : M4 598 65 = ea := ((w4_3 65 (zne rfl)).trans hea)
                    obtain ⟨v74, e74⟩ : ∃ z, M1 604 ea = z := ⟨_, rfl⟩
                    have b74 : 0 ≤ v74 ∧ v74 ≤ 400 := by rw [← e74]; exact (by have q := hI_M1 604 ea (Nat.le_of_ble_eq_true rfl); rw [xri_row rfl rfl] at q; exact q)
                    have e75 : M3 604 ea = v74 := ((w3_2 604 ea (nne rfl)).trans e74)
                    have e76 : M4 604 ea = v74 := ((w4_2 604 ea (nne rfl)).trans e75)
                    refine jr_v rfl rfl (Or.inl rfl) rfl rfl (nlt rfl) rfl ⟨rfl, Nat.le_of_ble_eq_true rfl, Nat.le_of_ble_eq_true rfl⟩ rfl (jc.deep (r_counts_x (RI.u (RI.u hI_M4 (a := 638) (i := r4) (by rw [xri_row rfl rfl]; show (0 : Int) ≤ _ ∧ _ ≤ (15 : Int); omega)) (a := 639) (i := r4) (by rw [xri_row rfl rfl]; show (-2147483648 : Int) ≤ _ ∧ _ ≤ (2147483647 : Int); omega)) (RH.o (RH.o hH_M4 (by decide) (by decide) (by decide)) (by decide) (by decide) (by decide)) (RF.o (RF.w hS_M4 (fun q => by rw [e70] at q; omega)) (by decide) (by decide))  (by omega) (by omega) (by rw [((ju_c _ _ (by decide)).trans ((ju_c _ _ (by decide)).trans e73))]; omega) (by rw [((ju_c _ _ (by decide)).trans ((ju_c _ _ (by decide)).trans e70)), ((ju_c _ _ (by decide)).trans ((ju_c _ _ (by decide)).trans e73)), ((ju_c _ _ (by decide)).trans ((ju_c _ _ (by decide)).trans e76))]; intro q; omega) (by rw [((ju_c _ _ (by decide)).trans ((ju_c _ _ (by decide)).trans e26))]; omega) (fun M72 hI_M72 hH_M72 hS_M72  w72_0 w72_1 => ?_)) (Nat.le_of_ble_eq_true rfl))
                    refine jr.iload_n rfl rfl ?_
                    exact jr.ireturn rfl rfl rfl (q _ _ hI_M72 hH_M72 hS_M72  (by omega) (TR6.n ⟨⟨by omega, by omega⟩, by omega⟩ (by omega) w1_1 w1_2 (w1_3 2 (zne rfl) (zne rfl) (zne rfl) (zne rfl) (zne rfl) (zne rfl) (zne rfl) (zne rfl) (zne rfl) (zne rfl) (zne rfl)) (by omega) w3_1 w4_1 w4_2 w4_3 (by have hg : fe6 M4 24 0 = r4 := (by rw [(fe6_b w4_2 w4_3).2, ← w4_1.1]); have hu7 : u7E M4 r4 = 1 := (by unfold u7E; rw [e6, e26, e48]; rw [if_pos (by omega)]); have hK : K6 M4 r4 (M4 598 60) (M4 598 2) (u7E M4 r4) = (ju (ju M4 638 r4 1) 639 r4 (v63 + r71)) := (by unfold K6; rw [hu7, e6, e66, w71_0]; first | rfl | (rw [show v67 = v5 from by omega])); have hs : (ju (ju M4 638 r4 1) 639 r4 (v63 + r71)) 598 66 = M4 598 66 := (by rw [e26]; exact ((ju_c _ _ (by decide)).trans ((ju_c _ _ (by decide)).trans e26))); have h9 := w72_0; rw [hs, ← hK] at h9; exact Or.inr ⟨by rw [hg]; omega, Or.inr (Or.inr (Or.inr ⟨by rw [e6]; omega, hg.symm, h9⟩))⟩)) (fun a i f598 f603 f604 f605 f627 f628 f629 f630 f631 f632 f633 f634 f635 f636 f637 f638 f639 f640 => ((w72_1 a i f632 f633 f634 f635 f636 f637).trans ((ju_c _ _ f639).trans ((ju_c _ _ f638).trans ((w4_2 a i f598).trans ((w3_2 a i f598).trans ((w1_2 a i f598 f603 f604 f605).trans rfl))))))) (fun i g6 g10 g11 g12 g59 g60 g61 g62 g63 g64 g65 g66 => ((w72_1 598 i (nne rfl) (nne rfl) (nne rfl) (nne rfl) (nne rfl) (nne rfl)).trans ((ju_c _ _ (by decide)).trans ((ju_c _ _ (by decide)).trans ((w4_3 i g66).trans ((w3_3 i g59 g60 g61 g62 g63 g64 g65).trans ((w1_3 i g6 g10 g11 g12 g59 g60 g61 g62 g63 g64 g65).trans rfl))))))))
            · exact absurd h58 h201
          · refine jr.aload_n rfl rfl ?_
            refine jr.getf (i := 60) (x := v5) (v := .int (Int32.ofInt (v5))) rfl rfl (nlt rfl) rfl (nlt rfl) rfl rfl e6 rfl ?_
            refine jr.bipush rfl (jbp _ (nlt rfl)) ?_
            refine jr.icmp_ne rfl rfl (by first | (refine rgb (by assumption) ?_; exact rfl) | omega) (rgl rfl) (fun h100 => ?_) (fun h100 => ?_)
            · refine jr.aload_n rfl rfl ?_
              refine jr.getf (i := 60) (x := v5) (v := .int (Int32.ofInt (v5))) rfl rfl (nlt rfl) rfl (nlt rfl) rfl rfl e6 rfl ?_
              refine jr.bipush rfl (jbp _ (nlt rfl)) ?_
              refine jr.icmp_eq rfl rfl (by first | (refine rgb (by assumption) ?_; exact rfl) | omega) (rgl rfl) (fun h121 => ?_) (fun h121 => ?_)
              · refine jr.iconst rfl ?_
                refine jr.goto rfl rfl ?_
                refine jr.istore (ls' := [_, _, _, _, _, _]) rfl (nlt rfl) rfl ?_
                refine jr.iload rfl rfl ?_
                refine jr.if_ne rfl rfl (by first | exact rgl rfl | omega) (fun _ => ?_) (fun h => absurd (by decide) h)
                refine jr.aload_n rfl rfl ?_
                refine jr_v rfl rfl (Or.inl rfl) rfl rfl (nlt rfl) rfl ⟨rfl, Nat.le_of_ble_eq_true rfl, Nat.le_of_ble_eq_true rfl⟩ rfl (jc.deep (r_beginFlow_x hI_M4 hH_M4 hS_M4    (fun r122 M122 hI_M122 hH_M122  z122 w122_0 w122_1 w122_2 w122_3 => ?_)) (Nat.le_of_ble_eq_true rfl))
                refine jr.istore_n (ls' := [_, _, _, _, _, _]) rfl (nlt rfl) rfl ?_
                refine jr.iload_n rfl rfl ?_
                refine jr.iconst rfl ?_
                refine jr.icmp_ne rfl rfl (by first | (refine rgb (by assumption) ?_; exact rfl) | omega) (rgl rfl) (fun h165 => ?_) (fun h165 => ?_)
                · have sx165 : (0 : Int) ≤ r122 := by omega
                  clear h165
                  refine jr.aload_n rfl rfl ?_
                  refine jr.iconst rfl ?_
                  refine jr.putf (i := 66) (x := 0) rfl rfl (nlt rfl) rfl (nlt rfl) rfl rfl rfl rfl rfl ?_
                  refine jr.aload_n rfl rfl ?_
                  have e123 : M122 598 60 = v5 := ((w122_3 598 60 (nne rfl) (nne rfl) (nne rfl) (nne rfl) (nne rfl) (nne rfl) (nne rfl) (nne rfl) (nne rfl) (nne rfl) (nne rfl) (nne rfl)).trans e6)
                  refine jr.getf (i := 60) (x := v5) (v := .int (Int32.ofInt (v5))) rfl rfl (nlt rfl) rfl (nlt rfl) rfl rfl ((ju_i _ _ (zne (by decide))).trans e123) rfl ?_
                  refine jr.bipush rfl (jbp _ (nlt rfl)) ?_
                  refine jr.icmp_ne rfl rfl (by first | (refine rgb (by assumption) ?_; exact rfl) | omega) (rgl rfl) (fun h182 => ?_) (fun h182 => ?_)
                  · refine jr.iconst rfl ?_
                    refine jr.istore (ls' := [_, _, _, _, _, _]) rfl (nlt rfl) rfl ?_
                    refine jr.goto rfl rfl ?_
                    refine jr.aload_n rfl rfl ?_
                    refine jr.getf (i := 50) (v := .ref 638) rfl rfl (nlt rfl) rfl (nlt rfl) rfl rfl rfl rfl ?_
                    refine jr.iload_n rfl rfl ?_
                    refine jr.iload rfl rfl ?_
                    refine jr.iast (i := r122) (x := 0) rfl (nlt rfl) rfl (Nat.le_of_ble_eq_true rfl) (by omega) (by omega) ?_
                    refine jr.aload_n rfl rfl ?_
                    refine jr.getf (i := 51) (v := .ref 639) rfl rfl (nlt rfl) rfl (nlt rfl) rfl rfl rfl rfl ?_
                    refine jr.iload_n rfl rfl ?_
                    refine jr.aload_n rfl rfl ?_
                    obtain ⟨v124, e124⟩ : ∃ z, M 598 2 = z := ⟨_, rfl⟩
                    have b124 : 0 ≤ v124 ∧ v124 ≤ 2000000 := by rw [← e124]; exact hI_M 598 2 (Nat.le_of_ble_eq_true rfl)
                    have e125 : M1 598 2 = v124 := ((w1_3 2 (zne rfl) (zne rfl) (zne rfl) (zne rfl) (zne rfl) (zne rfl) (zne rfl) (zne rfl) (zne rfl) (zne rfl) (zne rfl)).trans e124)
                    have e126 : M3 598 2 = v124 := ((w3_3 2 (zne rfl) (zne rfl) (zne rfl) (zne rfl) (zne rfl) (zne rfl) (zne rfl)).trans e125)
                    have e127 : M4 598 2 = v124 := ((w4_3 2 (zne rfl)).trans e126)
                    have e128 : M122 598 2 = v124 := ((w122_3 598 2 (nne rfl) (nne rfl) (nne rfl) (nne rfl) (nne rfl) (nne rfl) (nne rfl) (nne rfl) (nne rfl) (nne rfl) (nne rfl) (nne rfl)).trans e127)
                    refine jr.getf (i := 2) (x := v124) (v := .int (Int32.ofInt (v124))) rfl rfl (nlt rfl) rfl (nlt rfl) rfl rfl ((ju_c _ _ (by decide)).trans ((ju_i _ _ (zne (by decide))).trans e128)) rfl ?_
                    refine jr.aload_n rfl rfl ?_
                    refine jr.getf (i := 41) (v := .ref 629) rfl rfl (nlt rfl) rfl (nlt rfl) rfl rfl rfl rfl ?_
                    refine jr.iload_n rfl rfl ?_
                    obtain ⟨v129, e129⟩ : ∃ z, M122 629 r122 = z := ⟨_, rfl⟩
                    have b129 : 0 ≤ v129 ∧ v129 ≤ 255 := by rw [← e129]; exact (by have q := hI_M122 629 r122 (Nat.le_of_ble_eq_true rfl); rw [xri_row rfl rfl] at q; exact q)
                    refine jr.iald (i := r122) (x := v129) rfl (nlt rfl) rfl (Nat.le_of_ble_eq_true rfl) (by omega) (by omega) ((ju_c _ _ (by decide)).trans ((ju_c _ _ (by decide)).trans e129)) ?_
                    refine jr.iload rfl rfl ?_
                    refine jr_s rfl rfl (Or.inl rfl) ⟨Nat.le_of_ble_eq_true rfl, Nat.le_of_ble_eq_true rfl⟩ rfl rfl (jc.deep (r_lives_x (RI.u (RI.u hI_M122 (a := 598) (i := 66) (show (-1 : Int) ≤ _ ∧ _ ≤ (1 : Int) from by omega)) (a := 638) (i := r122) (by rw [xri_row rfl rfl]; show (0 : Int) ≤ _ ∧ _ ≤ (15 : Int); omega)) (RH.o (RH.o hH_M122 (by decide) (by decide) (by decide)) (by decide) (by decide) (by decide)) (RFx.w (RFx.o w122_0 (by decide) (by decide)) (fun q => by rw [((ju_c _ _ (by decide)).trans e129)] at q; omega))  (by omega) (by omega) (by omega) (fun r130 z130 w130_0 => ?_)) (Nat.le_of_ble_eq_true rfl))
                    refine jr.iadd rfl ?_
                    refine jr.iast (i := r122) (x := (v124 + r130)) rfl (nlt rfl) rfl (Nat.le_of_ble_eq_true rfl) (by omega) (by omega) ?_
                    refine jr.aload_n rfl rfl ?_
                    refine jr.iload_n rfl rfl ?_
                    refine jr.iload_n rfl rfl ?_
                    have e132 : M4 598 65 = ea := ((w4_3 65 (zne rfl)).trans hea)
                    have e133 : M122 598 65 = ea := ((w122_3 598 65 (nne rfl) (nne rfl) (nne rfl) (nne rfl) (nne rfl) (nne rfl) (nne rfl) (nne rfl) (nne rfl) (nne rfl) (nne rfl) (nne rfl)).trans e132)
                    obtain ⟨v134, e134⟩ : ∃ z, M1 604 ea = z := ⟨_, rfl⟩
                    have b134 : 0 ≤ v134 ∧ v134 ≤ 400 := by rw [← e134]; exact (by have q := hI_M1 604 ea (Nat.le_of_ble_eq_true rfl); rw [xri_row rfl rfl] at q; exact q)
                    have e135 : M3 604 ea = v134 := ((w3_2 604 ea (nne rfl)).trans e134)
                    have e136 : M4 604 ea = v134 := ((w4_2 604 ea (nne rfl)).trans e135)
                    have e137 : M122 604 ea = v134 := ((w122_3 604 ea (nne rfl) (nne rfl) (nne rfl) (nne rfl) (nne rfl) (nne rfl) (nne rfl) (nne rfl) (nne rfl) (nne rfl) (nne rfl) (nne rfl)).trans e136)
                    refine jr_v rfl rfl (Or.inl rfl) rfl rfl (nlt rfl) rfl ⟨rfl, Nat.le_of_ble_eq_true rfl, Nat.le_of_ble_eq_true rfl⟩ rfl (jc.deep (r_counts_x (RI.u (RI.u (RI.u hI_M122 (a := 598) (i := 66) (show (-1 : Int) ≤ _ ∧ _ ≤ (1 : Int) from by omega)) (a := 638) (i := r122) (by rw [xri_row rfl rfl]; show (0 : Int) ≤ _ ∧ _ ≤ (15 : Int); omega)) (a := 639) (i := r122) (by rw [xri_row rfl rfl]; show (-2147483648 : Int) ≤ _ ∧ _ ≤ (2147483647 : Int); omega)) (RH.o (RH.o (RH.o hH_M122 (by decide) (by decide) (by decide)) (by decide) (by decide) (by decide)) (by decide) (by decide) (by decide)) (RF.o (RFx.w (RFx.o w122_0 (by decide) (by decide)) (fun q => by rw [((ju_c _ _ (by decide)).trans e129)] at q; omega)) (by decide) (by decide))  (by omega) (by omega) (by rw [((ju_c _ _ (by decide)).trans ((ju_c _ _ (by decide)).trans ((ju_i _ _ (zne (by decide))).trans e133)))]; omega) (by rw [((ju_c _ _ (by decide)).trans ((ju_c _ _ (by decide)).trans ((ju_c _ _ (by decide)).trans e129))), ((ju_c _ _ (by decide)).trans ((ju_c _ _ (by decide)).trans ((ju_i _ _ (zne (by decide))).trans e133))), ((ju_c _ _ (by decide)).trans ((ju_c _ _ (by decide)).trans ((ju_c _ _ (by decide)).trans e137)))]; intro q; omega) (by rw [((ju_c _ _ (by decide)).trans ((ju_c _ _ (by decide)).trans (ju_same _ _ _ _)))]; omega) (fun M131 hI_M131 hH_M131 hS_M131  w131_0 w131_1 => ?_)) (Nat.le_of_ble_eq_true rfl))
                    refine jr.iload_n rfl rfl ?_
                    exact jr.ireturn rfl rfl rfl (q _ _ hI_M131 hH_M131 hS_M131  (by omega) (TR6.n ⟨⟨by omega, by omega⟩, by omega⟩ (by omega) w1_1 w1_2 (w1_3 2 (zne rfl) (zne rfl) (zne rfl) (zne rfl) (zne rfl) (zne rfl) (zne rfl) (zne rfl) (zne rfl) (zne rfl) (zne rfl)) (by omega) w3_1 w4_1 w4_2 w4_3 (by have hg : fe6 M4 24 0 = r4 := (by rw [(fe6_b w4_2 w4_3).2, ← w4_1.1]); have hK : K6 (ju M122 598 66 0) r122 (M4 598 60) (M4 598 2) (if M4 598 60 = 6 then 1 else 0) = (ju (ju (ju M122 598 66 0) 638 r122 0) 639 r122 (v124 + r130)) := (by unfold K6; rw [e6, e127, if_neg (by omega), w130_0]; first | rfl | (rw [show v129 = v5 from by omega])); have h9 := w131_0; have hs : (ju (ju (ju M122 598 66 0) 638 r122 0) 639 r122 (v124 + r130)) 598 66 = 0 := ((ju_c _ _ (by decide)).trans ((ju_c _ _ (by decide)).trans (ju_same _ _ _ _))); rw [hs] at h9; rw [← hK] at h9; exact Or.inl ⟨by rw [hg]; omega, Or.inr (Or.inr ⟨(by unfold mayE; rw [e6]; first | omega), by rw [← w122_2.1]; omega, w122_2.1, M122, (by rcases w122_2.2 with h8 | h8; (exact absurd h8.1 (by omega)); (exact h8.2)), w122_3, h9⟩)⟩)) (fun a i f598 f603 f604 f605 f627 f628 f629 f630 f631 f632 f633 f634 f635 f636 f637 f638 f639 f640 => ((w131_1 a i f632 f633 f634 f635 f636 f637).trans ((ju_c _ _ f639).trans ((ju_c _ _ f638).trans ((ju_c _ _ f598).trans ((w122_3 a i f627 f628 f629 f630 f631 f632 f633 f634 f635 f636 f637 f640).trans ((w4_2 a i f598).trans ((w3_2 a i f598).trans ((w1_2 a i f598 f603 f604 f605).trans rfl))))))))) (fun i g6 g10 g11 g12 g59 g60 g61 g62 g63 g64 g65 g66 => ((w131_1 598 i (nne rfl) (nne rfl) (nne rfl) (nne rfl) (nne rfl) (nne rfl)).trans ((ju_c _ _ (by decide)).trans ((ju_c _ _ (by decide)).trans ((ju_i _ _ g66).trans ((w122_3 598 i (nne rfl) (nne rfl) (nne rfl) (nne rfl) (nne rfl) (nne rfl) (nne rfl) (nne rfl) (nne rfl) (nne rfl) (nne rfl) (nne rfl)).trans ((w4_3 i g66).trans ((w3_3 i g59 g60 g61 g62 g63 g64 g65).trans ((w1_3 i g6 g10 g11 g12 g59 g60 g61 g62 g63 g64 g65).trans rfl))))))))))
                  · exact absurd (by omega) h182
                · refine jr.bipush rfl (by decide) ?_
                  have e138 : M4 598 65 = ea := ((w4_3 65 (zne rfl)).trans hea)
                  obtain ⟨v139, e139⟩ : ∃ z, M1 604 ea = z := ⟨_, rfl⟩
                  have b139 : 0 ≤ v139 ∧ v139 ≤ 400 := by rw [← e139]; exact (by have q := hI_M1 604 ea (Nat.le_of_ble_eq_true rfl); rw [xri_row rfl rfl] at q; exact q)
                  have e140 : M3 604 ea = v139 := ((w3_2 604 ea (nne rfl)).trans e139)
                  have e141 : M4 604 ea = v139 := ((w4_2 604 ea (nne rfl)).trans e140)
                  exact jr.ireturn rfl rfl rfl (q _ _ hI_M122 hH_M122 (RFx.none w122_0 (by omega))  (by omega) (TR6.n ⟨⟨by omega, by omega⟩, by omega⟩ (by omega) w1_1 w1_2 (w1_3 2 (zne rfl) (zne rfl) (zne rfl) (zne rfl) (zne rfl) (zne rfl) (zne rfl) (zne rfl) (zne rfl) (zne rfl) (zne rfl)) (by omega) w3_1 w4_1 w4_2 w4_3 (by have hg : fe6 M4 24 0 = r4 := (by rw [(fe6_b w4_2 w4_3).2, ← w4_1.1]); exact Or.inl ⟨by rw [hg]; omega, Or.inr (Or.inl ⟨(by unfold mayE; rw [e6]; first | omega), by rw [← w122_2.1]; omega, rfl, by rcases w122_2.2 with h9 | h9; (exact h9.2); (exact absurd (by omega) h9.1)⟩)⟩)) (fun a i f598 f603 f604 f605 f627 f628 f629 f630 f631 f632 f633 f634 f635 f636 f637 f638 f639 f640 => ((w122_3 a i f627 f628 f629 f630 f631 f632 f633 f634 f635 f636 f637 f640).trans ((w4_2 a i f598).trans ((w3_2 a i f598).trans ((w1_2 a i f598 f603 f604 f605).trans rfl))))) (fun i g6 g10 g11 g12 g59 g60 g61 g62 g63 g64 g65 g66 => ((w122_3 598 i (nne rfl) (nne rfl) (nne rfl) (nne rfl) (nne rfl) (nne rfl) (nne rfl) (nne rfl) (nne rfl) (nne rfl) (nne rfl) (nne rfl)).trans ((w4_3 i g66).trans ((w3_3 i g59 g60 g61 g62 g63 g64 g65).trans ((w1_3 i g6 g10 g11 g12 g59 g60 g61 g62 g63 g64 g65).trans rfl))))))
              · refine jr.aload_n rfl rfl ?_
                refine jr.iload_n rfl rfl ?_
                refine jr.aload_n rfl rfl ?_
                refine jr.getf (i := 8) (v := .ref 604) rfl rfl (nlt rfl) rfl (nlt rfl) rfl rfl rfl rfl ?_
                refine jr.aload_n rfl rfl ?_
                have e142 : M4 598 65 = ea := ((w4_3 65 (zne rfl)).trans hea)
                refine jr.getf (i := 65) (x := ea) (v := .int (Int32.ofInt (ea))) rfl rfl (nlt rfl) rfl (nlt rfl) rfl rfl e142 rfl ?_
                obtain ⟨v143, e143⟩ : ∃ z, M1 604 ea = z := ⟨_, rfl⟩
                have b143 : 0 ≤ v143 ∧ v143 ≤ 400 := by rw [← e143]; exact (by have q := hI_M1 604 ea (Nat.le_of_ble_eq_true rfl); rw [xri_row rfl rfl] at q; exact q)
                have e144 : M3 604 ea = v143 := ((w3_2 604 ea (nne rfl)).trans e143)
                have e145 : M4 604 ea = v143 := ((w4_2 604 ea (nne rfl)).trans e144)
                refine jr.iald (i := ea) (x := v143) rfl (nlt rfl) rfl (Nat.le_of_ble_eq_true rfl) (by omega) (by omega) e145 ?_
                refine jr_v rfl rfl (Or.inl rfl) rfl rfl (nlt rfl) rfl ⟨rfl, Nat.le_of_ble_eq_true rfl, Nat.le_of_ble_eq_true rfl⟩ rfl (jc.deep (r_one hI_M4 hH_M4 hS_M4 (Kp.rfl _) (by omega) (by omega)  (fun r146 z146 w146_0 => ?_)) (Nat.le_of_ble_eq_true rfl))
                refine jr.bipush rfl (jbp _ (nlt rfl)) ?_
                refine jr.icmp_ne rfl rfl (by first | (refine rgb (by assumption) ?_; exact rfl) | omega) (rgl rfl) (fun h140 => ?_) (fun h140 => ?_)
                · refine jr.iconst rfl ?_
                  refine jr.istore (ls' := [_, _, _, _, _, _]) rfl (nlt rfl) rfl ?_
                  refine jr.iload rfl rfl ?_
                  refine jr.if_ne rfl rfl (by first | exact rgl rfl | omega) (fun h => absurd h (by decide)) (fun _ => ?_)
                  refine jr.bipush rfl (by decide) ?_
                  exact jr.ireturn rfl rfl rfl (q _ _ hI_M4 hH_M4 hS_M4  (by first | exact rgq rfl | omega) (TR6.n ⟨⟨by omega, by omega⟩, by omega⟩ (by omega) w1_1 w1_2 (w1_3 2 (zne rfl) (zne rfl) (zne rfl) (zne rfl) (zne rfl) (zne rfl) (zne rfl) (zne rfl) (zne rfl) (zne rfl) (zne rfl)) (by omega) w3_1 w4_1 w4_2 w4_3 (by have hg : fe6 M4 24 0 = r4 := (by rw [(fe6_b w4_2 w4_3).2, ← w4_1.1]); exact Or.inl ⟨by rw [hg]; omega, Or.inl ⟨(by unfold mayE; rw [e6]; first | omega | (have hty : M4 601 (400 * x + M4 604 (M4 598 65)) = r146 := (by rw [e142, e145, ← w146_0]); rw [hty]; omega)), rfl, rfl⟩⟩)) (fun a i f598 f603 f604 f605 f627 f628 f629 f630 f631 f632 f633 f634 f635 f636 f637 f638 f639 f640 => ((w4_2 a i f598).trans ((w3_2 a i f598).trans ((w1_2 a i f598 f603 f604 f605).trans rfl)))) (fun i g6 g10 g11 g12 g59 g60 g61 g62 g63 g64 g65 g66 => ((w4_3 i g66).trans ((w3_3 i g59 g60 g61 g62 g63 g64 g65).trans ((w1_3 i g6 g10 g11 g12 g59 g60 g61 g62 g63 g64 g65).trans rfl)))))
                · refine jr.iconst rfl ?_
                  refine jr.goto rfl rfl ?_
                  refine jr.istore (ls' := [_, _, _, _, _, _]) rfl (nlt rfl) rfl ?_
                  refine jr.iload rfl rfl ?_
                  refine jr.if_ne rfl rfl (by first | exact rgl rfl | omega) (fun _ => ?_) (fun h => absurd (by decide) h)
                  refine jr.aload_n rfl rfl ?_
                  refine jr_v rfl rfl (Or.inl rfl) rfl rfl (nlt rfl) rfl ⟨rfl, Nat.le_of_ble_eq_true rfl, Nat.le_of_ble_eq_true rfl⟩ rfl (jc.deep (r_beginFlow_x hI_M4 hH_M4 hS_M4    (fun r147 M147 hI_M147 hH_M147  z147 w147_0 w147_1 w147_2 w147_3 => ?_)) (Nat.le_of_ble_eq_true rfl))
                  refine jr.istore_n (ls' := [_, _, _, _, _, _]) rfl (nlt rfl) rfl ?_
                  refine jr.iload_n rfl rfl ?_
                  refine jr.iconst rfl ?_
                  refine jr.icmp_ne rfl rfl (by first | (refine rgb (by assumption) ?_; exact rfl) | omega) (rgl rfl) (fun h165 => ?_) (fun h165 => ?_)
                  · have sx165 : (0 : Int) ≤ r147 := by omega
                    clear h165
                    refine jr.aload_n rfl rfl ?_
                    refine jr.iconst rfl ?_
                    refine jr.putf (i := 66) (x := 0) rfl rfl (nlt rfl) rfl (nlt rfl) rfl rfl rfl rfl rfl ?_
                    refine jr.aload_n rfl rfl ?_
                    have e148 : M147 598 60 = v5 := ((w147_3 598 60 (nne rfl) (nne rfl) (nne rfl) (nne rfl) (nne rfl) (nne rfl) (nne rfl) (nne rfl) (nne rfl) (nne rfl) (nne rfl) (nne rfl)).trans e6)
                    refine jr.getf (i := 60) (x := v5) (v := .int (Int32.ofInt (v5))) rfl rfl (nlt rfl) rfl (nlt rfl) rfl rfl ((ju_i _ _ (zne (by decide))).trans e148) rfl ?_
                    refine jr.bipush rfl (jbp _ (nlt rfl)) ?_
                    refine jr.icmp_ne rfl rfl (by first | (refine rgb (by assumption) ?_; exact rfl) | omega) (rgl rfl) (fun h182 => ?_) (fun h182 => ?_)
                    · refine jr.iconst rfl ?_
                      refine jr.istore (ls' := [_, _, _, _, _, _]) rfl (nlt rfl) rfl ?_
                      refine jr.goto rfl rfl ?_
                      refine jr.aload_n rfl rfl ?_
                      refine jr.getf (i := 50) (v := .ref 638) rfl rfl (nlt rfl) rfl (nlt rfl) rfl rfl rfl rfl ?_
                      refine jr.iload_n rfl rfl ?_
                      refine jr.iload rfl rfl ?_
                      refine jr.iast (i := r147) (x := 0) rfl (nlt rfl) rfl (Nat.le_of_ble_eq_true rfl) (by omega) (by omega) ?_
                      refine jr.aload_n rfl rfl ?_
                      refine jr.getf (i := 51) (v := .ref 639) rfl rfl (nlt rfl) rfl (nlt rfl) rfl rfl rfl rfl ?_
                      refine jr.iload_n rfl rfl ?_
                      refine jr.aload_n rfl rfl ?_
                      obtain ⟨v149, e149⟩ : ∃ z, M 598 2 = z := ⟨_, rfl⟩
                      have b149 : 0 ≤ v149 ∧ v149 ≤ 2000000 := by rw [← e149]; exact hI_M 598 2 (Nat.le_of_ble_eq_true rfl)
                      have e150 : M1 598 2 = v149 := ((w1_3 2 (zne rfl) (zne rfl) (zne rfl) (zne rfl) (zne rfl) (zne rfl) (zne rfl) (zne rfl) (zne rfl) (zne rfl) (zne rfl)).trans e149)
                      have e151 : M3 598 2 = v149 := ((w3_3 2 (zne rfl) (zne rfl) (zne rfl) (zne rfl) (zne rfl) (zne rfl) (zne rfl)).trans e150)
                      have e152 : M4 598 2 = v149 := ((w4_3 2 (zne rfl)).trans e151)
                      have e153 : M147 598 2 = v149 := ((w147_3 598 2 (nne rfl) (nne rfl) (nne rfl) (nne rfl) (nne rfl) (nne rfl) (nne rfl) (nne rfl) (nne rfl) (nne rfl) (nne rfl) (nne rfl)).trans e152)
                      refine jr.getf (i := 2) (x := v149) (v := .int (Int32.ofInt (v149))) rfl rfl (nlt rfl) rfl (nlt rfl) rfl rfl ((ju_c _ _ (by decide)).trans ((ju_i _ _ (zne (by decide))).trans e153)) rfl ?_
                      refine jr.aload_n rfl rfl ?_
                      refine jr.getf (i := 41) (v := .ref 629) rfl rfl (nlt rfl) rfl (nlt rfl) rfl rfl rfl rfl ?_
                      refine jr.iload_n rfl rfl ?_
                      obtain ⟨v154, e154⟩ : ∃ z, M147 629 r147 = z := ⟨_, rfl⟩
                      have b154 : 0 ≤ v154 ∧ v154 ≤ 255 := by rw [← e154]; exact (by have q := hI_M147 629 r147 (Nat.le_of_ble_eq_true rfl); rw [xri_row rfl rfl] at q; exact q)
                      refine jr.iald (i := r147) (x := v154) rfl (nlt rfl) rfl (Nat.le_of_ble_eq_true rfl) (by omega) (by omega) ((ju_c _ _ (by decide)).trans ((ju_c _ _ (by decide)).trans e154)) ?_
                      refine jr.iload rfl rfl ?_
                      refine jr_s rfl rfl (Or.inl rfl) ⟨Nat.le_of_ble_eq_true rfl, Nat.le_of_ble_eq_true rfl⟩ rfl rfl (jc.deep (r_lives_x (RI.u (RI.u hI_M147 (a := 598) (i := 66) (show (-1 : Int) ≤ _ ∧ _ ≤ (1 : Int) from by omega)) (a := 638) (i := r147) (by rw [xri_row rfl rfl]; show (0 : Int) ≤ _ ∧ _ ≤ (15 : Int); omega)) (RH.o (RH.o hH_M147 (by decide) (by decide) (by decide)) (by decide) (by decide) (by decide)) (RFx.w (RFx.o w147_0 (by decide) (by decide)) (fun q => by rw [((ju_c _ _ (by decide)).trans e154)] at q; omega))  (by omega) (by omega) (by omega) (fun r155 z155 w155_0 => ?_)) (Nat.le_of_ble_eq_true rfl))
                      refine jr.iadd rfl ?_
                      refine jr.iast (i := r147) (x := (v149 + r155)) rfl (nlt rfl) rfl (Nat.le_of_ble_eq_true rfl) (by omega) (by omega) ?_
                      refine jr.aload_n rfl rfl ?_
                      refine jr.iload_n rfl rfl ?_
                      refine jr.iload_n rfl rfl ?_
                      have e157 : M147 598 65 = ea := ((w147_3 598 65 (nne rfl) (nne rfl) (nne rfl) (nne rfl) (nne rfl) (nne rfl) (nne rfl) (nne rfl) (nne rfl) (nne rfl) (nne rfl) (nne rfl)).trans e142)
                      have e158 : M147 604 ea = v143 := ((w147_3 604 ea (nne rfl) (nne rfl) (nne rfl) (nne rfl) (nne rfl) (nne rfl) (nne rfl) (nne rfl) (nne rfl) (nne rfl) (nne rfl) (nne rfl)).trans e145)
                      refine jr_v rfl rfl (Or.inl rfl) rfl rfl (nlt rfl) rfl ⟨rfl, Nat.le_of_ble_eq_true rfl, Nat.le_of_ble_eq_true rfl⟩ rfl (jc.deep (r_counts_x (RI.u (RI.u (RI.u hI_M147 (a := 598) (i := 66) (show (-1 : Int) ≤ _ ∧ _ ≤ (1 : Int) from by omega)) (a := 638) (i := r147) (by rw [xri_row rfl rfl]; show (0 : Int) ≤ _ ∧ _ ≤ (15 : Int); omega)) (a := 639) (i := r147) (by rw [xri_row rfl rfl]; show (-2147483648 : Int) ≤ _ ∧ _ ≤ (2147483647 : Int); omega)) (RH.o (RH.o (RH.o hH_M147 (by decide) (by decide) (by decide)) (by decide) (by decide) (by decide)) (by decide) (by decide) (by decide)) (RF.o (RFx.w (RFx.o w147_0 (by decide) (by decide)) (fun q => by rw [((ju_c _ _ (by decide)).trans e154)] at q; omega)) (by decide) (by decide))  (by omega) (by omega) (by rw [((ju_c _ _ (by decide)).trans ((ju_c _ _ (by decide)).trans ((ju_i _ _ (zne (by decide))).trans e157)))]; omega) (by rw [((ju_c _ _ (by decide)).trans ((ju_c _ _ (by decide)).trans ((ju_c _ _ (by decide)).trans e154))), ((ju_c _ _ (by decide)).trans ((ju_c _ _ (by decide)).trans ((ju_i _ _ (zne (by decide))).trans e157))), ((ju_c _ _ (by decide)).trans ((ju_c _ _ (by decide)).trans ((ju_c _ _ (by decide)).trans e158)))]; intro q; omega) (by rw [((ju_c _ _ (by decide)).trans ((ju_c _ _ (by decide)).trans (ju_same _ _ _ _)))]; omega) (fun M156 hI_M156 hH_M156 hS_M156  w156_0 w156_1 => ?_)) (Nat.le_of_ble_eq_true rfl))
                      refine jr.iload_n rfl rfl ?_
                      exact jr.ireturn rfl rfl rfl (q _ _ hI_M156 hH_M156 hS_M156  (by omega) (TR6.n ⟨⟨by omega, by omega⟩, by omega⟩ (by omega) w1_1 w1_2 (w1_3 2 (zne rfl) (zne rfl) (zne rfl) (zne rfl) (zne rfl) (zne rfl) (zne rfl) (zne rfl) (zne rfl) (zne rfl) (zne rfl)) (by omega) w3_1 w4_1 w4_2 w4_3 (by have hg : fe6 M4 24 0 = r4 := (by rw [(fe6_b w4_2 w4_3).2, ← w4_1.1]); have hK : K6 (ju M147 598 66 0) r147 (M4 598 60) (M4 598 2) (if M4 598 60 = 6 then 1 else 0) = (ju (ju (ju M147 598 66 0) 638 r147 0) 639 r147 (v149 + r155)) := (by unfold K6; rw [e6, e152, if_neg (by omega), w155_0]; first | rfl | (rw [show v154 = v5 from by omega])); have h9 := w156_0; have hs : (ju (ju (ju M147 598 66 0) 638 r147 0) 639 r147 (v149 + r155)) 598 66 = 0 := ((ju_c _ _ (by decide)).trans ((ju_c _ _ (by decide)).trans (ju_same _ _ _ _))); rw [hs] at h9; rw [← hK] at h9; exact Or.inl ⟨by rw [hg]; omega, Or.inr (Or.inr ⟨(by unfold mayE; rw [e6]; first | omega | (have hty : M4 601 (400 * x + M4 604 (M4 598 65)) = r146 := (by rw [e142, e145, ← w146_0]); rw [hty]; omega)), by rw [← w147_2.1]; omega, w147_2.1, M147, (by rcases w147_2.2 with h8 | h8; (exact absurd h8.1 (by omega)); (exact h8.2)), w147_3, h9⟩)⟩)) (fun a i f598 f603 f604 f605 f627 f628 f629 f630 f631 f632 f633 f634 f635 f636 f637 f638 f639 f640 => ((w156_1 a i f632 f633 f634 f635 f636 f637).trans ((ju_c _ _ f639).trans ((ju_c _ _ f638).trans ((ju_c _ _ f598).trans ((w147_3 a i f627 f628 f629 f630 f631 f632 f633 f634 f635 f636 f637 f640).trans ((w4_2 a i f598).trans ((w3_2 a i f598).trans ((w1_2 a i f598 f603 f604 f605).trans rfl))))))))) (fun i g6 g10 g11 g12 g59 g60 g61 g62 g63 g64 g65 g66 => ((w156_1 598 i (nne rfl) (nne rfl) (nne rfl) (nne rfl) (nne rfl) (nne rfl)).trans ((ju_c _ _ (by decide)).trans ((ju_c _ _ (by decide)).trans ((ju_i _ _ g66).trans ((w147_3 598 i (nne rfl) (nne rfl) (nne rfl) (nne rfl) (nne rfl) (nne rfl) (nne rfl) (nne rfl) (nne rfl) (nne rfl) (nne rfl) (nne rfl)).trans ((w4_3 i g66).trans ((w3_3 i g59 g60 g61 g62 g63 g64 g65).trans ((w1_3 i g6 g10 g11 g12 g59 g60 g61 g62 g63 g64 g65).trans rfl))))))))))
                    · exact absurd h100 h182
                  · refine jr.bipush rfl (by decide) ?_
                    exact jr.ireturn rfl rfl rfl (q _ _ hI_M147 hH_M147 (RFx.none w147_0 (by omega))  (by omega) (TR6.n ⟨⟨by omega, by omega⟩, by omega⟩ (by omega) w1_1 w1_2 (w1_3 2 (zne rfl) (zne rfl) (zne rfl) (zne rfl) (zne rfl) (zne rfl) (zne rfl) (zne rfl) (zne rfl) (zne rfl) (zne rfl)) (by omega) w3_1 w4_1 w4_2 w4_3 (by have hg : fe6 M4 24 0 = r4 := (by rw [(fe6_b w4_2 w4_3).2, ← w4_1.1]); exact Or.inl ⟨by rw [hg]; omega, Or.inr (Or.inl ⟨(by unfold mayE; rw [e6]; first | omega | (have hty : M4 601 (400 * x + M4 604 (M4 598 65)) = r146 := (by rw [e142, e145, ← w146_0]); rw [hty]; omega)), by rw [← w147_2.1]; omega, rfl, by rcases w147_2.2 with h9 | h9; (exact h9.2); (exact absurd (by omega) h9.1)⟩)⟩)) (fun a i f598 f603 f604 f605 f627 f628 f629 f630 f631 f632 f633 f634 f635 f636 f637 f638 f639 f640 => ((w147_3 a i f627 f628 f629 f630 f631 f632 f633 f634 f635 f636 f637 f640).trans ((w4_2 a i f598).trans ((w3_2 a i f598).trans ((w1_2 a i f598 f603 f604 f605).trans rfl))))) (fun i g6 g10 g11 g12 g59 g60 g61 g62 g63 g64 g65 g66 => ((w147_3 598 i (nne rfl) (nne rfl) (nne rfl) (nne rfl) (nne rfl) (nne rfl) (nne rfl) (nne rfl) (nne rfl) (nne rfl) (nne rfl) (nne rfl)).trans ((w4_3 i g66).trans ((w3_3 i g59 g60 g61 g62 g63 g64 g65).trans ((w1_3 i g6 g10 g11 g12 g59 g60 g61 g62 g63 g64 g65).trans rfl))))))
            · exact absurd h58 h100
        · refine jr.aload_n rfl rfl ?_
          refine jr.iload_n rfl rfl ?_
          refine jr.aload_n rfl rfl ?_
          refine jr.getf (i := 8) (v := .ref 604) rfl rfl (nlt rfl) rfl (nlt rfl) rfl rfl rfl rfl ?_
          refine jr.aload_n rfl rfl ?_
          have e173 : M4 598 65 = ea := ((w4_3 65 (zne rfl)).trans hea)
          refine jr.getf (i := 65) (x := ea) (v := .int (Int32.ofInt (ea))) rfl rfl (nlt rfl) rfl (nlt rfl) rfl rfl e173 rfl ?_
          obtain ⟨v174, e174⟩ : ∃ z, M1 604 ea = z := ⟨_, rfl⟩
          have b174 : 0 ≤ v174 ∧ v174 ≤ 400 := by rw [← e174]; exact (by have q := hI_M1 604 ea (Nat.le_of_ble_eq_true rfl); rw [xri_row rfl rfl] at q; exact q)
          have e175 : M3 604 ea = v174 := ((w3_2 604 ea (nne rfl)).trans e174)
          have e176 : M4 604 ea = v174 := ((w4_2 604 ea (nne rfl)).trans e175)
          refine jr.iald (i := ea) (x := v174) rfl (nlt rfl) rfl (Nat.le_of_ble_eq_true rfl) (by omega) (by omega) e176 ?_
          refine jr.bipush rfl (jbp _ (nlt rfl)) ?_
          refine jr.iadd rfl ?_
          refine jr_v rfl rfl (Or.inl rfl) rfl rfl (nlt rfl) rfl ⟨rfl, Nat.le_of_ble_eq_true rfl, Nat.le_of_ble_eq_true rfl⟩ rfl (jc.deep (r_one hI_M4 hH_M4 hS_M4 (Kp.rfl _) (by omega) (by omega)  (fun r177 z177 w177_0 => ?_)) (Nat.le_of_ble_eq_true rfl))
          refine jr_s rfl rfl (Or.inl rfl) ⟨Nat.le_of_ble_eq_true rfl, Nat.le_of_ble_eq_true rfl⟩ rfl rfl (jc.deep (r_classOf_x hI_M4 hH_M4 hS_M4  (by omega)  (fun r178 z178 w178_0 => ?_)) (Nat.le_of_ble_eq_true rfl))
          refine jr.goto rfl rfl ?_
          refine jr.istore_n (ls' := [_, _, _, _]) rfl (nlt rfl) rfl ?_
          refine jr.iconst rfl ?_
          refine jr.istore (ls' := [_, _, _, _, _]) rfl (nlt rfl) rfl ?_
          refine jr.iload_n rfl rfl ?_
          refine jr.iconst rfl ?_
          refine jr.icmp_ne rfl rfl (by first | (refine rgb (by assumption) ?_; exact rfl) | omega) (rgl rfl) (fun h91 => ?_) (fun h91 => ?_)
          · have sx91 : (0 : Int) ≤ r4 := by omega
            clear h91
            have w4r := w4_0.resolve_left (by omega)
            have rf1 := rf sx91
            clear w4_0 rf
            refine jr.aload_n rfl rfl ?_
            refine jr.getf (i := 60) (x := v5) (v := .int (Int32.ofInt (v5))) rfl rfl (nlt rfl) rfl (nlt rfl) rfl rfl e6 rfl ?_
            refine jr.bipush rfl (jbp _ (nlt rfl)) ?_
            refine jr.icmp_ne rfl rfl (by first | (refine rgb (by assumption) ?_; exact rfl) | omega) (rgl rfl) (fun h201 => ?_) (fun h201 => ?_)
            · exact absurd h201 (by omega)
            · refine jr.aload_n rfl rfl ?_
              refine jr.aload_n rfl rfl ?_
              refine jr.getf (i := 50) (v := .ref 638) rfl rfl (nlt rfl) rfl (nlt rfl) rfl rfl rfl rfl ?_
              refine jr.iload_n rfl rfl ?_
              obtain ⟨v179, e179⟩ : ∃ z, M 638 r4 = z := ⟨_, rfl⟩
              have b179 : 0 ≤ v179 ∧ v179 ≤ 15 := by rw [← e179]; exact (by have q := hI_M 638 r4 (Nat.le_of_ble_eq_true rfl); rw [xri_row rfl rfl] at q; exact q)
              have e180 : M1 638 r4 = v179 := ((w1_2 638 r4 (nne rfl) (nne rfl) (nne rfl) (nne rfl)).trans e179)
              have e181 : M3 638 r4 = v179 := ((w3_2 638 r4 (nne rfl)).trans e180)
              have e182 : M4 638 r4 = v179 := ((w4_2 638 r4 (nne rfl)).trans e181)
              refine jr.iald (i := r4) (x := v179) rfl (nlt rfl) rfl (Nat.le_of_ble_eq_true rfl) (by omega) (by omega) e182 ?_
              refine jr.aload_n rfl rfl ?_
              obtain ⟨v183, e183⟩ : ∃ z, M4 598 66 = z := ⟨_, rfl⟩
              have b183 : (-1) ≤ v183 ∧ v183 ≤ 1 := by rw [← e183]; exact hI_M4 598 66 (Nat.le_of_ble_eq_true rfl)
              refine jr.getf (i := 66) (x := v183) (v := .int (Int32.ofInt (v183))) rfl rfl (nlt rfl) rfl (nlt rfl) rfl rfl e183 rfl ?_
              refine jr.iload_n rfl rfl ?_
              refine jr_v rfl rfl (Or.inl rfl) rfl rfl (nlt rfl) rfl ⟨rfl, Nat.le_of_ble_eq_true rfl, Nat.le_of_ble_eq_true rfl⟩ rfl (jc.deep (r_after_x hI_M4 hH_M4 hS_M4  (by omega) (by omega) (by omega)  (fun r184 z184 w184_0 => ?_)) (Nat.le_of_ble_eq_true rfl))
              refine jr.istore (ls' := [_, _, _, _, _]) rfl (nlt rfl) rfl ?_
              refine jr.iload rfl rfl ?_
              refine jr.if_ne rfl rfl (by first | (refine rgb (by assumption) ?_; exact rfl) | omega) (fun h223 => ?_) (fun h223 => ?_)
              · have sx223 : (1 : Int) ≤ r184 := by omega
                clear h223
                refine jr.aload_n rfl rfl ?_
                refine jr.iload_n rfl rfl ?_
                refine jr.iload_n rfl rfl ?_
                refine jr.iload_n rfl rfl ?_
                refine jr_v rfl rfl (Or.inl rfl) rfl rfl (nlt rfl) rfl ⟨rfl, Nat.le_of_ble_eq_true rfl, Nat.le_of_ble_eq_true rfl⟩ rfl (jc.deep (r_isOut_x hI_M4 hH_M4 hS_M4  (by omega) (by omega) (by omega) (by rw [e173]; omega) (by rw [e173, e176]; omega) (by rw [e183]; omega) (fun r185 z185 w185_0 => ?_)) (Nat.le_of_ble_eq_true rfl))
                refine jr.if_eq rfl rfl (by first | (refine rgb (by assumption) ?_; exact rfl) | omega) (fun h236 => ?_) (fun h236 => ?_)
                · refine jr.aload_n rfl rfl ?_
                  refine jr.getf (i := 50) (v := .ref 638) rfl rfl (nlt rfl) rfl (nlt rfl) rfl rfl rfl rfl ?_
                  refine jr.iload_n rfl rfl ?_
                  refine jr.iald (i := r4) (x := v179) rfl (nlt rfl) rfl (Nat.le_of_ble_eq_true rfl) (by omega) (by omega) e182 ?_
                  refine jr.bipush rfl (jbp _ (nlt rfl)) ?_
                  refine jr.icmp_lt rfl rfl (by first | (refine rgb (by assumption) ?_; exact rfl) | omega) (rgl rfl) (fun h250 => ?_) (fun h250 => ?_)
                  · refine jr.aload_n rfl rfl ?_
                    refine jr.getf (i := 50) (v := .ref 638) rfl rfl (nlt rfl) rfl (nlt rfl) rfl rfl rfl rfl ?_
                    refine jr.iload_n rfl rfl ?_
                    refine jr.iload rfl rfl ?_
                    refine jr.iast (i := r4) (x := r184) rfl (nlt rfl) rfl (Nat.le_of_ble_eq_true rfl) (by omega) (by omega) ?_
                    refine jr.aload_n rfl rfl ?_
                    refine jr.getf (i := 51) (v := .ref 639) rfl rfl (nlt rfl) rfl (nlt rfl) rfl rfl rfl rfl ?_
                    refine jr.iload_n rfl rfl ?_
                    refine jr.aload_n rfl rfl ?_
                    obtain ⟨v186, e186⟩ : ∃ z, M 598 2 = z := ⟨_, rfl⟩
                    have b186 : 0 ≤ v186 ∧ v186 ≤ 2000000 := by rw [← e186]; exact hI_M 598 2 (Nat.le_of_ble_eq_true rfl)
                    have e187 : M1 598 2 = v186 := ((w1_3 2 (zne rfl) (zne rfl) (zne rfl) (zne rfl) (zne rfl) (zne rfl) (zne rfl) (zne rfl) (zne rfl) (zne rfl) (zne rfl)).trans e186)
                    have e188 : M3 598 2 = v186 := ((w3_3 2 (zne rfl) (zne rfl) (zne rfl) (zne rfl) (zne rfl) (zne rfl) (zne rfl)).trans e187)
                    have e189 : M4 598 2 = v186 := ((w4_3 2 (zne rfl)).trans e188)
                    refine jr.getf (i := 2) (x := v186) (v := .int (Int32.ofInt (v186))) rfl rfl (nlt rfl) rfl (nlt rfl) rfl rfl ((ju_c _ _ (by decide)).trans e189) rfl ?_
                    refine jr.aload_n rfl rfl ?_
                    refine jr.getf (i := 41) (v := .ref 629) rfl rfl (nlt rfl) rfl (nlt rfl) rfl rfl rfl rfl ?_
                    refine jr.iload_n rfl rfl ?_
                    obtain ⟨v190, e190⟩ : ∃ z, M 629 r4 = z := ⟨_, rfl⟩
                    have b190 : 0 ≤ v190 ∧ v190 ≤ 255 := by rw [← e190]; exact (by have q := hI_M 629 r4 (Nat.le_of_ble_eq_true rfl); rw [xri_row rfl rfl] at q; exact q)
                    have e191 : M1 629 r4 = v190 := ((w1_2 629 r4 (nne rfl) (nne rfl) (nne rfl) (nne rfl)).trans e190)
                    have e192 : M3 629 r4 = v190 := ((w3_2 629 r4 (nne rfl)).trans e191)
                    have e193 : M4 629 r4 = v190 := ((w4_2 629 r4 (nne rfl)).trans e192)
                    refine jr.iald (i := r4) (x := v190) rfl (nlt rfl) rfl (Nat.le_of_ble_eq_true rfl) (by omega) (by omega) ((ju_c _ _ (by decide)).trans e193) ?_
                    refine jr.iload rfl rfl ?_
                    refine jr_s rfl rfl (Or.inl rfl) ⟨Nat.le_of_ble_eq_true rfl, Nat.le_of_ble_eq_true rfl⟩ rfl rfl (jc.deep (r_lives_x (RI.u hI_M4 (a := 638) (i := r4) (by rw [xri_row rfl rfl]; show (0 : Int) ≤ _ ∧ _ ≤ (15 : Int); omega)) (RH.o hH_M4 (by decide) (by decide) (by decide)) (RF.w hS_M4 (fun q => by rw [e193] at q; omega))  (by omega) (by omega) (by omega) (fun r194 z194 w194_0 => ?_)) (Nat.le_of_ble_eq_true rfl))
                    refine jr.iadd rfl ?_
                    refine jr.iast (i := r4) (x := (v186 + r194)) rfl (nlt rfl) rfl (Nat.le_of_ble_eq_true rfl) (by omega) (by omega) ?_
                    refine jr.aload_n rfl rfl ?_
                    refine jr.iload_n rfl rfl ?_
                    refine jr.iload_n rfl rfl ?_
                    refine jr_v rfl rfl (Or.inl rfl) rfl rfl (nlt rfl) rfl ⟨rfl, Nat.le_of_ble_eq_true rfl, Nat.le_of_ble_eq_true rfl⟩ rfl (jc.deep (r_counts_x (RI.u (RI.u hI_M4 (a := 638) (i := r4) (by rw [xri_row rfl rfl]; show (0 : Int) ≤ _ ∧ _ ≤ (15 : Int); omega)) (a := 639) (i := r4) (by rw [xri_row rfl rfl]; show (-2147483648 : Int) ≤ _ ∧ _ ≤ (2147483647 : Int); omega)) (RH.o (RH.o hH_M4 (by decide) (by decide) (by decide)) (by decide) (by decide) (by decide)) (RF.o (RF.w hS_M4 (fun q => by rw [e193] at q; omega)) (by decide) (by decide))  (by omega) (by omega) (by rw [((ju_c _ _ (by decide)).trans ((ju_c _ _ (by decide)).trans e173))]; omega) (by rw [((ju_c _ _ (by decide)).trans ((ju_c _ _ (by decide)).trans e193)), ((ju_c _ _ (by decide)).trans ((ju_c _ _ (by decide)).trans e173)), ((ju_c _ _ (by decide)).trans ((ju_c _ _ (by decide)).trans e176))]; intro q; omega) (by rw [((ju_c _ _ (by decide)).trans ((ju_c _ _ (by decide)).trans e183))]; omega) (fun M195 hI_M195 hH_M195 hS_M195  w195_0 w195_1 => ?_)) (Nat.le_of_ble_eq_true rfl))
                    refine jr.iload_n rfl rfl ?_
                    exact jr.ireturn rfl rfl rfl (q _ _ hI_M195 hH_M195 hS_M195  (by omega) (TR6.n ⟨⟨by omega, by omega⟩, by omega⟩ (by omega) w1_1 w1_2 (w1_3 2 (zne rfl) (zne rfl) (zne rfl) (zne rfl) (zne rfl) (zne rfl) (zne rfl) (zne rfl) (zne rfl) (zne rfl) (zne rfl)) (by omega) w3_1 w4_1 w4_2 w4_3 (by have hg : fe6 M4 24 0 = r4 := (by rw [(fe6_b w4_2 w4_3).2, ← w4_1.1]); have hcl : clE M4 x = r178 := (by unfold clE; rw [e173, e176, ← w177_0, ← w178_0]); have haf : afE M4 x r4 = r184 := (by unfold afE; rw [hcl, e182, e183]; have h9 := w184_0; rcases h9 with h9 | h9; (rw [if_pos h9.1, h9.2]); (rw [if_neg h9.1, h9.2])); have hK : K6 M4 r4 (M4 598 60) (M4 598 2) (afE M4 x r4) = (ju (ju M4 638 r4 r184) 639 r4 (v186 + r194)) := (by unfold K6; rw [haf, e6, e189, w194_0]; first | rfl | (rw [show v190 = v5 from by omega])); have hs : (ju (ju M4 638 r4 r184) 639 r4 (v186 + r194)) 598 66 = M4 598 66 := (by rw [e183]; exact ((ju_c _ _ (by decide)).trans ((ju_c _ _ (by decide)).trans e183))); have h9 := w195_0; rw [hs, ← hK] at h9; exact Or.inr ⟨by rw [hg]; omega, Or.inr (Or.inr (Or.inl ⟨by rw [e6]; omega, by rw [hg, haf]; omega, by rw [hg, hcl, ← w185_0]; omega, hg.symm, M4, Or.inr ⟨(fun u => by rw [e182, e183, hcl] at u; omega), rfl⟩, h9⟩))⟩)) (fun a i f598 f603 f604 f605 f627 f628 f629 f630 f631 f632 f633 f634 f635 f636 f637 f638 f639 f640 => ((w195_1 a i f632 f633 f634 f635 f636 f637).trans ((ju_c _ _ f639).trans ((ju_c _ _ f638).trans ((w4_2 a i f598).trans ((w3_2 a i f598).trans ((w1_2 a i f598 f603 f604 f605).trans rfl))))))) (fun i g6 g10 g11 g12 g59 g60 g61 g62 g63 g64 g65 g66 => ((w195_1 598 i (nne rfl) (nne rfl) (nne rfl) (nne rfl) (nne rfl) (nne rfl)).trans ((ju_c _ _ (by decide)).trans ((ju_c _ _ (by decide)).trans ((w4_3 i g66).trans ((w3_3 i g59 g60 g61 g62 g63 g64 g65).trans ((w1_3 i g6 g10 g11 g12 g59 g60 g61 g62 g63 g64 g65).trans rfl))))))))
                  · refine jr.aload_n rfl rfl ?_
                    refine jr.getf (i := 66) (x := v183) (v := .int (Int32.ofInt (v183))) rfl rfl (nlt rfl) rfl (nlt rfl) rfl rfl e183 rfl ?_
                    refine jr.if_ne rfl rfl (by first | (refine rgb (by assumption) ?_; exact rfl) | omega) (fun h257 => ?_) (fun h257 => ?_)
                    · refine jr.aload_n rfl rfl ?_
                      refine jr.getf (i := 50) (v := .ref 638) rfl rfl (nlt rfl) rfl (nlt rfl) rfl rfl rfl rfl ?_
                      refine jr.iload_n rfl rfl ?_
                      refine jr.iload rfl rfl ?_
                      refine jr.iast (i := r4) (x := r184) rfl (nlt rfl) rfl (Nat.le_of_ble_eq_true rfl) (by omega) (by omega) ?_
                      refine jr.aload_n rfl rfl ?_
                      refine jr.getf (i := 51) (v := .ref 639) rfl rfl (nlt rfl) rfl (nlt rfl) rfl rfl rfl rfl ?_
                      refine jr.iload_n rfl rfl ?_
                      refine jr.aload_n rfl rfl ?_
                      obtain ⟨v196, e196⟩ : ∃ z, M 598 2 = z := ⟨_, rfl⟩
                      have b196 : 0 ≤ v196 ∧ v196 ≤ 2000000 := by rw [← e196]; exact hI_M 598 2 (Nat.le_of_ble_eq_true rfl)
                      have e197 : M1 598 2 = v196 := ((w1_3 2 (zne rfl) (zne rfl) (zne rfl) (zne rfl) (zne rfl) (zne rfl) (zne rfl) (zne rfl) (zne rfl) (zne rfl) (zne rfl)).trans e196)
                      have e198 : M3 598 2 = v196 := ((w3_3 2 (zne rfl) (zne rfl) (zne rfl) (zne rfl) (zne rfl) (zne rfl) (zne rfl)).trans e197)
                      have e199 : M4 598 2 = v196 := ((w4_3 2 (zne rfl)).trans e198)
                      refine jr.getf (i := 2) (x := v196) (v := .int (Int32.ofInt (v196))) rfl rfl (nlt rfl) rfl (nlt rfl) rfl rfl ((ju_c _ _ (by decide)).trans e199) rfl ?_
                      refine jr.aload_n rfl rfl ?_
                      refine jr.getf (i := 41) (v := .ref 629) rfl rfl (nlt rfl) rfl (nlt rfl) rfl rfl rfl rfl ?_
                      refine jr.iload_n rfl rfl ?_
                      obtain ⟨v200, e200⟩ : ∃ z, M 629 r4 = z := ⟨_, rfl⟩
                      have b200 : 0 ≤ v200 ∧ v200 ≤ 255 := by rw [← e200]; exact (by have q := hI_M 629 r4 (Nat.le_of_ble_eq_true rfl); rw [xri_row rfl rfl] at q; exact q)
                      have e201 : M1 629 r4 = v200 := ((w1_2 629 r4 (nne rfl) (nne rfl) (nne rfl) (nne rfl)).trans e200)
                      have e202 : M3 629 r4 = v200 := ((w3_2 629 r4 (nne rfl)).trans e201)
                      have e203 : M4 629 r4 = v200 := ((w4_2 629 r4 (nne rfl)).trans e202)
                      refine jr.iald (i := r4) (x := v200) rfl (nlt rfl) rfl (Nat.le_of_ble_eq_true rfl) (by omega) (by omega) ((ju_c _ _ (by decide)).trans e203) ?_
                      refine jr.iload rfl rfl ?_
                      refine jr_s rfl rfl (Or.inl rfl) ⟨Nat.le_of_ble_eq_true rfl, Nat.le_of_ble_eq_true rfl⟩ rfl rfl (jc.deep (r_lives_x (RI.u hI_M4 (a := 638) (i := r4) (by rw [xri_row rfl rfl]; show (0 : Int) ≤ _ ∧ _ ≤ (15 : Int); omega)) (RH.o hH_M4 (by decide) (by decide) (by decide)) (RF.w hS_M4 (fun q => by rw [e203] at q; omega))  (by omega) (by omega) (by omega) (fun r204 z204 w204_0 => ?_)) (Nat.le_of_ble_eq_true rfl))
                      refine jr.iadd rfl ?_
                      refine jr.iast (i := r4) (x := (v196 + r204)) rfl (nlt rfl) rfl (Nat.le_of_ble_eq_true rfl) (by omega) (by omega) ?_
                      refine jr.aload_n rfl rfl ?_
                      refine jr.iload_n rfl rfl ?_
                      refine jr.iload_n rfl rfl ?_
                      refine jr_v rfl rfl (Or.inl rfl) rfl rfl (nlt rfl) rfl ⟨rfl, Nat.le_of_ble_eq_true rfl, Nat.le_of_ble_eq_true rfl⟩ rfl (jc.deep (r_counts_x (RI.u (RI.u hI_M4 (a := 638) (i := r4) (by rw [xri_row rfl rfl]; show (0 : Int) ≤ _ ∧ _ ≤ (15 : Int); omega)) (a := 639) (i := r4) (by rw [xri_row rfl rfl]; show (-2147483648 : Int) ≤ _ ∧ _ ≤ (2147483647 : Int); omega)) (RH.o (RH.o hH_M4 (by decide) (by decide) (by decide)) (by decide) (by decide) (by decide)) (RF.o (RF.w hS_M4 (fun q => by rw [e203] at q; omega)) (by decide) (by decide))  (by omega) (by omega) (by rw [((ju_c _ _ (by decide)).trans ((ju_c _ _ (by decide)).trans e173))]; omega) (by rw [((ju_c _ _ (by decide)).trans ((ju_c _ _ (by decide)).trans e203)), ((ju_c _ _ (by decide)).trans ((ju_c _ _ (by decide)).trans e173)), ((ju_c _ _ (by decide)).trans ((ju_c _ _ (by decide)).trans e176))]; intro q; omega) (by rw [((ju_c _ _ (by decide)).trans ((ju_c _ _ (by decide)).trans e183))]; omega) (fun M205 hI_M205 hH_M205 hS_M205  w205_0 w205_1 => ?_)) (Nat.le_of_ble_eq_true rfl))
                      refine jr.iload_n rfl rfl ?_
                      exact jr.ireturn rfl rfl rfl (q _ _ hI_M205 hH_M205 hS_M205  (by omega) (TR6.n ⟨⟨by omega, by omega⟩, by omega⟩ (by omega) w1_1 w1_2 (w1_3 2 (zne rfl) (zne rfl) (zne rfl) (zne rfl) (zne rfl) (zne rfl) (zne rfl) (zne rfl) (zne rfl) (zne rfl) (zne rfl)) (by omega) w3_1 w4_1 w4_2 w4_3 (by have hg : fe6 M4 24 0 = r4 := (by rw [(fe6_b w4_2 w4_3).2, ← w4_1.1]); have hcl : clE M4 x = r178 := (by unfold clE; rw [e173, e176, ← w177_0, ← w178_0]); have haf : afE M4 x r4 = r184 := (by unfold afE; rw [hcl, e182, e183]; have h9 := w184_0; rcases h9 with h9 | h9; (rw [if_pos h9.1, h9.2]); (rw [if_neg h9.1, h9.2])); have hK : K6 M4 r4 (M4 598 60) (M4 598 2) (afE M4 x r4) = (ju (ju M4 638 r4 r184) 639 r4 (v196 + r204)) := (by unfold K6; rw [haf, e6, e199, w204_0]; first | rfl | (rw [show v200 = v5 from by omega])); have hs : (ju (ju M4 638 r4 r184) 639 r4 (v196 + r204)) 598 66 = M4 598 66 := (by rw [e183]; exact ((ju_c _ _ (by decide)).trans ((ju_c _ _ (by decide)).trans e183))); have h9 := w205_0; rw [hs, ← hK] at h9; exact Or.inr ⟨by rw [hg]; omega, Or.inr (Or.inr (Or.inl ⟨by rw [e6]; omega, by rw [hg, haf]; omega, by rw [hg, hcl, ← w185_0]; omega, hg.symm, M4, Or.inr ⟨(fun u => by rw [e182, e183, hcl] at u; omega), rfl⟩, h9⟩))⟩)) (fun a i f598 f603 f604 f605 f627 f628 f629 f630 f631 f632 f633 f634 f635 f636 f637 f638 f639 f640 => ((w205_1 a i f632 f633 f634 f635 f636 f637).trans ((ju_c _ _ f639).trans ((ju_c _ _ f638).trans ((w4_2 a i f598).trans ((w3_2 a i f598).trans ((w1_2 a i f598 f603 f604 f605).trans rfl))))))) (fun i g6 g10 g11 g12 g59 g60 g61 g62 g63 g64 g65 g66 => ((w205_1 598 i (nne rfl) (nne rfl) (nne rfl) (nne rfl) (nne rfl) (nne rfl)).trans ((ju_c _ _ (by decide)).trans ((ju_c _ _ (by decide)).trans ((w4_3 i g66).trans ((w3_3 i g59 g60 g61 g62 g63 g64 g65).trans ((w1_3 i g6 g10 g11 g12 g59 g60 g61 g62 g63 g64 g65).trans rfl))))))))
                    · refine jr.iload_n rfl rfl ?_
                      refine jr.if_ne rfl rfl (by first | (refine rgb (by assumption) ?_; exact rfl) | omega) (fun h261 => ?_) (fun h261 => ?_)
                      · have sx261 : (1 : Int) ≤ r178 := by omega
                        clear h261
                        refine jr.aload_n rfl rfl ?_
                        refine jr.getf (i := 50) (v := .ref 638) rfl rfl (nlt rfl) rfl (nlt rfl) rfl rfl rfl rfl ?_
                        refine jr.iload_n rfl rfl ?_
                        refine jr.iload rfl rfl ?_
                        refine jr.iast (i := r4) (x := r184) rfl (nlt rfl) rfl (Nat.le_of_ble_eq_true rfl) (by omega) (by omega) ?_
                        refine jr.aload_n rfl rfl ?_
                        refine jr.getf (i := 51) (v := .ref 639) rfl rfl (nlt rfl) rfl (nlt rfl) rfl rfl rfl rfl ?_
                        refine jr.iload_n rfl rfl ?_
                        refine jr.aload_n rfl rfl ?_
                        obtain ⟨v206, e206⟩ : ∃ z, M 598 2 = z := ⟨_, rfl⟩
                        have b206 : 0 ≤ v206 ∧ v206 ≤ 2000000 := by rw [← e206]; exact hI_M 598 2 (Nat.le_of_ble_eq_true rfl)
                        have e207 : M1 598 2 = v206 := ((w1_3 2 (zne rfl) (zne rfl) (zne rfl) (zne rfl) (zne rfl) (zne rfl) (zne rfl) (zne rfl) (zne rfl) (zne rfl) (zne rfl)).trans e206)
                        have e208 : M3 598 2 = v206 := ((w3_3 2 (zne rfl) (zne rfl) (zne rfl) (zne rfl) (zne rfl) (zne rfl) (zne rfl)).trans e207)
                        have e209 : M4 598 2 = v206 := ((w4_3 2 (zne rfl)).trans e208)
                        refine jr.getf (i := 2) (x := v206) (v := .int (Int32.ofInt (v206))) rfl rfl (nlt rfl) rfl (nlt rfl) rfl rfl ((ju_c _ _ (by decide)).trans e209) rfl ?_
                        refine jr.aload_n rfl rfl ?_
                        refine jr.getf (i := 41) (v := .ref 629) rfl rfl (nlt rfl) rfl (nlt rfl) rfl rfl rfl rfl ?_
                        refine jr.iload_n rfl rfl ?_
                        obtain ⟨v210, e210⟩ : ∃ z, M 629 r4 = z := ⟨_, rfl⟩
                        have b210 : 0 ≤ v210 ∧ v210 ≤ 255 := by rw [← e210]; exact (by have q := hI_M 629 r4 (Nat.le_of_ble_eq_true rfl); rw [xri_row rfl rfl] at q; exact q)
                        have e211 : M1 629 r4 = v210 := ((w1_2 629 r4 (nne rfl) (nne rfl) (nne rfl) (nne rfl)).trans e210)
                        have e212 : M3 629 r4 = v210 := ((w3_2 629 r4 (nne rfl)).trans e211)
                        have e213 : M4 629 r4 = v210 := ((w4_2 629 r4 (nne rfl)).trans e212)
                        refine jr.iald (i := r4) (x := v210) rfl (nlt rfl) rfl (Nat.le_of_ble_eq_true rfl) (by omega) (by omega) ((ju_c _ _ (by decide)).trans e213) ?_
                        refine jr.iload rfl rfl ?_
                        refine jr_s rfl rfl (Or.inl rfl) ⟨Nat.le_of_ble_eq_true rfl, Nat.le_of_ble_eq_true rfl⟩ rfl rfl (jc.deep (r_lives_x (RI.u hI_M4 (a := 638) (i := r4) (by rw [xri_row rfl rfl]; show (0 : Int) ≤ _ ∧ _ ≤ (15 : Int); omega)) (RH.o hH_M4 (by decide) (by decide) (by decide)) (RF.w hS_M4 (fun q => by rw [e213] at q; omega))  (by omega) (by omega) (by omega) (fun r214 z214 w214_0 => ?_)) (Nat.le_of_ble_eq_true rfl))
                        refine jr.iadd rfl ?_
                        refine jr.iast (i := r4) (x := (v206 + r214)) rfl (nlt rfl) rfl (Nat.le_of_ble_eq_true rfl) (by omega) (by omega) ?_
                        refine jr.aload_n rfl rfl ?_
                        refine jr.iload_n rfl rfl ?_
                        refine jr.iload_n rfl rfl ?_
                        refine jr_v rfl rfl (Or.inl rfl) rfl rfl (nlt rfl) rfl ⟨rfl, Nat.le_of_ble_eq_true rfl, Nat.le_of_ble_eq_true rfl⟩ rfl (jc.deep (r_counts_x (RI.u (RI.u hI_M4 (a := 638) (i := r4) (by rw [xri_row rfl rfl]; show (0 : Int) ≤ _ ∧ _ ≤ (15 : Int); omega)) (a := 639) (i := r4) (by rw [xri_row rfl rfl]; show (-2147483648 : Int) ≤ _ ∧ _ ≤ (2147483647 : Int); omega)) (RH.o (RH.o hH_M4 (by decide) (by decide) (by decide)) (by decide) (by decide) (by decide)) (RF.o (RF.w hS_M4 (fun q => by rw [e213] at q; omega)) (by decide) (by decide))  (by omega) (by omega) (by rw [((ju_c _ _ (by decide)).trans ((ju_c _ _ (by decide)).trans e173))]; omega) (by rw [((ju_c _ _ (by decide)).trans ((ju_c _ _ (by decide)).trans e213)), ((ju_c _ _ (by decide)).trans ((ju_c _ _ (by decide)).trans e173)), ((ju_c _ _ (by decide)).trans ((ju_c _ _ (by decide)).trans e176))]; intro q; omega) (by rw [((ju_c _ _ (by decide)).trans ((ju_c _ _ (by decide)).trans e183))]; omega) (fun M215 hI_M215 hH_M215 hS_M215  w215_0 w215_1 => ?_)) (Nat.le_of_ble_eq_true rfl))
                        refine jr.iload_n rfl rfl ?_
                        exact jr.ireturn rfl rfl rfl (q _ _ hI_M215 hH_M215 hS_M215  (by omega) (TR6.n ⟨⟨by omega, by omega⟩, by omega⟩ (by omega) w1_1 w1_2 (w1_3 2 (zne rfl) (zne rfl) (zne rfl) (zne rfl) (zne rfl) (zne rfl) (zne rfl) (zne rfl) (zne rfl) (zne rfl) (zne rfl)) (by omega) w3_1 w4_1 w4_2 w4_3 (by have hg : fe6 M4 24 0 = r4 := (by rw [(fe6_b w4_2 w4_3).2, ← w4_1.1]); have hcl : clE M4 x = r178 := (by unfold clE; rw [e173, e176, ← w177_0, ← w178_0]); have haf : afE M4 x r4 = r184 := (by unfold afE; rw [hcl, e182, e183]; have h9 := w184_0; rcases h9 with h9 | h9; (rw [if_pos h9.1, h9.2]); (rw [if_neg h9.1, h9.2])); have hK : K6 M4 r4 (M4 598 60) (M4 598 2) (afE M4 x r4) = (ju (ju M4 638 r4 r184) 639 r4 (v206 + r214)) := (by unfold K6; rw [haf, e6, e209, w214_0]; first | rfl | (rw [show v210 = v5 from by omega])); have hs : (ju (ju M4 638 r4 r184) 639 r4 (v206 + r214)) 598 66 = M4 598 66 := (by rw [e183]; exact ((ju_c _ _ (by decide)).trans ((ju_c _ _ (by decide)).trans e183))); have h9 := w215_0; rw [hs, ← hK] at h9; exact Or.inr ⟨by rw [hg]; omega, Or.inr (Or.inr (Or.inl ⟨by rw [e6]; omega, by rw [hg, haf]; omega, by rw [hg, hcl, ← w185_0]; omega, hg.symm, M4, Or.inr ⟨(fun u => by rw [e182, e183, hcl] at u; omega), rfl⟩, h9⟩))⟩)) (fun a i f598 f603 f604 f605 f627 f628 f629 f630 f631 f632 f633 f634 f635 f636 f637 f638 f639 f640 => ((w215_1 a i f632 f633 f634 f635 f636 f637).trans ((ju_c _ _ f639).trans ((ju_c _ _ f638).trans ((w4_2 a i f598).trans ((w3_2 a i f598).trans ((w1_2 a i f598 f603 f604 f605).trans rfl))))))) (fun i g6 g10 g11 g12 g59 g60 g61 g62 g63 g64 g65 g66 => ((w215_1 598 i (nne rfl) (nne rfl) (nne rfl) (nne rfl) (nne rfl) (nne rfl)).trans ((ju_c _ _ (by decide)).trans ((ju_c _ _ (by decide)).trans ((w4_3 i g66).trans ((w3_3 i g59 g60 g61 g62 g63 g64 g65).trans ((w1_3 i g6 g10 g11 g12 g59 g60 g61 g62 g63 g64 g65).trans rfl))))))))
                      · refine jr.aload_n rfl rfl ?_
                        refine jr.iload_n rfl rfl ?_
                        refine jr_v rfl rfl (Or.inl rfl) rfl rfl (nlt rfl) rfl ⟨rfl, Nat.le_of_ble_eq_true rfl, Nat.le_of_ble_eq_true rfl⟩ rfl (jc.deep (r_forget_x hI_M4 hH_M4  (by omega)  (fun M216 hI_M216 hH_M216  w216_0 w216_1 => ?_)) (Nat.le_of_ble_eq_true rfl))
                        refine jr.goto rfl rfl ?_
                        refine jr.aload_n rfl rfl ?_
                        refine jr.getf (i := 50) (v := .ref 638) rfl rfl (nlt rfl) rfl (nlt rfl) rfl rfl rfl rfl ?_
                        refine jr.iload_n rfl rfl ?_
                        refine jr.iload rfl rfl ?_
                        refine jr.iast (i := r4) (x := r184) rfl (nlt rfl) rfl (Nat.le_of_ble_eq_true rfl) (by omega) (by omega) ?_
                        refine jr.aload_n rfl rfl ?_
                        refine jr.getf (i := 51) (v := .ref 639) rfl rfl (nlt rfl) rfl (nlt rfl) rfl rfl rfl rfl ?_
                        refine jr.iload_n rfl rfl ?_
                        refine jr.aload_n rfl rfl ?_
                        obtain ⟨v217, e217⟩ : ∃ z, M 598 2 = z := ⟨_, rfl⟩
                        have b217 : 0 ≤ v217 ∧ v217 ≤ 2000000 := by rw [← e217]; exact hI_M 598 2 (Nat.le_of_ble_eq_true rfl)
                        have e218 : M1 598 2 = v217 := ((w1_3 2 (zne rfl) (zne rfl) (zne rfl) (zne rfl) (zne rfl) (zne rfl) (zne rfl) (zne rfl) (zne rfl) (zne rfl) (zne rfl)).trans e217)
                        have e219 : M3 598 2 = v217 := ((w3_3 2 (zne rfl) (zne rfl) (zne rfl) (zne rfl) (zne rfl) (zne rfl) (zne rfl)).trans e218)
                        have e220 : M4 598 2 = v217 := ((w4_3 2 (zne rfl)).trans e219)
                        have e221 : M216 598 2 = v217 := ((w216_1 598 2 (nne rfl) (nne rfl) (nne rfl) (nne rfl) (nne rfl) (nne rfl)).trans e220)
                        refine jr.getf (i := 2) (x := v217) (v := .int (Int32.ofInt (v217))) rfl rfl (nlt rfl) rfl (nlt rfl) rfl rfl ((ju_c _ _ (by decide)).trans e221) rfl ?_
                        refine jr.aload_n rfl rfl ?_
                        refine jr.getf (i := 41) (v := .ref 629) rfl rfl (nlt rfl) rfl (nlt rfl) rfl rfl rfl rfl ?_
                        refine jr.iload_n rfl rfl ?_
                        obtain ⟨v222, e222⟩ : ∃ z, M 629 r4 = z := ⟨_, rfl⟩
                        have b222 : 0 ≤ v222 ∧ v222 ≤ 255 := by rw [← e222]; exact (by have q := hI_M 629 r4 (Nat.le_of_ble_eq_true rfl); rw [xri_row rfl rfl] at q; exact q)
                        have e223 : M1 629 r4 = v222 := ((w1_2 629 r4 (nne rfl) (nne rfl) (nne rfl) (nne rfl)).trans e222)
                        have e224 : M3 629 r4 = v222 := ((w3_2 629 r4 (nne rfl)).trans e223)
                        have e225 : M4 629 r4 = v222 := ((w4_2 629 r4 (nne rfl)).trans e224)
                        have e226 : M216 629 r4 = v222 := ((w216_1 629 r4 (nne rfl) (nne rfl) (nne rfl) (nne rfl) (nne rfl) (nne rfl)).trans e225)
                        refine jr.iald (i := r4) (x := v222) rfl (nlt rfl) rfl (Nat.le_of_ble_eq_true rfl) (by omega) (by omega) ((ju_c _ _ (by decide)).trans e226) ?_
                        refine jr.iload rfl rfl ?_
                        refine jr_s rfl rfl (Or.inl rfl) ⟨Nat.le_of_ble_eq_true rfl, Nat.le_of_ble_eq_true rfl⟩ rfl rfl (jc.deep (r_lives_x (RI.u hI_M216 (a := 638) (i := r4) (by rw [xri_row rfl rfl]; show (0 : Int) ≤ _ ∧ _ ≤ (15 : Int); omega)) (RH.o hH_M216 (by decide) (by decide) (by decide)) (RF.w (RF.fr hS_M4 (fun f => w216_1 629 f (nne rfl) (nne rfl) (nne rfl) (nne rfl) (nne rfl) (nne rfl)) (fun f => w216_1 638 f (nne rfl) (nne rfl) (nne rfl) (nne rfl) (nne rfl) (nne rfl))) (fun q => by rw [e226] at q; omega))  (by omega) (by omega) (by omega) (fun r227 z227 w227_0 => ?_)) (Nat.le_of_ble_eq_true rfl))
                        refine jr.iadd rfl ?_
                        refine jr.iast (i := r4) (x := (v217 + r227)) rfl (nlt rfl) rfl (Nat.le_of_ble_eq_true rfl) (by omega) (by omega) ?_
                        refine jr.aload_n rfl rfl ?_
                        refine jr.iload_n rfl rfl ?_
                        refine jr.iload_n rfl rfl ?_
                        have e229 : M216 598 65 = ea := ((w216_1 598 65 (nne rfl) (nne rfl) (nne rfl) (nne rfl) (nne rfl) (nne rfl)).trans e173)
                        have e230 : M216 604 ea = v174 := ((w216_1 604 ea (nne rfl) (nne rfl) (nne rfl) (nne rfl) (nne rfl) (nne rfl)).trans e176)
                        have e231 : M216 598 66 = v183 := ((w216_1 598 66 (nne rfl) (nne rfl) (nne rfl) (nne rfl) (nne rfl) (nne rfl)).trans e183)
                        refine jr_v rfl rfl (Or.inl rfl) rfl rfl (nlt rfl) rfl ⟨rfl, Nat.le_of_ble_eq_true rfl, Nat.le_of_ble_eq_true rfl⟩ rfl (jc.deep (r_counts_x (RI.u (RI.u hI_M216 (a := 638) (i := r4) (by rw [xri_row rfl rfl]; show (0 : Int) ≤ _ ∧ _ ≤ (15 : Int); omega)) (a := 639) (i := r4) (by rw [xri_row rfl rfl]; show (-2147483648 : Int) ≤ _ ∧ _ ≤ (2147483647 : Int); omega)) (RH.o (RH.o hH_M216 (by decide) (by decide) (by decide)) (by decide) (by decide) (by decide)) (RF.o (RF.w (RF.fr hS_M4 (fun f => w216_1 629 f (nne rfl) (nne rfl) (nne rfl) (nne rfl) (nne rfl) (nne rfl)) (fun f => w216_1 638 f (nne rfl) (nne rfl) (nne rfl) (nne rfl) (nne rfl) (nne rfl))) (fun q => by rw [e226] at q; omega)) (by decide) (by decide))  (by omega) (by omega) (by rw [((ju_c _ _ (by decide)).trans ((ju_c _ _ (by decide)).trans e229))]; omega) (by rw [((ju_c _ _ (by decide)).trans ((ju_c _ _ (by decide)).trans e226)), ((ju_c _ _ (by decide)).trans ((ju_c _ _ (by decide)).trans e229)), ((ju_c _ _ (by decide)).trans ((ju_c _ _ (by decide)).trans e230))]; intro q; omega) (by rw [((ju_c _ _ (by decide)).trans ((ju_c _ _ (by decide)).trans e231))]; omega) (fun M228 hI_M228 hH_M228 hS_M228  w228_0 w228_1 => ?_)) (Nat.le_of_ble_eq_true rfl))
                        refine jr.iload_n rfl rfl ?_
                        exact jr.ireturn rfl rfl rfl (q _ _ hI_M228 hH_M228 hS_M228  (by omega) (TR6.n ⟨⟨by omega, by omega⟩, by omega⟩ (by omega) w1_1 w1_2 (w1_3 2 (zne rfl) (zne rfl) (zne rfl) (zne rfl) (zne rfl) (zne rfl) (zne rfl) (zne rfl) (zne rfl) (zne rfl) (zne rfl)) (by omega) w3_1 w4_1 w4_2 w4_3 (by have hg : fe6 M4 24 0 = r4 := (by rw [(fe6_b w4_2 w4_3).2, ← w4_1.1]); have hcl : clE M4 x = r178 := (by unfold clE; rw [e173, e176, ← w177_0, ← w178_0]); have haf : afE M4 x r4 = r184 := (by unfold afE; rw [hcl, e182, e183]; have h9 := w184_0; rcases h9 with h9 | h9; (rw [if_pos h9.1, h9.2]); (rw [if_neg h9.1, h9.2])); have hK : K6 M216 r4 (M4 598 60) (M4 598 2) (afE M4 x r4) = (ju (ju M216 638 r4 r184) 639 r4 (v217 + r227)) := (by unfold K6; rw [haf, e6, e220, w227_0]; first | rfl | (rw [show v222 = v5 from by omega])); have hs : (ju (ju M216 638 r4 r184) 639 r4 (v217 + r227)) 598 66 = M4 598 66 := (by rw [e183]; exact ((ju_c _ _ (by decide)).trans ((ju_c _ _ (by decide)).trans e231))); have h9 := w228_0; rw [hs, ← hK] at h9; exact Or.inr ⟨by rw [hg]; omega, Or.inr (Or.inr (Or.inl ⟨by rw [e6]; omega, by rw [hg, haf]; omega, by rw [hg, hcl, ← w185_0]; omega, hg.symm, M216, Or.inl ⟨⟨by rw [e182]; omega, by rw [e183]; omega, by rw [hcl]; omega⟩, w216_0, w216_1⟩, h9⟩))⟩)) (fun a i f598 f603 f604 f605 f627 f628 f629 f630 f631 f632 f633 f634 f635 f636 f637 f638 f639 f640 => ((w228_1 a i f632 f633 f634 f635 f636 f637).trans ((ju_c _ _ f639).trans ((ju_c _ _ f638).trans ((w216_1 a i f632 f633 f634 f635 f636 f637).trans ((w4_2 a i f598).trans ((w3_2 a i f598).trans ((w1_2 a i f598 f603 f604 f605).trans rfl)))))))) (fun i g6 g10 g11 g12 g59 g60 g61 g62 g63 g64 g65 g66 => ((w228_1 598 i (nne rfl) (nne rfl) (nne rfl) (nne rfl) (nne rfl) (nne rfl)).trans ((ju_c _ _ (by decide)).trans ((ju_c _ _ (by decide)).trans ((w216_1 598 i (nne rfl) (nne rfl) (nne rfl) (nne rfl) (nne rfl) (nne rfl)).trans ((w4_3 i g66).trans ((w3_3 i g59 g60 g61 g62 g63 g64 g65).trans ((w1_3 i g6 g10 g11 g12 g59 g60 g61 g62 g63 g64 g65).trans rfl)))))))))
                · have sx236 : (1 : Int) ≤ r185 := by omega
                  clear h236
                  refine jr.bipush rfl (by decide) ?_
                  exact jr.ireturn rfl rfl rfl (q _ _ hI_M4 hH_M4 hS_M4  (by first | exact rgq rfl | omega) (TR6.n ⟨⟨by omega, by omega⟩, by omega⟩ (by omega) w1_1 w1_2 (w1_3 2 (zne rfl) (zne rfl) (zne rfl) (zne rfl) (zne rfl) (zne rfl) (zne rfl) (zne rfl) (zne rfl) (zne rfl) (zne rfl)) (by omega) w3_1 w4_1 w4_2 w4_3 (by have hg : fe6 M4 24 0 = r4 := (by rw [(fe6_b w4_2 w4_3).2, ← w4_1.1]); have hcl : clE M4 x = r178 := (by unfold clE; rw [e173, e176, ← w177_0, ← w178_0]); have haf : afE M4 x r4 = r184 := (by unfold afE; rw [hcl, e182, e183]; have h9 := w184_0; rcases h9 with h9 | h9; (rw [if_pos h9.1, h9.2]); (rw [if_neg h9.1, h9.2])); exact Or.inr ⟨by rw [hg]; omega, Or.inr (Or.inl ⟨by rw [e6]; omega, by rw [hg, haf]; omega, by rw [hg, hcl, ← w185_0]; omega, rfl, rfl⟩)⟩)) (fun a i f598 f603 f604 f605 f627 f628 f629 f630 f631 f632 f633 f634 f635 f636 f637 f638 f639 f640 => ((w4_2 a i f598).trans ((w3_2 a i f598).trans ((w1_2 a i f598 f603 f604 f605).trans rfl)))) (fun i g6 g10 g11 g12 g59 g60 g61 g62 g63 g64 g65 g66 => ((w4_3 i g66).trans ((w3_3 i g59 g60 g61 g62 g63 g64 g65).trans ((w1_3 i g6 g10 g11 g12 g59 g60 g61 g62 g63 g64 g65).trans rfl)))))
              · refine jr.bipush rfl (by decide) ?_
                exact jr.ireturn rfl rfl rfl (q _ _ hI_M4 hH_M4 hS_M4  (by first | exact rgq rfl | omega) (TR6.n ⟨⟨by omega, by omega⟩, by omega⟩ (by omega) w1_1 w1_2 (w1_3 2 (zne rfl) (zne rfl) (zne rfl) (zne rfl) (zne rfl) (zne rfl) (zne rfl) (zne rfl) (zne rfl) (zne rfl) (zne rfl)) (by omega) w3_1 w4_1 w4_2 w4_3 (by have hg : fe6 M4 24 0 = r4 := (by rw [(fe6_b w4_2 w4_3).2, ← w4_1.1]); have hcl : clE M4 x = r178 := (by unfold clE; rw [e173, e176, ← w177_0, ← w178_0]); have haf : afE M4 x r4 = r184 := (by unfold afE; rw [hcl, e182, e183]; have h9 := w184_0; rcases h9 with h9 | h9; (rw [if_pos h9.1, h9.2]); (rw [if_neg h9.1, h9.2])); exact Or.inr ⟨by rw [hg]; omega, Or.inl ⟨by rw [e6]; omega, by rw [hg, haf]; omega, rfl, rfl⟩⟩)) (fun a i f598 f603 f604 f605 f627 f628 f629 f630 f631 f632 f633 f634 f635 f636 f637 f638 f639 f640 => ((w4_2 a i f598).trans ((w3_2 a i f598).trans ((w1_2 a i f598 f603 f604 f605).trans rfl)))) (fun i g6 g10 g11 g12 g59 g60 g61 g62 g63 g64 g65 g66 => ((w4_3 i g66).trans ((w3_3 i g59 g60 g61 g62 g63 g64 g65).trans ((w1_3 i g6 g10 g11 g12 g59 g60 g61 g62 g63 g64 g65).trans rfl)))))
          · refine jr.aload_n rfl rfl ?_
            refine jr.getf (i := 60) (x := v5) (v := .int (Int32.ofInt (v5))) rfl rfl (nlt rfl) rfl (nlt rfl) rfl rfl e6 rfl ?_
            refine jr.bipush rfl (jbp _ (nlt rfl)) ?_
            refine jr.icmp_ne rfl rfl (by first | (refine rgb (by assumption) ?_; exact rfl) | omega) (rgl rfl) (fun h100 => ?_) (fun h100 => ?_)
            · exact absurd h100 (by omega)
            · refine jr.iload_n rfl rfl ?_
              refine jr.if_ne rfl rfl (by first | (refine rgb (by assumption) ?_; exact rfl) | omega) (fun h104 => ?_) (fun h104 => ?_)
              · have sx104 : (1 : Int) ≤ r178 := by omega
                clear h104
                refine jr.iconst rfl ?_
                refine jr.goto rfl rfl ?_
                refine jr.istore (ls' := [_, _, _, _, _, _]) rfl (nlt rfl) rfl ?_
                refine jr.iload rfl rfl ?_
                refine jr.if_ne rfl rfl (by first | exact rgl rfl | omega) (fun h => absurd h (by decide)) (fun _ => ?_)
                refine jr.bipush rfl (by decide) ?_
                exact jr.ireturn rfl rfl rfl (q _ _ hI_M4 hH_M4 hS_M4  (by first | exact rgq rfl | omega) (TR6.n ⟨⟨by omega, by omega⟩, by omega⟩ (by omega) w1_1 w1_2 (w1_3 2 (zne rfl) (zne rfl) (zne rfl) (zne rfl) (zne rfl) (zne rfl) (zne rfl) (zne rfl) (zne rfl) (zne rfl) (zne rfl)) (by omega) w3_1 w4_1 w4_2 w4_3 (by have hg : fe6 M4 24 0 = r4 := (by rw [(fe6_b w4_2 w4_3).2, ← w4_1.1]); have hcl : clE M4 x = r178 := (by unfold clE; rw [e173, e176, ← w177_0, ← w178_0]); exact Or.inl ⟨by rw [hg]; omega, Or.inl ⟨(by unfold mayE; rw [e6]; rw [hcl]; first | omega), rfl, rfl⟩⟩)) (fun a i f598 f603 f604 f605 f627 f628 f629 f630 f631 f632 f633 f634 f635 f636 f637 f638 f639 f640 => ((w4_2 a i f598).trans ((w3_2 a i f598).trans ((w1_2 a i f598 f603 f604 f605).trans rfl)))) (fun i g6 g10 g11 g12 g59 g60 g61 g62 g63 g64 g65 g66 => ((w4_3 i g66).trans ((w3_3 i g59 g60 g61 g62 g63 g64 g65).trans ((w1_3 i g6 g10 g11 g12 g59 g60 g61 g62 g63 g64 g65).trans rfl)))))
              · refine jr.iconst rfl ?_
                refine jr.goto rfl rfl ?_
                refine jr.istore (ls' := [_, _, _, _, _, _]) rfl (nlt rfl) rfl ?_
                refine jr.iload rfl rfl ?_
                refine jr.if_ne rfl rfl (by first | exact rgl rfl | omega) (fun _ => ?_) (fun h => absurd (by decide) h)
                refine jr.aload_n rfl rfl ?_
                refine jr_v rfl rfl (Or.inl rfl) rfl rfl (nlt rfl) rfl ⟨rfl, Nat.le_of_ble_eq_true rfl, Nat.le_of_ble_eq_true rfl⟩ rfl (jc.deep (r_beginFlow_x hI_M4 hH_M4 hS_M4    (fun r232 M232 hI_M232 hH_M232  z232 w232_0 w232_1 w232_2 w232_3 => ?_)) (Nat.le_of_ble_eq_true rfl))
                refine jr.istore_n (ls' := [_, _, _, _, _, _]) rfl (nlt rfl) rfl ?_
                refine jr.iload_n rfl rfl ?_
                refine jr.iconst rfl ?_
                refine jr.icmp_ne rfl rfl (by first | (refine rgb (by assumption) ?_; exact rfl) | omega) (rgl rfl) (fun h165 => ?_) (fun h165 => ?_)
                · have sx165 : (0 : Int) ≤ r232 := by omega
                  clear h165
                  refine jr.aload_n rfl rfl ?_
                  refine jr.iconst rfl ?_
                  refine jr.putf (i := 66) (x := 0) rfl rfl (nlt rfl) rfl (nlt rfl) rfl rfl rfl rfl rfl ?_
                  refine jr.aload_n rfl rfl ?_
                  have e233 : M232 598 60 = v5 := ((w232_3 598 60 (nne rfl) (nne rfl) (nne rfl) (nne rfl) (nne rfl) (nne rfl) (nne rfl) (nne rfl) (nne rfl) (nne rfl) (nne rfl) (nne rfl)).trans e6)
                  refine jr.getf (i := 60) (x := v5) (v := .int (Int32.ofInt (v5))) rfl rfl (nlt rfl) rfl (nlt rfl) rfl rfl ((ju_i _ _ (zne (by decide))).trans e233) rfl ?_
                  refine jr.bipush rfl (jbp _ (nlt rfl)) ?_
                  refine jr.icmp_ne rfl rfl (by first | (refine rgb (by assumption) ?_; exact rfl) | omega) (rgl rfl) (fun h182 => ?_) (fun h182 => ?_)
                  · exact absurd h182 (by omega)
                  · refine jr.iconst rfl ?_
                    refine jr.goto rfl rfl ?_
                    refine jr.istore (ls' := [_, _, _, _, _, _]) rfl (nlt rfl) rfl ?_
                    refine jr.goto rfl rfl ?_
                    refine jr.aload_n rfl rfl ?_
                    refine jr.getf (i := 50) (v := .ref 638) rfl rfl (nlt rfl) rfl (nlt rfl) rfl rfl rfl rfl ?_
                    refine jr.iload_n rfl rfl ?_
                    refine jr.iload rfl rfl ?_
                    refine jr.iast (i := r232) (x := 1) rfl (nlt rfl) rfl (Nat.le_of_ble_eq_true rfl) (by omega) (by omega) ?_
                    refine jr.aload_n rfl rfl ?_
                    refine jr.getf (i := 51) (v := .ref 639) rfl rfl (nlt rfl) rfl (nlt rfl) rfl rfl rfl rfl ?_
                    refine jr.iload_n rfl rfl ?_
                    refine jr.aload_n rfl rfl ?_
                    obtain ⟨v234, e234⟩ : ∃ z, M 598 2 = z := ⟨_, rfl⟩
                    have b234 : 0 ≤ v234 ∧ v234 ≤ 2000000 := by rw [← e234]; exact hI_M 598 2 (Nat.le_of_ble_eq_true rfl)
                    have e235 : M1 598 2 = v234 := ((w1_3 2 (zne rfl) (zne rfl) (zne rfl) (zne rfl) (zne rfl) (zne rfl) (zne rfl) (zne rfl) (zne rfl) (zne rfl) (zne rfl)).trans e234)
                    have e236 : M3 598 2 = v234 := ((w3_3 2 (zne rfl) (zne rfl) (zne rfl) (zne rfl) (zne rfl) (zne rfl) (zne rfl)).trans e235)
                    have e237 : M4 598 2 = v234 := ((w4_3 2 (zne rfl)).trans e236)
                    have e238 : M232 598 2 = v234 := ((w232_3 598 2 (nne rfl) (nne rfl) (nne rfl) (nne rfl) (nne rfl) (nne rfl) (nne rfl) (nne rfl) (nne rfl) (nne rfl) (nne rfl) (nne rfl)).trans e237)
                    refine jr.getf (i := 2) (x := v234) (v := .int (Int32.ofInt (v234))) rfl rfl (nlt rfl) rfl (nlt rfl) rfl rfl ((ju_c _ _ (by decide)).trans ((ju_i _ _ (zne (by decide))).trans e238)) rfl ?_
                    refine jr.aload_n rfl rfl ?_
                    refine jr.getf (i := 41) (v := .ref 629) rfl rfl (nlt rfl) rfl (nlt rfl) rfl rfl rfl rfl ?_
                    refine jr.iload_n rfl rfl ?_
                    obtain ⟨v239, e239⟩ : ∃ z, M232 629 r232 = z := ⟨_, rfl⟩
                    have b239 : 0 ≤ v239 ∧ v239 ≤ 255 := by rw [← e239]; exact (by have q := hI_M232 629 r232 (Nat.le_of_ble_eq_true rfl); rw [xri_row rfl rfl] at q; exact q)
                    refine jr.iald (i := r232) (x := v239) rfl (nlt rfl) rfl (Nat.le_of_ble_eq_true rfl) (by omega) (by omega) ((ju_c _ _ (by decide)).trans ((ju_c _ _ (by decide)).trans e239)) ?_
                    refine jr.iload rfl rfl ?_
                    refine jr_s rfl rfl (Or.inl rfl) ⟨Nat.le_of_ble_eq_true rfl, Nat.le_of_ble_eq_true rfl⟩ rfl rfl (jc.deep (r_lives_x (RI.u (RI.u hI_M232 (a := 598) (i := 66) (show (-1 : Int) ≤ _ ∧ _ ≤ (1 : Int) from by omega)) (a := 638) (i := r232) (by rw [xri_row rfl rfl]; show (0 : Int) ≤ _ ∧ _ ≤ (15 : Int); omega)) (RH.o (RH.o hH_M232 (by decide) (by decide) (by decide)) (by decide) (by decide) (by decide)) (RFx.w (RFx.o w232_0 (by decide) (by decide)) (fun q => by rw [((ju_c _ _ (by decide)).trans e239)] at q; omega))  (by omega) (by omega) (by omega) (fun r240 z240 w240_0 => ?_)) (Nat.le_of_ble_eq_true rfl))
                    refine jr.iadd rfl ?_
                    refine jr.iast (i := r232) (x := (v234 + r240)) rfl (nlt rfl) rfl (Nat.le_of_ble_eq_true rfl) (by omega) (by omega) ?_
                    refine jr.aload_n rfl rfl ?_
                    refine jr.iload_n rfl rfl ?_
                    refine jr.iload_n rfl rfl ?_
                    have e242 : M232 598 65 = ea := ((w232_3 598 65 (nne rfl) (nne rfl) (nne rfl) (nne rfl) (nne rfl) (nne rfl) (nne rfl) (nne rfl) (nne rfl) (nne rfl) (nne rfl) (nne rfl)).trans e173)
                    have e243 : M232 604 ea = v174 := ((w232_3 604 ea (nne rfl) (nne rfl) (nne rfl) (nne rfl) (nne rfl) (nne rfl) (nne rfl) (nne rfl) (nne rfl) (nne rfl) (nne rfl) (nne rfl)).trans e176)
                    refine jr_v rfl rfl (Or.inl rfl) rfl rfl (nlt rfl) rfl ⟨rfl, Nat.le_of_ble_eq_true rfl, Nat.le_of_ble_eq_true rfl⟩ rfl (jc.deep (r_counts_x (RI.u (RI.u (RI.u hI_M232 (a := 598) (i := 66) (show (-1 : Int) ≤ _ ∧ _ ≤ (1 : Int) from by omega)) (a := 638) (i := r232) (by rw [xri_row rfl rfl]; show (0 : Int) ≤ _ ∧ _ ≤ (15 : Int); omega)) (a := 639) (i := r232) (by rw [xri_row rfl rfl]; show (-2147483648 : Int) ≤ _ ∧ _ ≤ (2147483647 : Int); omega)) (RH.o (RH.o (RH.o hH_M232 (by decide) (by decide) (by decide)) (by decide) (by decide) (by decide)) (by decide) (by decide) (by decide)) (RF.o (RFx.w (RFx.o w232_0 (by decide) (by decide)) (fun q => by rw [((ju_c _ _ (by decide)).trans e239)] at q; omega)) (by decide) (by decide))  (by omega) (by omega) (by rw [((ju_c _ _ (by decide)).trans ((ju_c _ _ (by decide)).trans ((ju_i _ _ (zne (by decide))).trans e242)))]; omega) (by rw [((ju_c _ _ (by decide)).trans ((ju_c _ _ (by decide)).trans ((ju_c _ _ (by decide)).trans e239))), ((ju_c _ _ (by decide)).trans ((ju_c _ _ (by decide)).trans ((ju_i _ _ (zne (by decide))).trans e242))), ((ju_c _ _ (by decide)).trans ((ju_c _ _ (by decide)).trans ((ju_c _ _ (by decide)).trans e243)))]; intro q; omega) (by rw [((ju_c _ _ (by decide)).trans ((ju_c _ _ (by decide)).trans (ju_same _ _ _ _)))]; omega) (fun M241 hI_M241 hH_M241 hS_M241  w241_0 w241_1 => ?_)) (Nat.le_of_ble_eq_true rfl))
                    refine jr.iload_n rfl rfl ?_
                    exact jr.ireturn rfl rfl rfl (q _ _ hI_M241 hH_M241 hS_M241  (by omega) (TR6.n ⟨⟨by omega, by omega⟩, by omega⟩ (by omega) w1_1 w1_2 (w1_3 2 (zne rfl) (zne rfl) (zne rfl) (zne rfl) (zne rfl) (zne rfl) (zne rfl) (zne rfl) (zne rfl) (zne rfl) (zne rfl)) (by omega) w3_1 w4_1 w4_2 w4_3 (by have hg : fe6 M4 24 0 = r4 := (by rw [(fe6_b w4_2 w4_3).2, ← w4_1.1]); have hcl : clE M4 x = r178 := (by unfold clE; rw [e173, e176, ← w177_0, ← w178_0]); have hK : K6 (ju M232 598 66 0) r232 (M4 598 60) (M4 598 2) (if M4 598 60 = 6 then 1 else 0) = (ju (ju (ju M232 598 66 0) 638 r232 1) 639 r232 (v234 + r240)) := (by unfold K6; rw [e6, e237, if_pos (by omega), w240_0]; first | rfl | (rw [show v239 = v5 from by omega])); have h9 := w241_0; have hs : (ju (ju (ju M232 598 66 0) 638 r232 1) 639 r232 (v234 + r240)) 598 66 = 0 := ((ju_c _ _ (by decide)).trans ((ju_c _ _ (by decide)).trans (ju_same _ _ _ _))); rw [hs] at h9; rw [← hK] at h9; exact Or.inl ⟨by rw [hg]; omega, Or.inr (Or.inr ⟨(by unfold mayE; rw [e6]; rw [hcl]; first | omega), by rw [← w232_2.1]; omega, w232_2.1, M232, (by rcases w232_2.2 with h8 | h8; (exact absurd h8.1 (by omega)); (exact h8.2)), w232_3, h9⟩)⟩)) (fun a i f598 f603 f604 f605 f627 f628 f629 f630 f631 f632 f633 f634 f635 f636 f637 f638 f639 f640 => ((w241_1 a i f632 f633 f634 f635 f636 f637).trans ((ju_c _ _ f639).trans ((ju_c _ _ f638).trans ((ju_c _ _ f598).trans ((w232_3 a i f627 f628 f629 f630 f631 f632 f633 f634 f635 f636 f637 f640).trans ((w4_2 a i f598).trans ((w3_2 a i f598).trans ((w1_2 a i f598 f603 f604 f605).trans rfl))))))))) (fun i g6 g10 g11 g12 g59 g60 g61 g62 g63 g64 g65 g66 => ((w241_1 598 i (nne rfl) (nne rfl) (nne rfl) (nne rfl) (nne rfl) (nne rfl)).trans ((ju_c _ _ (by decide)).trans ((ju_c _ _ (by decide)).trans ((ju_i _ _ g66).trans ((w232_3 598 i (nne rfl) (nne rfl) (nne rfl) (nne rfl) (nne rfl) (nne rfl) (nne rfl) (nne rfl) (nne rfl) (nne rfl) (nne rfl) (nne rfl)).trans ((w4_3 i g66).trans ((w3_3 i g59 g60 g61 g62 g63 g64 g65).trans ((w1_3 i g6 g10 g11 g12 g59 g60 g61 g62 g63 g64 g65).trans rfl))))))))))
                · refine jr.bipush rfl (by decide) ?_
                  exact jr.ireturn rfl rfl rfl (q _ _ hI_M232 hH_M232 (RFx.none w232_0 (by omega))  (by omega) (TR6.n ⟨⟨by omega, by omega⟩, by omega⟩ (by omega) w1_1 w1_2 (w1_3 2 (zne rfl) (zne rfl) (zne rfl) (zne rfl) (zne rfl) (zne rfl) (zne rfl) (zne rfl) (zne rfl) (zne rfl) (zne rfl)) (by omega) w3_1 w4_1 w4_2 w4_3 (by have hg : fe6 M4 24 0 = r4 := (by rw [(fe6_b w4_2 w4_3).2, ← w4_1.1]); have hcl : clE M4 x = r178 := (by unfold clE; rw [e173, e176, ← w177_0, ← w178_0]); exact Or.inl ⟨by rw [hg]; omega, Or.inr (Or.inl ⟨(by unfold mayE; rw [e6]; rw [hcl]; first | omega), by rw [← w232_2.1]; omega, rfl, by rcases w232_2.2 with h9 | h9; (exact h9.2); (exact absurd (by omega) h9.1)⟩)⟩)) (fun a i f598 f603 f604 f605 f627 f628 f629 f630 f631 f632 f633 f634 f635 f636 f637 f638 f639 f640 => ((w232_3 a i f627 f628 f629 f630 f631 f632 f633 f634 f635 f636 f637 f640).trans ((w4_2 a i f598).trans ((w3_2 a i f598).trans ((w1_2 a i f598 f603 f604 f605).trans rfl))))) (fun i g6 g10 g11 g12 g59 g60 g61 g62 g63 g64 g65 g66 => ((w232_3 598 i (nne rfl) (nne rfl) (nne rfl) (nne rfl) (nne rfl) (nne rfl) (nne rfl) (nne rfl) (nne rfl) (nne rfl) (nne rfl) (nne rfl)).trans ((w4_3 i g66).trans ((w3_3 i g59 g60 g61 g62 g63 g64 g65).trans ((w1_3 i g6 g10 g11 g12 g59 g60 g61 g62 g63 g64 g65).trans rfl))))))
      · have sx27 : (1 : Int) ≤ r3 := by omega
        clear h27
        refine jr.aload_n rfl rfl ?_
        refine jr_v rfl rfl (Or.inl rfl) rfl rfl (nlt rfl) rfl ⟨rfl, Nat.le_of_ble_eq_true rfl, Nat.le_of_ble_eq_true rfl⟩ rfl (jc.deep (r_flowByEnds_x hI_M3 hH_M3 hS_M3    (fun r244 M244 hI_M244 hH_M244 hS_M244  z244 w244_0 w244_1 w244_2 w244_3 => ?_)) (Nat.le_of_ble_eq_true rfl))
        refine jr.istore_n (ls' := [_, _, _]) rfl (nlt rfl) rfl ?_
        refine jr.iload_n rfl rfl ?_
        refine jr.iconst rfl ?_
        refine jr.icmp_ne rfl rfl (by first | (refine rgb (by assumption) ?_; exact rfl) | omega) (rgl rfl) (fun h37 => ?_) (fun h37 => ?_)
        · have sx37 : (0 : Int) ≤ r244 := by omega
          clear h37
          refine jr.iload_n rfl rfl ?_
          exact jr.ireturn rfl rfl rfl (q _ _ hI_M244 hH_M244 hS_M244  (by omega) (TR6.r ⟨⟨by omega, by omega⟩, by omega⟩ (by omega) w1_1 w1_2 (w1_3 2 (zne rfl) (zne rfl) (zne rfl) (zne rfl) (zne rfl) (zne rfl) (zne rfl) (zne rfl) (zne rfl) (zne rfl) (zne rfl)) (by omega) w3_1 w3_2 w3_3 w244_1.1 w244_2 w244_3 (by first | rw [if_pos (by omega)] | rw [if_neg (by omega)])) (fun a i f598 f603 f604 f605 f627 f628 f629 f630 f631 f632 f633 f634 f635 f636 f637 f638 f639 f640 => ((w244_2 a i f598).trans ((w3_2 a i f598).trans ((w1_2 a i f598 f603 f604 f605).trans rfl)))) (fun i g6 g10 g11 g12 g59 g60 g61 g62 g63 g64 g65 g66 => ((w244_3 i g66).trans ((w3_3 i g59 g60 g61 g62 g63 g64 g65).trans ((w1_3 i g6 g10 g11 g12 g59 g60 g61 g62 g63 g64 g65).trans rfl)))))
        · refine jr.bipush rfl (by decide) ?_
          refine jr.goto rfl rfl ?_
          exact jr.ireturn rfl rfl rfl (q _ _ hI_M244 hH_M244 hS_M244  (by first | exact rgq rfl | omega) (TR6.r ⟨⟨by omega, by omega⟩, by omega⟩ (by omega) w1_1 w1_2 (w1_3 2 (zne rfl) (zne rfl) (zne rfl) (zne rfl) (zne rfl) (zne rfl) (zne rfl) (zne rfl) (zne rfl) (zne rfl) (zne rfl)) (by omega) w3_1 w3_2 w3_3 w244_1.1 w244_2 w244_3 (by first | rw [if_pos (by omega)] | rw [if_neg (by omega)])) (fun a i f598 f603 f604 f605 f627 f628 f629 f630 f631 f632 f633 f634 f635 f636 f637 f638 f639 f640 => ((w244_2 a i f598).trans ((w3_2 a i f598).trans ((w1_2 a i f598 f603 f604 f605).trans rfl)))) (fun i g6 g10 g11 g12 g59 g60 g61 g62 g63 g64 g65 g66 => ((w244_3 i g66).trans ((w3_3 i g59 g60 g61 g62 g63 g64 g65).trans ((w1_3 i g6 g10 g11 g12 g59 g60 g61 g62 g63 g64 g65).trans rfl)))))
    · refine jr.bipush rfl (by decide) ?_
      exact jr.ireturn rfl rfl rfl (q _ _ hI_M1 hH_M1 hS_M1  (by first | exact rgq rfl | omega) (TR6.h0 ⟨⟨by omega, by omega⟩, by omega⟩ (by omega) w1_1 w1_2) (fun a i f598 f603 f604 f605 f627 f628 f629 f630 f631 f632 f633 f634 f635 f636 f637 f638 f639 f640 => ((w1_2 a i f598 f603 f604 f605).trans rfl)) (fun i g6 g10 g11 g12 g59 g60 g61 g62 g63 g64 g65 g66 => ((w1_3 i g6 g10 g11 g12 g59 g60 g61 g62 g63 g64 g65).trans rfl)))
  · refine jr.if_ne rfl rfl (by first | exact rgl rfl | omega) (fun h => absurd h (by decide)) (fun _ => ?_)
    refine jr.bipush rfl (by decide) ?_
    exact jr.ireturn rfl rfl rfl (q _ _ hI_M hH_M hS_M  (by first | exact rgq rfl | omega) (Or.inl ⟨by omega, rfl, rfl⟩) (fun a i f598 f603 f604 f605 f627 f628 f629 f630 f631 f632 f633 f634 f635 f636 f637 f638 f639 f640 => rfl) (fun i g6 g10 g11 g12 g59 g60 g61 g62 g63 g64 g65 g66 => rfl))
