section
/-! ===== the reference: numbers on the tape ===== -/
theorem lay2t {M : jm} {i w a b : Int} (ha : a = bt w 1) (hb : b = bt w 0) : ju (ju M 599 i a) 599 (i + 1) b 599 = ptn (M 599) i 2 w := by
  funext k
  unfold ptn
  by_cases q : k = i + 1
  · subst q
    rw [ju_same, if_pos (by omega), show i + 2 - 1 - (i + 1) = 0 by omega, hb]
  · rw [ju_i _ _ q]
    by_cases q2 : k = i
    · subst q2
      rw [ju_same, if_pos (by omega), show k + 2 - 1 - k = 1 by omega, ha]
    · rw [ju_i _ _ q2, if_neg (by omega)]
theorem r_takenTwo_x {A : Nat → Option (Nat × (Nat → Int32))} {Q : Option Value → jm → Prop} {M : jm} (hI_M : RI M) (hH_M : RH M) (hS_M : RF M) {i : Int} (h_i : 0 ≤ i ∧ i ≤ 1598) (q : ∀ (r : Int), 0 ≤ r ∧ r ≤ 65535 → r = tw (M 599) i → Q (some (.int (Int32.ofInt r))) M) : jc A 1 327 [.ref (598), .int (Int32.ofInt (i))] M Q := by
  refine jc_of (m := xm_327) rfl (Nat.le_of_ble_eq_true rfl) rfl ?_
  refine jr.aload_n rfl rfl ?_
  refine jr.getf (i := 0) (v := .ref 599) rfl rfl (by decide) rfl (by decide) rfl rfl rfl rfl ?_
  refine jr.iload_n rfl rfl ?_
  obtain ⟨v1, e1⟩ : ∃ z, M 599 i = z := ⟨_, rfl⟩
  have b1 : 0 ≤ v1 ∧ v1 ≤ 255 := by rw [← e1]; exact (by have q := hI_M 599 i (by decide); rw [xri_row rfl rfl] at q; exact q)
  refine jr.iald (i := i) (x := v1) rfl (by decide) rfl (by decide) (by omega) (by omega) e1 ?_
  refine jr.bipush rfl (by decide) ?_
  refine jr.ishl rfl ?_
  refine jr.aload_n rfl rfl ?_
  refine jr.getf (i := 0) (v := .ref 599) rfl rfl (by decide) rfl (by decide) rfl rfl rfl rfl ?_
  refine jr.iload_n rfl rfl ?_
  refine jr.iconst rfl ?_
  refine jr.iadd rfl ?_
  obtain ⟨v2, e2⟩ : ∃ z, M 599 (i + 1) = z := ⟨_, rfl⟩
  have b2 : 0 ≤ v2 ∧ v2 ≤ 255 := by rw [← e2]; exact (by have q := hI_M 599 (i + 1) (by decide); rw [xri_row rfl rfl] at q; exact q)
  refine jr.iald (i := (i + 1)) (x := v2) rfl (by decide) rfl (by decide) (by omega) (by omega) e2 ?_
  refine jr.ior rfl ?_
  have b3 : j_or (j_shl v1 8) v2 = v1 * 256 + v2 := j_sho (by omega) (by omega)
  generalize j_or (j_shl v1 8) v2 = v3 at b3 ⊢
  exact jr.ireturn rfl rfl rfl (q _ (by omega) (by unfold tw; omega))
theorem r_takenFour_x {A : Nat → Option (Nat × (Nat → Int32))} {Q : Option Value → jm → Prop} {M : jm} (hI_M : RI M) (hH_M : RH M) (hS_M : RF M) {i : Int} (h_i : 0 ≤ i ∧ i ≤ 1596) (q : ∀ (r : Int), 0 ≤ r ∧ r ≤ 4294967295 → r = nbs (M 599) i 4 → Q (some (.long (Int64.ofInt r))) M) : jc A 2 328 [.ref (598), .int (Int32.ofInt (i))] M Q := by
  refine jc_of (m := xm_328) rfl (Nat.le_of_ble_eq_true rfl) rfl ?_
  refine jr.aload_n rfl rfl ?_
  refine jr.iload_n rfl rfl ?_
  refine jr_v rfl rfl (Or.inl rfl) rfl rfl (by decide) rfl ⟨rfl, Nat.le_of_ble_eq_true rfl, Nat.le_of_ble_eq_true rfl⟩ rfl (jc.deep (r_takenTwo_x hI_M hH_M hS_M  (by omega)  (fun r1 z1 w1_0 => ?_)) (by decide))
  refine jr.i2l rfl (by omega) ?_
  refine jr.bipush rfl (by decide) ?_
  refine jr.lshl rfl ?_
  refine jr.aload_n rfl rfl ?_
  refine jr.iload_n rfl rfl ?_
  refine jr.iconst rfl ?_
  refine jr.iadd rfl ?_
  refine jr_v rfl rfl (Or.inl rfl) rfl rfl (by decide) rfl ⟨rfl, Nat.le_of_ble_eq_true rfl, Nat.le_of_ble_eq_true rfl⟩ rfl (jc.deep (r_takenTwo_x hI_M hH_M hS_M  (by omega)  (fun r2 z2 w2_0 => ?_)) (by decide))
  refine jr.i2l rfl (by omega) ?_
  refine jr.lor rfl ?_
  have b3 : jl_or (jl_shl r1 16) r2 = r1 * 65536 + r2 := jl_sho16 (by omega) (by omega)
  generalize jl_or (jl_shl r1 16) r2 = v3 at b3 ⊢
  exact jr.lreturn rfl rfl (q _ (by omega) (by rw [nbs_4t]; omega))
theorem r_takenEight_x {A : Nat → Option (Nat × (Nat → Int32))} {Q : Option Value → jm → Prop} {M : jm} (hI_M : RI M) (hH_M : RH M) (hS_M : RF M) {i : Int} (h_i : 0 ≤ i ∧ i ≤ 1592) (q : ∀ (r : Int), (-9223372036854775808) ≤ r ∧ r ≤ 9223372036854775807 → r = jl_w (nbs (M 599) i 8) → Q (some (.long (Int64.ofInt r))) M) : jc A 3 329 [.ref (598), .int (Int32.ofInt (i))] M Q := by
  refine jc_of (m := xm_329) rfl (Nat.le_of_ble_eq_true rfl) rfl ?_
  refine jr.aload_n rfl rfl ?_
  refine jr.iload_n rfl rfl ?_
  refine jr_v rfl rfl (Or.inl rfl) rfl rfl (by decide) rfl ⟨rfl, Nat.le_of_ble_eq_true rfl, Nat.le_of_ble_eq_true rfl⟩ rfl (jc.deep (r_takenFour_x hI_M hH_M hS_M  (by omega)  (fun r1 z1 w1_0 => ?_)) (by decide))
  refine jr.bipush rfl (by decide) ?_
  refine jr.lshl rfl ?_
  refine jr.aload_n rfl rfl ?_
  refine jr.iload_n rfl rfl ?_
  refine jr.iconst rfl ?_
  refine jr.iadd rfl ?_
  refine jr_v rfl rfl (Or.inl rfl) rfl rfl (by decide) rfl ⟨rfl, Nat.le_of_ble_eq_true rfl, Nat.le_of_ble_eq_true rfl⟩ rfl (jc.deep (r_takenFour_x hI_M hH_M hS_M  (by omega)  (fun r2 z2 w2_0 => ?_)) (by decide))
  refine jr.lor rfl ?_
  have b3 : jl_or (jl_shl r1 32) r2 = jl_w (r1 * 4294967296 + r2) ∧ -9223372036854775808 ≤ jl_or (jl_shl r1 32) r2 ∧ jl_or (jl_shl r1 32) r2 ≤ 9223372036854775807 := ⟨jl_sho32 (by omega), jbl_any _⟩
  generalize jl_or (jl_shl r1 32) r2 = v3 at b3 ⊢
  exact jr.lreturn rfl rfl (q _ (by omega) (by rw [nbs_8, ← w1_0, ← w2_0]; omega))
theorem r_tapeTwo_x {A : Nat → Option (Nat × (Nat → Int32))} {Q : Option Value → jm → Prop} {M : jm} (hI_M : RI M) (hH_M : RH M) (hS_M : RF M) {i : Int} (h_i : 0 ≤ i ∧ i ≤ 1598) {w : Int} (h_w : (-2147483648) ≤ w ∧ w ≤ 2147483647) (q : ∀ (M' : jm), RI M' → RH M' → RF M' → M' 599 = ptn (M 599) i 2 w → (∀ (a : Nat) (i : Int), a ≠ 599 → M' a i = M a i) → Q none M') : jc A 1 324 [.ref (598), .int (Int32.ofInt (i)), .int (Int32.ofInt (w))] M Q := by
  refine jc_of (m := xm_324) rfl (Nat.le_of_ble_eq_true rfl) rfl ?_
  refine jr.aload_n rfl rfl ?_
  refine jr.getf (i := 0) (v := .ref 599) rfl rfl (by decide) rfl (by decide) rfl rfl rfl rfl ?_
  refine jr.iload_n rfl rfl ?_
  refine jr.iload_n rfl rfl ?_
  refine jr.bipush rfl (by decide) ?_
  refine jr.ishr rfl ?_
  have b1 : j_shr w 8 = w / 256 := j_shr_ex 8 (by decide) (by omega) (by omega)
  generalize j_shr w 8 = v1 at b1 ⊢
  refine jr.sipush rfl (by decide) ?_
  refine jr.iand rfl ?_
  have b2 : j_and v1 255 = v1 % 256 := j_and_m 8 (by decide) _
  generalize j_and v1 255 = v2 at b2 ⊢
  refine jr.iast (i := i) (x := v2) rfl (by decide) rfl (by decide) (by omega) (by omega) ?_
  refine jr.aload_n rfl rfl ?_
  refine jr.getf (i := 0) (v := .ref 599) rfl rfl (by decide) rfl (by decide) rfl rfl rfl rfl ?_
  refine jr.iload_n rfl rfl ?_
  refine jr.iconst rfl ?_
  refine jr.iadd rfl ?_
  refine jr.iload_n rfl rfl ?_
  refine jr.sipush rfl (by decide) ?_
  refine jr.iand rfl ?_
  have b3 : j_and w 255 = w % 256 := j_and_m 8 (by decide) _
  generalize j_and w 255 = v3 at b3 ⊢
  refine jr.iast (i := (i + 1)) (x := v3) rfl (by decide) rfl (by decide) (by omega) (by omega) ?_
  exact jr.vreturn rfl rfl (q _ (RI.u (RI.u hI_M (a := 599) (i := i) (by rw [xri_row rfl rfl]; show (0 : Int) ≤ _ ∧ _ ≤ (255 : Int); omega)) (a := 599) (i := (i + 1)) (by rw [xri_row rfl rfl]; show (0 : Int) ≤ _ ∧ _ ≤ (255 : Int); omega)) (RH.o (RH.o hH_M (by decide) (by decide) (by decide)) (by decide) (by decide) (by decide)) (RF.o (RF.o hS_M (by decide) (by decide)) (by decide) (by decide))  (by exact lay2t (by show _ = w / 256 % 256; omega) (by show _ = w % 256; omega)) (fun a i f599 => ((ju_c _ _ f599).trans ((ju_c _ _ f599).trans rfl))))
end
section
/-! ===== the reference: track ===== -/
noncomputable def heG (f : Int → Int) (N C : Int) : Prop := hX f N C = -1 ∧ heF f N C 0
theorem heG_i {f : Int → Int} {N C F : Int} (h : F = 0 ↔ hX f N C = -1) : heF f N C F ↔ heG f N C := by
  unfold heG heF
  constructor
  · intro u; exact ⟨h.1 u.1, rfl, u.2⟩
  · intro u; exact ⟨h.2 u.1, u.2.2⟩
noncomputable def SFl (T M : jm) : Prop := ∀ (b : Nat) (i : Int), 627 ≤ b → b ≤ 642 → M b i = T b i
theorem sd6_f {M M1 : jm} {g : Int} (h : ∀ (b : Nat) (i : Int), 627 ≤ b → b ≤ 642 → M1 b i = M b i) (h9 : M1 598 59 = M 598 59) (h0 : M1 598 60 = M 598 60) (h1 : M1 598 61 = M 598 61) (h2 : M1 598 62 = M 598 62) (h3 : M1 598 63 = M 598 63) (h4 : M1 598 64 = M 598 64) : sd6 M1 g = sd6 M g := by
  unfold sd6
  simp only [h9, h0, h1, h2, h3, h4, h 627 _ (by decide) (by decide), h 628 _ (by decide) (by decide), h 629 _ (by decide) (by decide), h 630 _ (by decide) (by decide), h 631 _ (by decide) (by decide), h 640 _ (by decide) (by decide), h 641 _ (by decide) (by decide), h 642 _ (by decide) (by decide)]
theorem fe6_e {M M1 : jm} (h : ∀ g : Int, sd6 M1 g = sd6 M g) : ∀ (n : Nat) (i : Int), fe6 M1 n i = fe6 M n i := by
  intro n
  induction n with
  | zero => intro i; rfl
  | succ n ih => intro i; unfold fe6; rw [h, ih]
noncomputable def OBF (E B : jm) : Prop := ∀ (a : Nat) (i : Int), a ≠ 627 → a ≠ 628 → a ≠ 629 → a ≠ 630 → a ≠ 631 → a ≠ 632 → a ≠ 633 → a ≠ 634 → a ≠ 635 → a ≠ 636 → a ≠ 637 → a ≠ 640 → B a i = E a i
noncomputable def OFG (E B : jm) : Prop := ∀ (a : Nat) (i : Int), a ≠ 632 → a ≠ 633 → a ≠ 634 → a ≠ 635 → a ≠ 636 → a ≠ 637 → B a i = E a i
noncomputable def clE (E : jm) (x : Int) : Int := scf (E 601 (400 * x + (E 604 (E 598 65) + 13)))
noncomputable def mayE (E : jm) (x : Int) : Prop := (E 598 60 = 6 ∧ clE E x = 0) ∨ (E 598 60 ≠ 6 ∧ (E 598 60 = 17 ∨ E 601 (400 * x + E 604 (E 598 65)) = 8))
noncomputable def afE (E : jm) (x g : Int) : Int := if clE E x = 5 then 0 else E 647 (10 * (E 638 g - 1) + 5 * E 598 66 + clE E x)
noncomputable def u7E (E : jm) (g : Int) : Int := if E 598 60 = 17 ∧ (E 598 66 = 1 ∨ E 638 g = 1) then 1 else 0
noncomputable def K6 (B : jm) (g n t st : Int) : jm := ju (ju B 638 g st) 639 g (t + lvf n st)
/-- a packet that isn't related, behind the search for its flow -/
noncomputable def TRN (E M' : jm) (x r : Int) : Prop := (fe6 E 24 0 = -1 ∧ ((¬ mayE E x ∧ r = -6 ∧ M' = E) ∨ (mayE E x ∧ fE6 E 24 0 = -1 ∧ r = -5 ∧ M' = E) ∨ (mayE E x ∧ fE6 E 24 0 ≠ -1 ∧ r = fE6 E 24 0 ∧ ∃ B : jm, BF6 E B r ∧ OBF E B ∧ CT6 (K6 (ju B 598 66 0) r (E 598 60) (E 598 2) (if E 598 60 = 6 then 1 else 0)) M' x r (2 * r + 0)))) ∨ (fe6 E 24 0 ≠ -1 ∧ ((E 598 60 = 6 ∧ afE E x (fe6 E 24 0) = 0 ∧ r = -7 ∧ M' = E) ∨ (E 598 60 = 6 ∧ afE E x (fe6 E 24 0) ≠ 0 ∧ io6 E x (fe6 E 24 0) (clE E x) = 1 ∧ r = -8 ∧ M' = E) ∨ (E 598 60 = 6 ∧ afE E x (fe6 E 24 0) ≠ 0 ∧ io6 E x (fe6 E 24 0) (clE E x) ≠ 1 ∧ r = fe6 E 24 0 ∧ ∃ B : jm, (((9 ≤ E 638 r ∧ E 598 66 = 0 ∧ clE E x = 0) ∧ FG6 E B r (2 * r + 2) ∧ OFG E B) ∨ (¬ (9 ≤ E 638 r ∧ E 598 66 = 0 ∧ clE E x = 0) ∧ B = E)) ∧ CT6 (K6 B r (E 598 60) (E 598 2) (afE E x r)) M' x r (2 * r + E 598 66)) ∨ (E 598 60 ≠ 6 ∧ r = fe6 E 24 0 ∧ CT6 (K6 E r (E 598 60) (E 598 2) (u7E E r)) M' x r (2 * r + E 598 66))))
noncomputable def TRE (T E : jm) (f : Int → Int) (N C x : Int) : Prop := SFl T E ∧ E 598 2 = T 598 2 ∧ HT E f N C ∧ rf E x = f ∧ E 600 x = N ∧ (∀ i : Int, E 647 i = T 647 i)
noncomputable def TR7 (T M' : jm) (f : Int → Int) (N C x r : Int) : Prop := (¬ heG f N C ∧ r = -4 ∧ SFl T M') ∨ (heG f N C ∧ qfF f N C (inf f N C (ntf f N C)) ∧ ∃ E : jm, TRE T E f N C x ∧ EN6 E f N C (inf f N C (ntf f N C) + 1) (inf f N C (ntf f N C) + 2) ∧ SFl T M' ∧ r = (if fe6 E 24 0 = -1 then -6 else fe6 E 24 0)) ∨ (heG f N C ∧ ¬ qfF f N C (inf f N C (ntf f N C)) ∧ ∃ E : jm, TRE T E f N C x ∧ EN6 E f N C (ntf f N C) (inf f N C (ntf f N C)) ∧ (fe6 E 24 0 = -1 ∨ E 598 66 = sd6 E (fe6 E 24 0)) ∧ TRN E M' x r)
noncomputable def TR6 (T M' : jm) (x r : Int) : Prop := ((x < 0 ∨ 23 < x ∨ T 600 x = -1) ∧ r = -2 ∧ M' = T) ∨ (((0 ≤ x ∧ x ≤ 23) ∧ T 600 x ≠ -1) ∧ ∃ C : Int, HE (rf T x) (T 600 x) C ∧ TR7 T M' (rf T x) (T 600 x) C x r)
theorem TR6.h0 {T H : jm} {x z : Int} (hx : (0 ≤ x ∧ x ≤ 23) ∧ T 600 x ≠ -1) (hz : z = 0) (hn : HN6 T H x z) (fH : ∀ (a : Nat) (i : Int), a ≠ 598 → a ≠ 603 → a ≠ 604 → a ≠ 605 → H a i = T a i) : TR6 T H x (-4) := by
  obtain ⟨h1, ⟨h2, h3⟩, h4⟩ := hn
  refine Or.inr ⟨hx, _, h2, Or.inl ⟨?_, rfl, fun b i b1 b2 => fH b i (by omega) (by omega) (by omega) (by omega)⟩⟩
  rw [← heG_i h3]
  rcases h4 with h4 | h4
  · exact h4.1
  · omega
end
