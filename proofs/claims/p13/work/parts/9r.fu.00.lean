section
/-! ===== the reference: four bytes, turn ===== -/
theorem jl_and_16 (x : Int) : jl_and x 65535 = x % 65536 := by
  unfold jl_and
  have hN : (Int64.ofInt x &&& Int64.ofInt 65535).toBitVec.toNat = (x % 18446744073709551616).toNat % 2 ^ 16 := by
    rw [Int64.toBitVec_and, BitVec.toNat_and, jbl_tn, jbl_tn]
    exact Nat.and_two_pow_sub_one_eq_mod _ 16
  rw [jbl_ti, hN]
  split <;> omega
theorem pt22 {f : Int → Int} {i w a b : Int} (ha : a = w / 65536 % 65536) (hb : b = w % 65536) : ptn (ptn f i 2 a) (i + 2) 2 b = ptn f i 4 w := by
  funext k
  unfold ptn
  by_cases q : i ≤ k ∧ k < i + 4
  · rw [if_pos q]
    rcases (show k = i ∨ k = i + 1 ∨ k = i + 2 ∨ k = i + 3 by omega) with e | e | e | e <;> subst e
    · rw [if_neg (by omega), if_pos (by omega), show k + 2 - 1 - k = 1 by omega, show k + 4 - 1 - k = 3 by omega]
      show a / 256 % 256 = w / 16777216 % 256
      omega
    · rw [if_neg (by omega), if_pos (by omega), show i + 2 - 1 - (i + 1) = 0 by omega, show i + 4 - 1 - (i + 1) = 2 by omega]
      show a % 256 = w / 65536 % 256
      omega
    · rw [if_pos (by omega), show i + 2 + 2 - 1 - (i + 2) = 1 by omega, show i + 4 - 1 - (i + 2) = 1 by omega]
      show b / 256 % 256 = w / 256 % 256
      omega
    · rw [if_pos (by omega), show i + 2 + 2 - 1 - (i + 3) = 0 by omega, show i + 4 - 1 - (i + 3) = 0 by omega]
      show b % 256 = w % 256
      omega
  · rw [if_neg q, if_neg (by omega), if_neg (by omega)]
theorem r_layFour_x {A : Nat → Option (Nat × (Nat → Int32))} {Q : Option Value → jm → Prop} {M : jm} (hI_M : RI M) (hH_M : RH M) (hS_M : RF M) {x : Int} (h_x : 0 ≤ x ∧ x ≤ 23) {i : Int} (h_i : 0 ≤ i ∧ i ≤ 396) {w : Int} (h_w : (-9223372036854775808) ≤ w ∧ w ≤ 9223372036854775807) (q : ∀ (M' : jm), RI M' → RH M' → RF M' → rf M' x = ptn (rf M x) i 4 w → OX M M' x → (∀ (a : Nat) (i : Int), a ≠ 601 → M' a i = M a i) → Q none M') : jc A 2 258 [.ref (598), .int (Int32.ofInt (x)), .int (Int32.ofInt (i)), .long (Int64.ofInt (w))] M Q := by
  refine jc_of (m := xm_258) rfl (Nat.le_of_ble_eq_true rfl) rfl ?_
  refine jr.aload_n rfl rfl ?_
  refine jr.iload_n rfl rfl ?_
  refine jr.iload_n rfl rfl ?_
  refine jr.lload_n rfl rfl ?_
  refine jr.bipush rfl (by decide) ?_
  refine jr.lshr rfl ?_
  have b1 : jl_shr w 16 = w / 65536 := jl_shr_ex 16 (by decide) (by omega) (by omega)
  generalize jl_shr w 16 = v1 at b1 ⊢
  refine jr.ldc2 (x := 65535) rfl rfl (by decide) ?_
  refine jr.land rfl ?_
  have b2 : jl_and v1 65535 = v1 % 65536 ∧ 0 ≤ jl_and v1 65535 ∧ jl_and v1 65535 ≤ 65535 := ⟨jl_and_16 _, by rw [jl_and_16]; omega⟩
  generalize jl_and v1 65535 = v2 at b2 ⊢
  refine jr.l2i rfl ?_
  refine jr_v rfl rfl (Or.inl rfl) rfl rfl (by decide) rfl ⟨rfl, Nat.le_of_ble_eq_true rfl, Nat.le_of_ble_eq_true rfl⟩ rfl (jc.deep (r_layTwo_x hI_M hH_M hS_M  (by omega) (by omega) (by omega)  (fun M3 hI_M3 hH_M3 hS_M3  w3_0 w3_1 w3_2 => ?_)) (by decide))
  refine jr.aload_n rfl rfl ?_
  refine jr.iload_n rfl rfl ?_
  refine jr.iload_n rfl rfl ?_
  refine jr.iconst rfl ?_
  refine jr.iadd rfl ?_
  refine jr.lload_n rfl rfl ?_
  refine jr.ldc2 (x := 65535) rfl rfl (by decide) ?_
  refine jr.land rfl ?_
  have b4 : jl_and w 65535 = w % 65536 ∧ 0 ≤ jl_and w 65535 ∧ jl_and w 65535 ≤ 65535 := ⟨jl_and_16 _, by rw [jl_and_16]; omega⟩
  generalize jl_and w 65535 = v4 at b4 ⊢
  refine jr.l2i rfl ?_
  refine jr_v rfl rfl (Or.inl rfl) rfl rfl (by decide) rfl ⟨rfl, Nat.le_of_ble_eq_true rfl, Nat.le_of_ble_eq_true rfl⟩ rfl (jc.deep (r_layTwo_x hI_M3 hH_M3 hS_M3  (by omega) (by omega) (by omega)  (fun M5 hI_M5 hH_M5 hS_M5  w5_0 w5_1 w5_2 => ?_)) (by decide))
  exact jr.vreturn rfl rfl (q _ hI_M5 hH_M5 hS_M5  (by rw [w5_0, w3_0]; exact pt22 (by omega) (by omega)) (fun j hj => (w5_1 j hj).trans (w3_1 j hj)) (fun a i f601 => ((w5_2 a i f601).trans ((w3_2 a i f601).trans rfl))))
theorem r_tapeFour_x {A : Nat → Option (Nat × (Nat → Int32))} {Q : Option Value → jm → Prop} {M : jm} (hI_M : RI M) (hH_M : RH M) (hS_M : RF M) {i : Int} (h_i : 0 ≤ i ∧ i ≤ 1596) {w : Int} (h_w : (-9223372036854775808) ≤ w ∧ w ≤ 9223372036854775807) (q : ∀ (M' : jm), RI M' → RH M' → RF M' → M' 599 = ptn (M 599) i 4 w → (∀ (a : Nat) (i : Int), a ≠ 599 → M' a i = M a i) → Q none M') : jc A 2 325 [.ref (598), .int (Int32.ofInt (i)), .long (Int64.ofInt (w))] M Q := by
  refine jc_of (m := xm_325) rfl (Nat.le_of_ble_eq_true rfl) rfl ?_
  refine jr.aload_n rfl rfl ?_
  refine jr.iload_n rfl rfl ?_
  refine jr.lload_n rfl rfl ?_
  refine jr.bipush rfl (by decide) ?_
  refine jr.lshr rfl ?_
  have b1 : jl_shr w 16 = w / 65536 := jl_shr_ex 16 (by decide) (by omega) (by omega)
  generalize jl_shr w 16 = v1 at b1 ⊢
  refine jr.ldc2 (x := 65535) rfl rfl (by decide) ?_
  refine jr.land rfl ?_
  have b2 : jl_and v1 65535 = v1 % 65536 ∧ 0 ≤ jl_and v1 65535 ∧ jl_and v1 65535 ≤ 65535 := ⟨jl_and_16 _, by rw [jl_and_16]; omega⟩
  generalize jl_and v1 65535 = v2 at b2 ⊢
  refine jr.l2i rfl ?_
  refine jr_v rfl rfl (Or.inl rfl) rfl rfl (by decide) rfl ⟨rfl, Nat.le_of_ble_eq_true rfl, Nat.le_of_ble_eq_true rfl⟩ rfl (jc.deep (r_tapeTwo_x hI_M hH_M hS_M  (by omega) (by omega)  (fun M3 hI_M3 hH_M3 hS_M3  w3_0 w3_1 => ?_)) (by decide))
  refine jr.aload_n rfl rfl ?_
  refine jr.iload_n rfl rfl ?_
  refine jr.iconst rfl ?_
  refine jr.iadd rfl ?_
  refine jr.lload_n rfl rfl ?_
  refine jr.ldc2 (x := 65535) rfl rfl (by decide) ?_
  refine jr.land rfl ?_
  have b4 : jl_and w 65535 = w % 65536 ∧ 0 ≤ jl_and w 65535 ∧ jl_and w 65535 ≤ 65535 := ⟨jl_and_16 _, by rw [jl_and_16]; omega⟩
  generalize jl_and w 65535 = v4 at b4 ⊢
  refine jr.l2i rfl ?_
  refine jr_v rfl rfl (Or.inl rfl) rfl rfl (by decide) rfl ⟨rfl, Nat.le_of_ble_eq_true rfl, Nat.le_of_ble_eq_true rfl⟩ rfl (jc.deep (r_tapeTwo_x hI_M3 hH_M3 hS_M3  (by omega) (by omega)  (fun M5 hI_M5 hH_M5 hS_M5  w5_0 w5_1 => ?_)) (by decide))
  exact jr.vreturn rfl rfl (q _ hI_M5 hH_M5 hS_M5  (by rw [w5_0, w3_0]; exact pt22 (by omega) (by omega)) (fun a i f599 => ((w5_1 a i f599).trans ((w3_1 a i f599).trans rfl))))
/-- bytes behind turn: net n, inner i, the side, address and port -/
noncomputable def tuF (f : Int → Int) (N C n i s a o : Int) : Int → Int := mdF f N C n (mdF f N C i (ptn (ptn f (hY f N n + (if s = 0 then 12 else 16)) 4 a) (hY f N i + (if s = 0 then 0 else 2)) 2 o))
noncomputable def TU7 (T M' : jm) (f : Int → Int) (N C x r : Int) : Prop := (¬ heG f N C ∧ r = -4 ∧ ∀ i : Int, M' 601 i = T 601 i) ∨ (heG f N C ∧ ∃ E : jm, TRE T E f N C x ∧ EN6 E f N C (ntf f N C) (inf f N C (ntf f N C)) ∧ (((fe6 E 24 0 = -1 ∨ E 640 (fe6 E 24 0) = -1) ∧ r = -4 ∧ ∀ i : Int, M' 601 i = T 601 i) ∨ ((fe6 E 24 0 ≠ -1 ∧ E 640 (fe6 E 24 0) ≠ -1) ∧ r = sd6 E (fe6 E 24 0) ∧ rf M' x = tuF f N C (ntf f N C) (inf f N C (ntf f N C)) r (if r = 0 then E 641 (fe6 E 24 0) else E 630 (2 * fe6 E 24 0)) (if r = 0 then E 642 (fe6 E 24 0) else E 631 (2 * fe6 E 24 0)) ∧ OX T M' x)))
noncomputable def TU6 (T M' : jm) (x r : Int) : Prop := ((x < 0 ∨ 23 < x ∨ T 600 x = -1) ∧ r = -2 ∧ M' = T) ∨ (((0 ≤ x ∧ x ≤ 23) ∧ T 600 x ≠ -1) ∧ ∃ C : Int, HE (rf T x) (T 600 x) C ∧ TU7 T M' (rf T x) (T 600 x) C x r)
theorem TU6.h0 {T H : jm} {x z : Int} (hx : (0 ≤ x ∧ x ≤ 23) ∧ T 600 x ≠ -1) (hz : z = 0) (hn : HN6 T H x z) (fH : ∀ (a : Nat) (i : Int), a ≠ 598 → a ≠ 603 → a ≠ 604 → a ≠ 605 → H a i = T a i) : TU6 T H x (-4) := by
  obtain ⟨h1, ⟨h2, h3⟩, h4⟩ := hn
  refine Or.inr ⟨hx, _, h2, Or.inl ⟨?_, rfl, fun i => fH 601 i (by decide) (by decide) (by decide) (by decide)⟩⟩
  rw [← heG_i h3]
  rcases h4 with h4 | h4
  · exact h4.1
  · omega
theorem TU6.n {T H E M' : jm} {x z g r : Int} (hx : (0 ≤ x ∧ x ≤ 23) ∧ T 600 x ≠ -1) (hz : z ≠ 0) (hn : HN6 T H x z) (fH : ∀ (a : Nat) (i : Int), a ≠ 598 → a ≠ 603 → a ≠ 604 → a ≠ 605 → H a i = T a i) (f2 : H 598 2 = T 598 2) (hb : g = fe6 H 24 0) (fE : ∀ (a : Nat) (i : Int), a ≠ 598 → E a i = H a i) (gE : ∀ (i : Int), i ≠ 66 → E 598 i = H 598 i) (h : ((g = -1 ∨ E 640 g = -1) ∧ r = -4 ∧ ∀ i : Int, M' 601 i = T 601 i) ∨ ((g ≠ -1 ∧ E 640 g ≠ -1) ∧ r = sd6 H g ∧ rf M' x = tuF (rf T x) (T 600 x) (H 598 6) (ntf (rf T x) (T 600 x) (H 598 6)) (H 598 65) r (if r = 0 then E 641 g else E 630 (2 * g)) (if r = 0 then E 642 g else E 631 (2 * g)) ∧ OX T M' x)) : TU6 T M' x r := by
  have te := TRE.m hn fH f2 (fun _ _ _ => rfl) (fun _ _ _ _ _ _ _ _ => rfl) fE gE
  obtain ⟨h1, ⟨h2, h3⟩, h4⟩ := hn
  rcases h4 with h4 | h4
  · exact absurd h4.2 hz
  have e5 := h4.2.2.2
  refine Or.inr ⟨hx, _, h2, Or.inr ⟨(heG_i h3).1 h4.1, E, te, h4.2.2.e gE, ?_⟩⟩
  rw [e5] at h
  rw [(fe6_b fE gE).2, (fe6_b fE gE).1, ← hb]
  exact h
theorem HT.fr1 {M M1 : jm} {f : Int → Int} {N C : Int} (h : HT M f N C) (g : ∀ (b : Nat) (i : Int), b ≠ 601 → M1 b i = M b i) : HT M1 f N C := by
  refine ⟨by rw [g 598 6 (by decide)]; exact h.1, ?_, h.2.2⟩
  intro i h0 h1
  have q := h.2.1 i h0 h1
  rw [g (602 + 1) i (by decide), g (602 + 2) i (by decide), g (602 + 3) i (by decide)]
  exact q
end
