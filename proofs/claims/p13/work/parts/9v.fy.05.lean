section
theorem r_export_x {A : Nat → Option (Nat × (Nat → Int32))} {Q : Option Value → jm → Prop} {M : jm} (hI_M : RI M) (hH_M : RH M) (hS_M : RF M) (q : ∀ (r : Int) (M' : jm), RI M' → RH M' → RF M' → 0 ≤ r ∧ r ≤ 1600 → (M' 599 = (exL (u6x M) (B6x M) (M 599) 24).1 ∧ M' 598 1 = (exL (u6x M) (B6x M) (M 599) 24).2 ∧ r = M' 598 1) → (∀ (a : Nat) (i : Int), a ≠ 598 → a ≠ 599 → M' a i = M a i) → (∀ (i : Int), i ≠ 1 → M' 598 i = M 598 i) → Q (some (.int (Int32.ofInt r))) M') : jc A 3 326 [.ref (598)] M Q := by
  refine jc_of (m := xm_326) rfl (Nat.le_of_ble_eq_true rfl) rfl ?_
  refine jr.aload_n rfl rfl ?_
  refine jr.iconst rfl ?_
  refine jr.putf (i := 1) (x := 0) rfl rfl (by decide) rfl (by decide) rfl rfl rfl rfl rfl ?_
  refine jr.iconst rfl ?_
  refine jr.istore_n (ls' := [_, _]) rfl (by decide) rfl ?_
  refine jr.pick (ls := [_, _]) [0, 1] rfl rfl ?_
  exact r_export_L7_x q 24 (ju M 598 1 0) 0 (RI.u hI_M (a := 598) (i := 1) (show (0 : Int) ≤ _ ∧ _ ≤ (1600 : Int) from by omega)) (RH.o hH_M (by decide) (by decide) (by decide)) (RF.o hS_M (by decide) (by decide))  (fun a i f598 f599 => ((ju_c _ _ f598).trans rfl)) (fun i g1 => ((ju_i _ _ g1).trans rfl)) (by omega) (by rw [(ju_same _ _ _ _)]; omega) (by rw [(ju_same _ _ _ _)]; omega) ⟨funext (fun i => ju_c _ _ (by decide)), ju_same _ _ _ _⟩ (by omega)
end
section
/-! ===== the table: rows read ===== -/
noncomputable def tHl (f : Int → Int) (y s : Int) : Int := if s = 0 then f (y + 1) / 32 % 2 else f (y + 1) / 64 % 2
noncomputable def tLa (f : Int → Int) (y s : Int) : Int := if tHl f y s = 0 then 0 else j_w (nbs f (y + 26 + 4 * s) 4)
noncomputable def tAd (f : Int → Int) (y s : Int) : Int := jl_w (nbs f (y + 10 + 8 * s) 8)
noncomputable def tPt (f : Int → Int) (y s : Int) : Int := tw f (y + 2 + 2 * s)
noncomputable def tWn (f : Int → Int) (y s : Int) : Int := tw f (y + 6 + 2 * s)
noncomputable def tPk (f : Int → Int) (y s : Int) : Int := if s = 0 then nbs f (y + 38) 4 else 0
noncomputable def tBy (f : Int → Int) (y s : Int) : Int := if s = 0 then nbs f (y + 42) 4 else 0
noncomputable def stOK (n s : Int) : Prop := (n = 1 ∧ s = 0) ∨ (n = 6 ∧ 1 ≤ s ∧ s ≤ 10) ∨ (n = 17 ∧ s ≤ 1)
noncomputable def adOK (f : Int → Int) (y : Int) : Prop := f (y + 1) / 16 % 2 = 1 ∨ ((0 ≤ tAd f y 0 ∧ tAd f y 0 ≤ 4294967295) ∧ (0 ≤ tAd f y 1 ∧ tAd f y 1 ≤ 4294967295))
/-- a row that is right by itself -/
noncomputable def rGood (f : Int → Int) (y : Int) : Prop := tw f (y + 46) = tn (sb f y 46) ∧ stOK (f y) (f (y + 1) % 16) ∧ adOK f y ∧ (1 ≤ nbs f (y + 34) 4 ∧ nbs f (y + 34) 4 ≤ 200)
/-- rows that tell the same ends -/
noncomputable def rLike (f : Int → Int) (a b : Int) : Prop := (f a = f b ∧ f (a + 1) / 16 % 2 = f (b + 1) / 16 % 2) ∧ (((tPt f a 0 = tPt f b 0 ∧ tPt f a 1 = tPt f b 1) ∧ tAd f a 0 = tAd f b 0 ∧ tAd f a 1 = tAd f b 1) ∨ ((tPt f a 0 = tPt f b 1 ∧ tPt f a 1 = tPt f b 0) ∧ tAd f a 0 = tAd f b 1 ∧ tAd f a 1 = tAd f b 0))
noncomputable def okR (f : Int → Int) (L j : Int) : Prop := (48 * j + 48 ≤ L ∧ j < 24) ∧ rGood f (48 * j) ∧ ∀ k : Int, 0 ≤ k → k < j → ¬ rLike f (48 * k) (48 * j)
/-- what restore answers -/
noncomputable def RTR (f : Int → Int) (L r : Int) : Prop := (∃ j : Int, (0 ≤ j ∧ j < (L + 47) / 48) ∧ (∀ k : Int, 0 ≤ k → k < j → okR f L k) ∧ ¬ okR f L j ∧ r = -10 - j) ∨ ((∀ k : Int, 0 ≤ k → k < (L + 47) / 48 → okR f L k) ∧ r = (L + 47) / 48)
theorem RTR.u {f : Int → Int} {L r r2 : Int} (h : RTR f L r) (h2 : RTR f L r2) : r = r2 := by
  rcases h with ⟨j, a1, a2, a3, a4⟩ | ⟨a2, a4⟩ <;> rcases h2 with ⟨i, b1, b2, b3, b4⟩ | ⟨b2, b4⟩
  · rcases (show j < i ∨ j = i ∨ i < j by omega) with q | q | q
    · exact absurd (b2 j a1.1 q) a3
    · omega
    · exact absurd (a2 i b1.1 q) b3
  · exact absurd (b2 j a1.1 a1.2) a3
  · exact absurd (a2 i b1.1 b1.2) b3
  · omega
theorem jbx0 : ∀ n : Nat, n < 256 → j_and (n : Int) 32 = ((n / 32 % 2 * 32 : Nat) : Int) ∧ j_and (n : Int) 64 = ((n / 64 % 2 * 64 : Nat) : Int) ∧ j_and (n : Int) 128 = ((n / 128 % 2 * 128 : Nat) : Int) := by decide +kernel
theorem jbx {x : Int} (h : 0 ≤ x ∧ x ≤ 255) : j_and x 32 = x / 32 % 2 * 32 ∧ j_and x 64 = x / 64 % 2 * 64 ∧ j_and x 128 = x / 128 % 2 * 128 := by
  obtain ⟨n, rfl⟩ := Int.eq_ofNat_of_zero_le h.1
  have q := jbx0 n (by omega)
  refine ⟨?_, ?_, ?_⟩
  · rw [q.1]; omega
  · rw [q.2.1]; omega
  · rw [q.2.2]; omega
theorem hl_and {x i : Int} (h : 0 ≤ x ∧ x ≤ 255) (hi : 0 ≤ i ∧ i ≤ 1) : j_and x (j_shl 32 i) = (if i = 0 then x / 32 % 2 * 32 else x / 64 % 2 * 64) ∧ 0 ≤ j_and x (j_shl 32 i) ∧ j_and x (j_shl 32 i) ≤ 64 := by
  rcases (show i = 0 ∨ i = 1 by omega) with rfl | rfl
  · rw [show j_shl 32 0 = 32 by decide, (jbx h).1, if_pos rfl]
    omega
  · rw [show j_shl 32 1 = 64 by decide, (jbx h).2.1, if_neg (by decide)]
    omega
theorem jl_ushr_32 (x : Int) : jl_ushr x 32 = x % 18446744073709551616 / 4294967296 := by
  unfold jl_ushr
  have hN : ((Int64.ofInt x).toUInt64 >>> ((Int32.ofInt ((32 : Nat) : Int)).toInt64.toUInt64 &&& Int64.toUInt64 63)).toInt64.toBitVec.toNat = (x % 18446744073709551616).toNat / 2 ^ 32 := by
    show ((Int64.ofInt x).toUInt64 >>> ((Int32.ofInt ((32 : Nat) : Int)).toInt64.toUInt64 &&& Int64.toUInt64 63)).toBitVec.toNat = _
    rw [UInt64.toBitVec_shiftRight]
    show ((Int64.ofInt x).toBitVec >>> ((((Int32.ofInt ((32 : Nat) : Int)).toInt64.toUInt64 &&& Int64.toUInt64 63).toBitVec % 64))).toNat = _
    rw [BitVec.ushiftRight_eq', BitVec.toNat_ushiftRight, jbl_su 32 (by decide), jbl_tn, Nat.shiftRight_eq_div_pow]
  have e : (Int32.ofInt 32) = (Int32.ofInt ((32 : Nat) : Int)) := rfl
  rw [e, jbl_ti, hN]
  split <;> omega
theorem tp1 {f : Int → Int} {y r : Int} (hb : ∀ i : Int, 0 ≤ f i ∧ f i ≤ 255) (h : r = jl_w (nbs f y (1 : Int).toNat)) : r = f y ∧ 0 ≤ r ∧ r ≤ 255 := by
  have b := hb y
  rw [show (1 : Int).toNat = 1 from rfl, nbs_1, jl_w_id (by omega)] at h
  omega
theorem tp2 {f : Int → Int} {y r : Int} (hb : ∀ i : Int, 0 ≤ f i ∧ f i ≤ 255) (h : r = jl_w (nbs f y (2 : Int).toNat)) : r = tw f y ∧ 0 ≤ r ∧ r ≤ 65535 := by
  have b := hb y
  have b2 := hb (y + 1)
  rw [show (2 : Int).toNat = 2 from rfl, nbs_2, jl_w_id (by omega)] at h
  unfold tw
  omega
theorem tp4 {f : Int → Int} {y r : Int} (hb : ∀ i : Int, 0 ≤ f i ∧ f i ≤ 255) (h : r = jl_w (nbs f y (4 : Int).toNat)) : r = nbs f y 4 ∧ 0 ≤ r ∧ r ≤ 4294967295 := by
  have b := nbs_r4 (f := f) (y := y) (n := 4) (by decide) (fun i _ _ => hb i)
  rw [show (4 : Int).toNat = 4 from rfl, jl_w_id (by omega)] at h
  omega
theorem k1_0 : ∀ a, a < 598 → kd a = 1 → 18 ≤ a := by decide +kernel
theorem k1_18 {t : Nat} (h : kd t = 1) : 18 ≤ t := k1_0 t (kd_lt (by rw [h]; decide)) h
/-! the class: a row that is being read -/
noncomputable def RR0 (M : jm) (t : Nat) (f : Int → Int) (y : Int) : Prop := M t 0 = 1 ∧ M t 1 = f (y + 1) / 16 % 2 ∧ M t 2 = f y ∧ M t 5 = f (y + 1) % 16 ∧ M t 13 = -1 ∧ M t 15 = -1
noncomputable def rS1 (M : jm) (t : Nat) (f : Int → Int) (y s : Int) : Prop := M (t + 2) s = tPt f y s ∧ M (t + 5) s = tWn f y s ∧ M (t + 1) s = tAd f y s ∧ M (t + 4) s = tHl f y s
noncomputable def rSA (M : jm) (t : Nat) (f : Int → Int) (y s : Int) : Prop := rS1 M t f y s ∧ M (t + 3) s = tLa f y s ∧ M (t + 6) s = tPk f y s ∧ M (t + 7) s = tBy f y s
noncomputable def fr7 (T M : jm) (t : Nat) : Prop := ∀ (b : Nat) (k : Int), (b < t ∨ t + 7 < b) → M b k = T b k
noncomputable def RWS (T M : jm) (t : Nat) (f : Int → Int) (y i : Int) : Prop := M 1 = f ∧ RR0 M t f y ∧ (∀ s : Int, 0 ≤ s → s < i → rSA M t f y s) ∧ fr7 T M t
noncomputable def RWB (T M : jm) (t : Nat) (f : Int → Int) (y i : Int) : Prop := RWS T M t f y i ∧ rS1 M t f y i
noncomputable def RWC (T M : jm) (t : Nat) (f : Int → Int) (y i : Int) : Prop := RWB T M t f y i ∧ M (t + 3) i = tLa f y i
noncomputable def RWD (T M : jm) (t : Nat) (f : Int → Int) (y i : Int) : Prop := RWC T M t f y i ∧ M (t + 6) i = tPk f y i
noncomputable def RWE (T M : jm) (t : Nat) (f : Int → Int) (y : Int) : Prop := RWS T M t f y 2 ∧ M t 12 = f (y + 1) / 128 % 2
/-- a flow as its row tells it -/
noncomputable def RRD (M : jm) (t : Nat) (f : Int → Int) (y Z : Int) : Prop := RR0 M t f y ∧ (∀ s : Int, 0 ≤ s → s < 2 → rSA M t f y s) ∧ M t 12 = f (y + 1) / 128 % 2 ∧ M t 6 = Z + (if nbs f (y + 34) 4 ≤ 200 then nbs f (y + 34) 4 else 200)
theorem fr7.u {T M : jm} {t a : Nat} {i v : Int} (h : fr7 T M t) (ha : t ≤ a ∧ a ≤ t + 7) : fr7 T (ju M a i v) t := fun b k hb => by
  rw [ju_c _ _ (by omega)]
  exact h b k hb
theorem RWS.z {T M : jm} {t : Nat} {y a b c : Int} (h : T = M) (ht : 18 ≤ t) (ha : a = M 1 y) (hb : b = M 1 (y + 1) / 16 % 2) (hc : c = M 1 (y + 1) % 16) : RWS T (ju (ju (ju (ju (ju (ju M t 2 a) t 1 b) t 5 c) t 0 1) t 13 (-1)) t 15 (-1)) t (T 1) y 0 := by
  subst h
  refine ⟨?_, ⟨?_, ?_, ?_, ?_, ?_, ?_⟩, fun s s0 s1 => absurd s1 (by omega), ?_⟩
  · funext k
    simp only [ju_c _ _ (show (1 : Nat) ≠ t by omega)]
  · rw [ju_i _ _ (by decide), ju_i _ _ (by decide), ju_same]
  · rw [ju_i _ _ (by decide), ju_i _ _ (by decide), ju_i _ _ (by decide), ju_i _ _ (by decide), ju_same, hb]
  · rw [ju_i _ _ (by decide), ju_i _ _ (by decide), ju_i _ _ (by decide), ju_i _ _ (by decide), ju_i _ _ (by decide), ju_same, ha]
  · rw [ju_i _ _ (by decide), ju_i _ _ (by decide), ju_i _ _ (by decide), ju_same, hc]
  · rw [ju_i _ _ (by decide), ju_same]
  · rw [ju_same]
  · have q : fr7 T T t := fun _ _ _ => rfl
    exact fr7.u (fr7.u (fr7.u (fr7.u (fr7.u (fr7.u q (by omega)) (by omega)) (by omega)) (by omega)) (by omega)) (by omega)
theorem rSA.u {M : jm} {t a : Nat} {f : Int → Int} {y s i v : Int} (h : rSA M t f y s) (hi : s ≠ i) : rSA (ju M a i v) t f y s := by
  unfold rSA rS1 at h ⊢
  simp only [ju_i _ _ hi]
  exact h
theorem RR0.u {M : jm} {t a : Nat} {f : Int → Int} {y i v : Int} (h : RR0 M t f y) (ha : t ≠ a) : RR0 (ju M a i v) t f y := by
  unfold RR0 at h ⊢
  simp only [ju_c _ _ ha]
  exact h
end
