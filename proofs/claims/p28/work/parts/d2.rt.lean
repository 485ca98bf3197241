/-! ===== the reference: the token that stands ===== -/
theorem jl_sho5 {n b : Int} (hn : 0 ≤ n ∧ n < 1099511627776) (hb : 0 ≤ b ∧ b < 32) : jl_or (jl_shl n 5) b = n * 32 + b := by
  obtain ⟨n, rfl⟩ := Int.eq_ofNat_of_zero_le hn.1
  obtain ⟨b, rfl⟩ := Int.eq_ofNat_of_zero_le hb.1
  have hs : jl_shl (n : Int) 5 = ((n * 32 : Nat) : Int) := by
    unfold jl_shl
    have hN : (Int64.ofInt (n : Int) <<< ((Int32.ofInt 5).toInt64 &&& 63)).toBitVec.toNat = n * 32 := by
      rw [Int64.toBitVec_shiftLeft]
      show ((Int64.ofInt (n : Int)).toBitVec <<< (((Int32.ofInt ((5 : Nat) : Int)).toInt64 &&& 63).toBitVec.smod 64).toNat).toNat = _
      rw [jbl_sl 5 (by decide), BitVec.toNat_shiftLeft, jbl_tn, Nat.shiftLeft_eq]
      omega
    rw [jbl_ti, hN]
    split <;> omega
  rw [hs]
  unfold jl_or
  have hN : (Int64.ofInt ((n * 32 : Nat) : Int) ||| Int64.ofInt (b : Int)).toBitVec.toNat = n * 32 + b := by
    rw [Int64.toBitVec_or, BitVec.toNat_or, jbl_tn, jbl_tn]
    rw [show (((n * 32 : Nat) : Int) % 18446744073709551616).toNat = 2 ^ 5 * n by omega, show ((b : Int) % 18446744073709551616).toNat = b by omega]
    rw [← Nat.two_pow_add_eq_or_of_lt (show b < 2 ^ 5 by omega)]
    omega
  rw [jbl_ti, hN]
  split <;> omega
/-- the text that is read, and the words -/
noncomputable def TXr (f : Int → Int) (N : Int) (M : jm) : Prop := M 598 72 = N ∧ (∀ i : Int, 0 ≤ i → i < N → M 651 i = f i) ∧ (∀ k : Int, 0 ≤ k → k < 69 → M 649 k = zxw.getD k.toNat 0) ∧ (∀ k : Int, 0 ≤ k → k < 154 → M 650 k = zfw.getD k.toNat 0)
/-- the token that stands -/
noncomputable def TKr (f : Int → Int) (N t : Int) (M : jm) : Prop := TXr f N M ∧ (0 ≤ t ∧ t ≤ N) ∧ M 598 75 = t ∧ M 598 73 = zte f N t ∧ M 598 74 = zso f N t ∧ (zso f N t = 1 → M 598 76 = zwd f N t ∧ M 598 77 = znm f N t) ∧ (zso f N t = 2 → M 598 78 = znu f N t) ∧ (zso f N t = 3 → M 598 79 = f t)
/-- the machine stands at the token that stands, in mode m; behind an expression -/
noncomputable def ZOP (f : Int → Int) (N : Int) (xs : ZS) (m : Int) (M : jm) (c bh : Int) (s : List (Int × Int × Int × Int)) (nm ak : List Int) : Prop := ∃ t : Int, TKr f N t M ∧ zr f N xs (m, t, M 598 89, M 598 100, c, bh, s, nm, ak)
noncomputable def ZEP (f : Int → Int) (N : Int) (xs : ZS) (M : jm) (bh : Int) (s : List (Int × Int × Int × Int)) (nm ak : List Int) : Prop := ∃ t c : Int, TKr f N t M ∧ zr f N xs (3, t, M 598 89, M 598 100, c, bh, s, nm, ak) ∧ 4 < zrk f N t
noncomputable def ZEQ (f : Int → Int) (N : Int) (xs : ZS) (M : jm) (c bh : Int) (s : List (Int × Int × Int × Int)) (nm ak : List Int) : Prop := ∃ t : Int, TKr f N t M ∧ zr f N xs (3, t, M 598 89, M 598 100, c, bh, s, nm, ak) ∧ 4 < zrk f N t
section ZR
variable {f : Int → Int} {N : Int} {M M' : jm} {v c : Int}
theorem TXr.fr (h : TXr f N M) (e1 : M' 598 72 = M 598 72) (e2 : ∀ i : Int, M' 651 i = M 651 i) (e3 : ∀ i : Int, M' 649 i = M 649 i) (e4 : ∀ i : Int, M' 650 i = M 650 i) : TXr f N M' := by
  refine ⟨e1.trans h.1, fun i h0 h1 => (e2 i).trans (h.2.1 i h0 h1), fun k h0 h1 => (e3 k).trans (h.2.2.1 k h0 h1), fun k h0 h1 => (e4 k).trans (h.2.2.2 k h0 h1)⟩
theorem TXr.o {i : Int} (h : TXr f N M) (hi : (72 : Int) ≠ i) : TXr f N (ju M 598 i v) := h.fr (ju_i _ _ hi) (fun j => ju_c _ _ (by decide)) (fun j => ju_c _ _ (by decide)) (fun j => ju_c _ _ (by decide))
theorem TXr.k {a : Nat} {i : Int} (h : TXr f N M) (h1 : (598 : Nat) ≠ a) (h2 : (651 : Nat) ≠ a) (h3 : (649 : Nat) ≠ a) (h4 : (650 : Nat) ≠ a) : TXr f N (ju M a i v) := h.fr (ju_c _ _ h1) (fun j => ju_c _ _ h2) (fun j => ju_c _ _ h3) (fun j => ju_c _ _ h4)
theorem zsp_e {P : Int → Bool} (h : N ≤ v) : zsp P f N v = v := zsp_no (fun q => by have q1 := q.1; omega)
theorem TXr.bl (h : TXr f N M) (h0 : 0 ≤ v) (h1 : v < N) (e : M 651 v = c) (hc : c = 10 ∨ c = 32) : zsp zbl f N v = zsp zbl f N (v + 1) := zsp_go h1 (zbl_t (by rw [← h.2.1 v h0 h1, e]; exact hc))
theorem TXr.bn (h : TXr f N M) (h0 : 0 ≤ v) (h1 : v < N) (e : M 651 v = c) (hc : ¬ (c = 10 ∨ c = 32)) : zsp zbl f N v = v := zsp_no (fun q => hc (by have q2 := zbl_r q.2; rw [← h.2.1 v h0 h1, e] at q2; exact q2))
theorem TXr.lg (h : TXr f N M) (h0 : 0 ≤ v) (h1 : v < N) (e : M 651 v = c) (hc : 97 ≤ c ∧ c ≤ 122) : zsp zlt f N v = zsp zlt f N (v + 1) := zsp_go h1 (zlt_t (by rw [← h.2.1 v h0 h1, e]; exact hc))
theorem TXr.ln (h : TXr f N M) (h0 : 0 ≤ v) (h1 : v < N) (e : M 651 v = c) (hc : ¬ (97 ≤ c ∧ c ≤ 122)) : zsp zlt f N v = v := zsp_no (fun q => hc (by have q2 := zlt_r q.2; rw [← h.2.1 v h0 h1, e] at q2; exact q2))
theorem TXr.dg (h : TXr f N M) (h0 : 0 ≤ v) (h1 : v < N) (e : M 651 v = c) (hc : 48 ≤ c ∧ c ≤ 57) : zsp zdg f N v = zsp zdg f N (v + 1) := zsp_go h1 (zdg_t (by rw [← h.2.1 v h0 h1, e]; exact hc))
theorem TXr.dn (h : TXr f N M) (h0 : 0 ≤ v) (h1 : v < N) (e : M 651 v = c) (hc : ¬ (48 ≤ c ∧ c ≤ 57)) : zsp zdg f N v = v := zsp_no (fun q => hc (by have q2 := zdg_r q.2; rw [← h.2.1 v h0 h1, e] at q2; exact q2))
/-- names and numbers grow by a sign -/
theorem zpk_st {t a n : Int} (hn : n = zpk f t (min (a - t) 9).toNat) (h0 : t ≤ a) (h9 : a - t < 9) (hc : c = f a) : n * 32 + (c - 96) = zpk f t (min (a + 1 - t) 9).toNat := by
  rw [show (min (a + 1 - t) 9).toNat = (min (a - t) 9).toNat + 1 by omega]
  show n * 32 + (c - 96) = zpk f t (min (a - t) 9).toNat * 32 + (f (t + ((min (a - t) 9).toNat : Int)) - 96)
  rw [← hn, show t + ((min (a - t) 9).toNat : Int) = a by omega, hc]
theorem zpk_sk {t a n : Int} (hn : n = zpk f t (min (a - t) 9).toNat) (h9 : 9 ≤ a - t) : n = zpk f t (min (a + 1 - t) 9).toNat := by
  rw [hn, show min (a + 1 - t) 9 = min (a - t) 9 by omega]
theorem zdv_st {t a n : Int} (hn : n = zdv f t (min (a - t) 10).toNat) (h0 : t ≤ a) (h9 : a - t < 10) (hc : c = f a) : 10 * n + c - 48 = zdv f t (min (a + 1 - t) 10).toNat := by
  rw [show (min (a + 1 - t) 10).toNat = (min (a - t) 10).toNat + 1 by omega]
  show 10 * n + c - 48 = zdv f t (min (a - t) 10).toNat * 10 + (f (t + ((min (a - t) 10).toNat : Int)) - 48)
  rw [← hn, show t + ((min (a - t) 10).toNat : Int) = a by omega, hc]
  omega
theorem zdv_sk {t a n : Int} (hn : n = zdv f t (min (a - t) 10).toNat) (h9 : 10 ≤ a - t) : n = zdv f t (min (a + 1 - t) 10).toNat := by
  rw [hn, show min (a + 1 - t) 10 = min (a - t) 10 by omega]
noncomputable def zp32 : Nat → Int
  | 0 => 1
  | n + 1 => zp32 n * 32
noncomputable def zp10 : Nat → Int
  | 0 => 1
  | n + 1 => zp10 n * 10
theorem zpk_bd (t : Int) (n : Nat) (h : ∀ j : Int, t ≤ j → j < t + n → zlt (f j) = true) : 0 ≤ zpk f t n ∧ zpk f t n < zp32 n := by
  induction n with
  | zero =>
    show (0 : Int) ≤ 0 ∧ (0 : Int) < 1
    exact ⟨by decide, by decide⟩
  | succ n ih =>
    have q := ih (fun j h0 h1 => h j h0 (by omega))
    have q2 := zlt_r (h (t + n) (by omega) (by omega))
    show 0 ≤ zpk f t n * 32 + (f (t + n) - 96) ∧ zpk f t n * 32 + (f (t + n) - 96) < zp32 n * 32
    omega
theorem zdv_bd (t : Int) (n : Nat) (h : ∀ j : Int, t ≤ j → j < t + n → zdg (f j) = true) : 0 ≤ zdv f t n ∧ zdv f t n < zp10 n := by
  induction n with
  | zero =>
    show (0 : Int) ≤ 0 ∧ (0 : Int) < 1
    exact ⟨by decide, by decide⟩
  | succ n ih =>
    have q := ih (fun j h0 h1 => h j h0 (by omega))
    have q2 := zdg_r (h (t + n) (by omega) (by omega))
    show 0 ≤ zdv f t n * 10 + (f (t + n) - 48) ∧ zdv f t n * 10 + (f (t + n) - 48) < zp10 n * 10
    omega
theorem zp32_8 : ∀ n, n ≤ 8 → zp32 n ≤ 1099511627776 := by decide
theorem zp32_9 : ∀ n, n ≤ 9 → zp32 n ≤ 35184372088832 := by decide
theorem zp10_10 : ∀ n, n ≤ 10 → zp10 n ≤ 10000000000 := by decide
theorem zpk_rg {t a n : Int} (hn : n = zpk f t (min (a - t) 9).toNat) (h0 : t ≤ a) (hz : zsp zlt f N a = zsp zlt f N t) : (0 ≤ n ∧ n < 35184372088832) ∧ (a - t < 9 → n < 1099511627776) := by
  have hg := zsp_ge zlt f N a
  have q := zpk_bd (f := f) t (min (a - t) 9).toNat (fun j h1 h2 => zsp_all zlt f N t j h1 (by omega))
  have q9 := zp32_9 (min (a - t) 9).toNat (by omega)
  rw [← hn] at q
  refine ⟨by omega, fun h => ?_⟩
  have q8 := zp32_8 (min (a - t) 9).toNat (by omega)
  omega
theorem zdv_rg {t a n : Int} (hn : n = zdv f t (min (a - t) 10).toNat) (h0 : t ≤ a) (hz : zsp zdg f N a = zsp zdg f N t) : 0 ≤ n ∧ n < 10000000000 := by
  have hg := zsp_ge zdg f N a
  have q := zdv_bd (f := f) t (min (a - t) 10).toNat (fun j h1 h2 => zsp_all zdg f N t j h1 (by omega))
  have q9 := zp10_10 (min (a - t) 10).toNat (by omega)
  rw [← hn] at q
  omega
theorem zlx_y {x k : Int} (h0 : 0 ≤ k) (e : zxw.getD k.toNat 0 = x) : k = zlx x (k + 1).toNat := by
  rw [show (k + 1).toNat = k.toNat + 1 by omega]
  show k = if zxw.getD k.toNat 0 = x then ((k.toNat : Nat) : Int) else zlx x k.toNat
  rw [if_pos e]
  omega
theorem zlx_n {x k w : Int} (h0 : 0 ≤ k) (e : zxw.getD k.toNat 0 ≠ x) (hw : w = zlx x k.toNat) : w = zlx x (k + 1).toNat := by
  rw [show (k + 1).toNat = k.toNat + 1 by omega]
  show w = if zxw.getD k.toNat 0 = x then ((k.toNat : Nat) : Int) else zlx x k.toNat
  rw [if_neg e]
  exact hw
/-- the ends of next -/
theorem TKr.e (h : TXr f N M) (e5 : M 598 75 = v) (e3 : M 598 73 = v) (e4 : M 598 74 = 0) (hv : v = N) (h0 : 0 ≤ v) : TKr f N (M 598 75) M := by
  have g1 : zte f N v = v := zte_n (by omega)
  have g2 : zso f N v = 0 := zso_n (by omega)
  rw [e5]
  exact ⟨h, by omega, e5, by rw [g1]; exact e3, by rw [g2]; exact e4, fun q => by omega, fun q => by omega, fun q => by omega⟩
theorem TKr.w (h : TXr f N M) (h0 : 0 ≤ M 598 75) (h1 : M 598 75 < N ∧ zlt (f (M 598 75)) = true) (h2 : M 598 73 = zsp zlt f N (M 598 75)) (h3 : M 598 74 = if 9 < M 598 73 - M 598 75 then 4 else 1) (h4 : M 598 77 = zpk f (M 598 75) (min (M 598 73 - M 598 75) 9).toNat) (h5 : M 598 76 = zlx (M 598 77) 69) : TKr f N (M 598 75) M := by
  have e := zte_l h1.1 h1.2
  have e2 := zso_l h1.1 h1.2
  have hg := zsp_ge zlt f N (M 598 75)
  have h3z : M 598 74 = zso f N (M 598 75) := by rw [e2, e, ← h2]; exact h3
  refine ⟨h, by omega, rfl, by rw [e]; exact h2, h3z, fun q => ?_, fun q => ?_, fun q => ?_⟩
  all_goals rw [← h3z] at q
  · have h9 : M 598 73 - M 598 75 ≤ 9 := by
      rw [h3] at q
      split at q
      · exact absurd q (by decide)
      · omega
    have hn : M 598 77 = znm f N (M 598 75) := by
      unfold znm
      rw [e, ← h2, h4, show min (M 598 73 - M 598 75) 9 = M 598 73 - M 598 75 by omega]
    refine ⟨?_, hn⟩
    unfold zwd
    rw [← hn]
    exact h5
  · rw [h3] at q
    split at q <;> exact absurd q (by decide)
  · rw [h3] at q
    split at q <;> exact absurd q (by decide)
theorem TKr.d (h : TXr f N M) (h0 : 0 ≤ M 598 75) (h1 : M 598 75 < N ∧ zlt (f (M 598 75)) = false ∧ zdg (f (M 598 75)) = true) (h2 : M 598 73 = zsp zdg f N (M 598 75)) (h3 : M 598 74 = if 10 < M 598 73 - M 598 75 then 4 else 2) (h4 : M 598 78 = zdv f (M 598 75) (min (M 598 73 - M 598 75) 10).toNat) : TKr f N (M 598 75) M := by
  have e := zte_d h1.1 h1.2.1 h1.2.2
  have e2 := zso_d h1.1 h1.2.1 h1.2.2
  have hg := zsp_ge zdg f N (M 598 75)
  have h3z : M 598 74 = zso f N (M 598 75) := by rw [e2, e, ← h2]; exact h3
  refine ⟨h, by omega, rfl, by rw [e]; exact h2, h3z, fun q => ?_, fun q => ?_, fun q => ?_⟩
  all_goals rw [← h3z] at q
  · rw [h3] at q
    split at q <;> exact absurd q (by decide)
  · have h9 : M 598 73 - M 598 75 ≤ 10 := by
      rw [h3] at q
      split at q
      · exact absurd q (by decide)
      · omega
    unfold znu
    rw [e, ← h2, h4, show min (M 598 73 - M 598 75) 10 = M 598 73 - M 598 75 by omega]
  · rw [h3] at q
    split at q <;> exact absurd q (by decide)
theorem TKr.s (h : TXr f N M) (h0 : 0 ≤ v) (h1 : v < N) (hc : f v = c) (hl : ¬ (97 ≤ c ∧ c ≤ 122)) (hd : ¬ (48 ≤ c ∧ c ≤ 57)) (e5 : M 598 75 = v) (e3 : M 598 73 = v + 1) (e9 : M 598 79 = c) (e4 : M 598 74 = if zsg c = true then 3 else 4) : TKr f N (M 598 75) M := by
  have g1 : zlt (f v) = false := zlt_n (by rw [hc]; exact hl)
  have g2 : zdg (f v) = false := zdg_n (by rw [hc]; exact hd)
  have e := zte_s h1 g1 g2
  have e2 := zso_s h1 g1 g2
  rw [e5]
  rw [hc] at e2
  refine ⟨h, by omega, e5, by rw [e]; exact e3, by rw [e2]; exact e4, fun q => ?_, fun q => ?_, fun q => by rw [hc]; exact e9⟩
  · rw [e2] at q
    split at q <;> exact absurd q (by decide)
  · rw [e2] at q
    split at q <;> exact absurd q (by decide)
theorem TKr.cast {t t' : Int} (h : TKr f N t M) (e : t = t') : TKr f N t' M := e ▸ h
/-- behind a token -/
theorem TKr.nx {t : Int} {S : jm} (w : TKr f N (zsp zbl f N (S 598 73)) M) (e : S 598 73 = zte f N t) : TKr f N (znx f N t) M := by
  rw [e] at w
  exact w
theorem TKr.fr {t : Int} (h : TKr f N t M) (e1 : M' 598 72 = M 598 72) (e2 : ∀ i : Int, M' 651 i = M 651 i) (e3 : ∀ i : Int, M' 649 i = M 649 i) (e4 : ∀ i : Int, M' 650 i = M 650 i) (g3 : M' 598 73 = M 598 73) (g4 : M' 598 74 = M 598 74) (g5 : M' 598 75 = M 598 75) (g6 : M' 598 76 = M 598 76) (g7 : M' 598 77 = M 598 77) (g8 : M' 598 78 = M 598 78) (g9 : M' 598 79 = M 598 79) : TKr f N t M' := by
  obtain ⟨a, b, c5, c3, c4, c6, c8, c9⟩ := h
  exact ⟨a.fr e1 e2 e3 e4, b, g5.trans c5, g3.trans c3, g4.trans c4, fun q => ⟨g6.trans (c6 q).1, g7.trans (c6 q).2⟩, fun q => g8.trans (c8 q), fun q => g9.trans (c9 q)⟩
end ZR
theorem r_isSignByte_z {A : Nat → Option (Nat × (Nat → Int32))} {Q : Option Value → jm → Prop} {T : jm} {M : jm} (hI_M : RI M) (hH_M : RH M) (hS_M : RF M) (ht_M : Kp T M) {c : Int} (h_c : 0 ≤ c ∧ c ≤ 255) (q : ∀ (r : Int), 0 ≤ r ∧ r ≤ 1 → r = (if zsg c = true then 1 else 0) → (r = 1 → c ≠ 10 ∧ c ≠ 11) → Q (some (.int (Int32.ofInt r))) M) : jc A 1 343 [.int (Int32.ofInt (c))] M Q := by
  refine jc_of (m := xm_343) rfl (Nat.le_of_ble_eq_true rfl) rfl ?_
  refine jr.iload_n rfl rfl ?_
  rcases (show c = 33 ∨ c = 37 ∨ c = 38 ∨ c = 40 ∨ c = 41 ∨ c = 42 ∨ c = 43 ∨ c = 44 ∨ c = 45 ∨ c = 46 ∨ c = 47 ∨ c = 59 ∨ c = 60 ∨ c = 61 ∨ c = 62 ∨ c = 91 ∨ c = 93 ∨ c = 123 ∨ c = 124 ∨ c = 125 ∨ (c ≠ 33 ∧ c ≠ 37 ∧ c ≠ 38 ∧ c ≠ 40 ∧ c ≠ 41 ∧ c ≠ 42 ∧ c ≠ 43 ∧ c ≠ 44 ∧ c ≠ 45 ∧ c ≠ 46 ∧ c ≠ 47 ∧ c ≠ 59 ∧ c ≠ 60 ∧ c ≠ 61 ∧ c ≠ 62 ∧ c ≠ 91 ∧ c ≠ 93 ∧ c ≠ 123 ∧ c ≠ 124 ∧ c ≠ 125) by omega) with h1 | h1 | h1 | h1 | h1 | h1 | h1 | h1 | h1 | h1 | h1 | h1 | h1 | h1 | h1 | h1 | h1 | h1 | h1 | h1 | h1
  · refine jr.lsw_k 33 rfl h1 rfl ?_
    refine jr.iconst rfl ?_
    exact jr.ireturn rfl rfl rfl (q _ (by omega) (by first | decide | (exact (if_neg (by rw [show zsg c = false from decide_eq_false (by omega)]; decide)).symm) | (exact (if_pos (decide_eq_true (by omega))).symm)) (fun q => by omega))
  · refine jr.lsw_k 37 rfl h1 rfl ?_
    refine jr.iconst rfl ?_
    exact jr.ireturn rfl rfl rfl (q _ (by omega) (by first | decide | (exact (if_neg (by rw [show zsg c = false from decide_eq_false (by omega)]; decide)).symm) | (exact (if_pos (decide_eq_true (by omega))).symm)) (fun q => by omega))
  · refine jr.lsw_k 38 rfl h1 rfl ?_
    refine jr.iconst rfl ?_
    exact jr.ireturn rfl rfl rfl (q _ (by omega) (by first | decide | (exact (if_neg (by rw [show zsg c = false from decide_eq_false (by omega)]; decide)).symm) | (exact (if_pos (decide_eq_true (by omega))).symm)) (fun q => by omega))
  · refine jr.lsw_k 40 rfl h1 rfl ?_
    refine jr.iconst rfl ?_
    exact jr.ireturn rfl rfl rfl (q _ (by omega) (by first | decide | (exact (if_neg (by rw [show zsg c = false from decide_eq_false (by omega)]; decide)).symm) | (exact (if_pos (decide_eq_true (by omega))).symm)) (fun q => by omega))
  · refine jr.lsw_k 41 rfl h1 rfl ?_
    refine jr.iconst rfl ?_
    exact jr.ireturn rfl rfl rfl (q _ (by omega) (by first | decide | (exact (if_neg (by rw [show zsg c = false from decide_eq_false (by omega)]; decide)).symm) | (exact (if_pos (decide_eq_true (by omega))).symm)) (fun q => by omega))
  · refine jr.lsw_k 42 rfl h1 rfl ?_
    refine jr.iconst rfl ?_
    exact jr.ireturn rfl rfl rfl (q _ (by omega) (by first | decide | (exact (if_neg (by rw [show zsg c = false from decide_eq_false (by omega)]; decide)).symm) | (exact (if_pos (decide_eq_true (by omega))).symm)) (fun q => by omega))
  · refine jr.lsw_k 43 rfl h1 rfl ?_
    refine jr.iconst rfl ?_
    exact jr.ireturn rfl rfl rfl (q _ (by omega) (by first | decide | (exact (if_neg (by rw [show zsg c = false from decide_eq_false (by omega)]; decide)).symm) | (exact (if_pos (decide_eq_true (by omega))).symm)) (fun q => by omega))
  · refine jr.lsw_k 44 rfl h1 rfl ?_
    refine jr.iconst rfl ?_
    exact jr.ireturn rfl rfl rfl (q _ (by omega) (by first | decide | (exact (if_neg (by rw [show zsg c = false from decide_eq_false (by omega)]; decide)).symm) | (exact (if_pos (decide_eq_true (by omega))).symm)) (fun q => by omega))
  · refine jr.lsw_k 45 rfl h1 rfl ?_
    refine jr.iconst rfl ?_
    exact jr.ireturn rfl rfl rfl (q _ (by omega) (by first | decide | (exact (if_neg (by rw [show zsg c = false from decide_eq_false (by omega)]; decide)).symm) | (exact (if_pos (decide_eq_true (by omega))).symm)) (fun q => by omega))
  · refine jr.lsw_k 46 rfl h1 rfl ?_
    refine jr.iconst rfl ?_
    exact jr.ireturn rfl rfl rfl (q _ (by omega) (by first | decide | (exact (if_neg (by rw [show zsg c = false from decide_eq_false (by omega)]; decide)).symm) | (exact (if_pos (decide_eq_true (by omega))).symm)) (fun q => by omega))
  · refine jr.lsw_k 47 rfl h1 rfl ?_
    refine jr.iconst rfl ?_
    exact jr.ireturn rfl rfl rfl (q _ (by omega) (by first | decide | (exact (if_neg (by rw [show zsg c = false from decide_eq_false (by omega)]; decide)).symm) | (exact (if_pos (decide_eq_true (by omega))).symm)) (fun q => by omega))
  · refine jr.lsw_k 59 rfl h1 rfl ?_
    refine jr.iconst rfl ?_
    exact jr.ireturn rfl rfl rfl (q _ (by omega) (by first | decide | (exact (if_neg (by rw [show zsg c = false from decide_eq_false (by omega)]; decide)).symm) | (exact (if_pos (decide_eq_true (by omega))).symm)) (fun q => by omega))
  · refine jr.lsw_k 60 rfl h1 rfl ?_
    refine jr.iconst rfl ?_
    exact jr.ireturn rfl rfl rfl (q _ (by omega) (by first | decide | (exact (if_neg (by rw [show zsg c = false from decide_eq_false (by omega)]; decide)).symm) | (exact (if_pos (decide_eq_true (by omega))).symm)) (fun q => by omega))
  · refine jr.lsw_k 61 rfl h1 rfl ?_
    refine jr.iconst rfl ?_
    exact jr.ireturn rfl rfl rfl (q _ (by omega) (by first | decide | (exact (if_neg (by rw [show zsg c = false from decide_eq_false (by omega)]; decide)).symm) | (exact (if_pos (decide_eq_true (by omega))).symm)) (fun q => by omega))
  · refine jr.lsw_k 62 rfl h1 rfl ?_
    refine jr.iconst rfl ?_
    exact jr.ireturn rfl rfl rfl (q _ (by omega) (by first | decide | (exact (if_neg (by rw [show zsg c = false from decide_eq_false (by omega)]; decide)).symm) | (exact (if_pos (decide_eq_true (by omega))).symm)) (fun q => by omega))
  · refine jr.lsw_k 91 rfl h1 rfl ?_
    refine jr.iconst rfl ?_
    exact jr.ireturn rfl rfl rfl (q _ (by omega) (by first | decide | (exact (if_neg (by rw [show zsg c = false from decide_eq_false (by omega)]; decide)).symm) | (exact (if_pos (decide_eq_true (by omega))).symm)) (fun q => by omega))
  · refine jr.lsw_k 93 rfl h1 rfl ?_
    refine jr.iconst rfl ?_
    exact jr.ireturn rfl rfl rfl (q _ (by omega) (by first | decide | (exact (if_neg (by rw [show zsg c = false from decide_eq_false (by omega)]; decide)).symm) | (exact (if_pos (decide_eq_true (by omega))).symm)) (fun q => by omega))
  · refine jr.lsw_k 123 rfl h1 rfl ?_
    refine jr.iconst rfl ?_
    exact jr.ireturn rfl rfl rfl (q _ (by omega) (by first | decide | (exact (if_neg (by rw [show zsg c = false from decide_eq_false (by omega)]; decide)).symm) | (exact (if_pos (decide_eq_true (by omega))).symm)) (fun q => by omega))
  · refine jr.lsw_k 124 rfl h1 rfl ?_
    refine jr.iconst rfl ?_
    exact jr.ireturn rfl rfl rfl (q _ (by omega) (by first | decide | (exact (if_neg (by rw [show zsg c = false from decide_eq_false (by omega)]; decide)).symm) | (exact (if_pos (decide_eq_true (by omega))).symm)) (fun q => by omega))
  · refine jr.lsw_k 125 rfl h1 rfl ?_
    refine jr.iconst rfl ?_
    exact jr.ireturn rfl rfl rfl (q _ (by omega) (by first | decide | (exact (if_neg (by rw [show zsg c = false from decide_eq_false (by omega)]; decide)).symm) | (exact (if_pos (decide_eq_true (by omega))).symm)) (fun q => by omega))
  · refine jr.lsw_d rfl (by omega) rfl (fun q hq => by simp only [List.mem_cons, List.not_mem_nil, or_false] at hq; rcases hq with rfl | rfl | rfl | rfl | rfl | rfl | rfl | rfl | rfl | rfl | rfl | rfl | rfl | rfl | rfl | rfl | rfl | rfl | rfl | rfl <;> (simp only; omega)) rfl ?_
    refine jr.iconst rfl ?_
    exact jr.ireturn rfl rfl rfl (q _ (by omega) (by first | decide | (exact (if_neg (by rw [show zsg c = false from decide_eq_false (by omega)]; decide)).symm) | (exact (if_pos (decide_eq_true (by omega))).symm)) (fun q => by omega))
theorem r_next_L266_z {A : Nat → Option (Nat × (Nat → Int32))} {Q : Option Value → jm → Prop} {f : Int → Int} {N : Int} {M0 : jm} (q : ∀ (M' : jm), RI M' → RH M' → RF M' → M' 598 73 ≤ M' 598 72 → M0 598 73 ≤ M' 598 73 → TK M' ≤ TK M0 → (M0 598 74 ≠ 0 → TK M' < TK M0) → (M' 598 74 = 3 → M' 598 79 ≠ 10 ∧ M' 598 79 ≠ 11) → TKr f N (zsp zbl f N (M0 598 73)) M' → (∀ (a : Nat) (i : Int), a ≠ 598 → M' a i = M0 a i) → (∀ (i : Int), i ≠ 73 → i ≠ 74 → i ≠ 75 → i ≠ 76 → i ≠ 77 → i ≠ 78 → i ≠ 79 → M' 598 i = M0 598 i) → Q none M') : ∀ (nM : Nat) (M : jm) , RI M → RH M → RF M → (∀ (a : Nat) (i : Int), a ≠ 598 → M a i = M0 a i) → (∀ (i : Int), i ≠ 73 → i ≠ 74 → i ≠ 75 → i ≠ 76 → i ≠ 77 → i ≠ 78 → i ≠ 79 → M 598 i = M0 598 i) → M 598 73 ≤ M 598 72 → M0 598 73 ≤ M 598 75 ∧ M 598 75 ≤ M 598 73 → 0 ≤ M0 598 74 → (M 598 75 < M 598 73 ∨ (M 598 73 < M 598 72 ∧ 48 ≤ M 651 (M 598 73) ∧ M 651 (M 598 73) ≤ 57)) → TXr f N M → M 598 75 = zsp zbl f N (M0 598 73) → zsp zdg f N (M 598 73) = zsp zdg f N (M 598 75) → M 598 78 = zdv f (M 598 75) (min (M 598 73 - M 598 75) 10).toNat → M 598 75 < N ∧ zlt (f (M 598 75)) = false ∧ zdg (f (M 598 75)) = true → 0 ≤ M 598 75 → 1600 - M 598 73 ≤ nM → jr A 1 xm_344 266 [(0, .ref (598))] [] M Q := by
  intro nM
  induction nM using Nat.strongRecOn with
  | ind nM ih =>
    intro M  hI_M hH_M hS_M hF_M hG_M  hy0 hy1 hy2 hy3 hy4 hy5 hy6 hy7 hy8 hy9 hm
    obtain ⟨a0, ha0⟩ : ∃ z, M 598 73 = z := ⟨_, rfl⟩
    rw [ha0] at hy3
    have ba : (0 : Int) ≤ a0 ∧ a0 ≤ 1600 := by rw [← ha0]; exact hI_M 598 73 (by decide)
    have hT := hy4
    have hN := hT.1
    have hB := hy5
    have hC := hy6
    have hD := hy7
    have hE := hy8
    have h75 := hy9
    have hE1 := hE.1
    have hr := zdv_rg hD (by rw [ha0]; omega) hC
    obtain ⟨n8, hn8⟩ : ∃ z, M 598 78 = z := ⟨_, rfl⟩
    rw [hn8] at hr
    refine jr.aload_n rfl rfl ?_
    refine jr.getf (i := 73) (x := a0) (v := .int (Int32.ofInt (a0))) rfl rfl (by decide) rfl (by decide) rfl rfl ha0 rfl ?_
    refine jr.aload_n rfl rfl ?_
    obtain ⟨v1, e1⟩ : ∃ z, M 598 72 = z := ⟨_, rfl⟩
    have b1 : 0 ≤ v1 ∧ v1 ≤ 1600 := by rw [← e1]; exact hI_M 598 72 (by decide)
    refine jr.getf (i := 72) (x := v1) (v := .int (Int32.ofInt (v1))) rfl rfl (by decide) rfl (by decide) rfl rfl e1 rfl ?_
    refine jr.icmp_ge rfl rfl (by omega) (by omega) (fun h274 => ?_) (fun h274 => ?_)
    · refine jr.aload_n rfl rfl ?_
      refine jr.aload_n rfl rfl ?_
      refine jr.getf (i := 73) (x := a0) (v := .int (Int32.ofInt (a0))) rfl rfl (by decide) rfl (by decide) rfl rfl ha0 rfl ?_
      refine jr.aload_n rfl rfl ?_
      obtain ⟨v2, e2⟩ : ∃ z, M 598 75 = z := ⟨_, rfl⟩
      have b2 : 0 ≤ v2 ∧ v2 ≤ 1600 := by rw [← e2]; exact hI_M 598 75 (by decide)
      refine jr.getf (i := 75) (x := v2) (v := .int (Int32.ofInt (v2))) rfl rfl (by decide) rfl (by decide) rfl rfl e2 rfl ?_
      refine jr.isub rfl ?_
      refine jr.bipush rfl (by decide) ?_
      refine jr.icmp_le rfl rfl (by omega) (by omega) (fun h365 => ?_) (fun h365 => ?_)
      · refine jr.iconst rfl ?_
        refine jr.putf (i := 74) (x := 2) rfl rfl (by decide) rfl (by decide) rfl rfl rfl rfl rfl ?_
        refine jr.goto rfl rfl ?_
        have y3 : (ju M 598 74 2) 598 72 = v1 := ((ju_i _ _ (by decide)).trans e1)
        have y4 : (ju M 598 74 2) 598 73 = a0 := ((ju_i _ _ (by decide)).trans ha0)
        have y5 : (ju M 598 74 2) 598 74 = 2 := (ju_same _ _ _ _)
        obtain ⟨v6, e6⟩ : ∃ z, M 598 79 = z := ⟨_, rfl⟩
        have b6 : 0 ≤ v6 ∧ v6 ≤ 255 := by rw [← e6]; exact hI_M 598 79 (by decide)
        have y7 : (ju M 598 74 2) 598 79 = v6 := ((ju_i _ _ (by decide)).trans e6)
        exact jr.vreturn rfl rfl (q _ (RI.u hI_M (a := 598) (i := 74) (show (0 : Int) ≤ _ ∧ _ ≤ (4 : Int) from by omega)) (RH.o hH_M (by decide) (by decide) (by decide)) (RF.o hS_M (by decide) (by decide))  (by omega) (by omega) (by unfold TK; omega) (fun q => by unfold TK; omega) (by omega) (TKr.cast (TKr.d (TXr.o hT (by decide)) (by rw [((ju_i _ _ (by decide)).trans e2)]; omega) (by rw [((ju_i _ _ (by decide)).trans e2), ← e2]; exact hE) (by rw [((ju_i _ _ (by decide)).trans ha0), ((ju_i _ _ (by decide)).trans e2)]; exact (show zsp zdg f N a0 = a0 from by first | exact zsp_e (by omega) | omega).symm.trans (by rw [← ha0, ← e2]; exact hC)) (by rw [(ju_same _ _ _ _), ((ju_i _ _ (by decide)).trans ha0), ((ju_i _ _ (by decide)).trans e2)]; first | exact (if_pos (by omega)).symm | exact (if_neg (by omega)).symm) (by rw [((ju_i _ _ (by decide)).trans hn8), ((ju_i _ _ (by decide)).trans e2), ((ju_i _ _ (by decide)).trans ha0), ← hn8, ← e2, ← ha0]; exact hD)) ((((ju_i _ _ (by decide)).trans e2)).trans (e2.symm.trans hB))) (fun a i f598 => ((ju_c _ _ f598).trans (hF_M a i f598))) (fun i g73 g74 g75 g76 g77 g78 g79 => ((ju_i _ _ g74).trans (hG_M i g73 g74 g75 g76 g77 g78 g79))))
      · refine jr.iconst rfl ?_
        refine jr.goto rfl rfl ?_
        refine jr.putf (i := 74) (x := 4) rfl rfl (by decide) rfl (by decide) rfl rfl rfl rfl rfl ?_
        refine jr.goto rfl rfl ?_
        have y8 : (ju M 598 74 4) 598 72 = v1 := ((ju_i _ _ (by decide)).trans e1)
        have y9 : (ju M 598 74 4) 598 73 = a0 := ((ju_i _ _ (by decide)).trans ha0)
        have y10 : (ju M 598 74 4) 598 74 = 4 := (ju_same _ _ _ _)
        obtain ⟨v11, e11⟩ : ∃ z, M 598 79 = z := ⟨_, rfl⟩
        have b11 : 0 ≤ v11 ∧ v11 ≤ 255 := by rw [← e11]; exact hI_M 598 79 (by decide)
        have y12 : (ju M 598 74 4) 598 79 = v11 := ((ju_i _ _ (by decide)).trans e11)
        exact jr.vreturn rfl rfl (q _ (RI.u hI_M (a := 598) (i := 74) (show (0 : Int) ≤ _ ∧ _ ≤ (4 : Int) from by omega)) (RH.o hH_M (by decide) (by decide) (by decide)) (RF.o hS_M (by decide) (by decide))  (by omega) (by omega) (by unfold TK; omega) (fun q => by unfold TK; omega) (by omega) (TKr.cast (TKr.d (TXr.o hT (by decide)) (by rw [((ju_i _ _ (by decide)).trans e2)]; omega) (by rw [((ju_i _ _ (by decide)).trans e2), ← e2]; exact hE) (by rw [((ju_i _ _ (by decide)).trans ha0), ((ju_i _ _ (by decide)).trans e2)]; exact (show zsp zdg f N a0 = a0 from by first | exact zsp_e (by omega) | omega).symm.trans (by rw [← ha0, ← e2]; exact hC)) (by rw [(ju_same _ _ _ _), ((ju_i _ _ (by decide)).trans ha0), ((ju_i _ _ (by decide)).trans e2)]; first | exact (if_pos (by omega)).symm | exact (if_neg (by omega)).symm) (by rw [((ju_i _ _ (by decide)).trans hn8), ((ju_i _ _ (by decide)).trans e2), ((ju_i _ _ (by decide)).trans ha0), ← hn8, ← e2, ← ha0]; exact hD)) ((((ju_i _ _ (by decide)).trans e2)).trans (e2.symm.trans hB))) (fun a i f598 => ((ju_c _ _ f598).trans (hF_M a i f598))) (fun i g73 g74 g75 g76 g77 g78 g79 => ((ju_i _ _ g74).trans (hG_M i g73 g74 g75 g76 g77 g78 g79))))
    · refine jr.aload_n rfl rfl ?_
      refine jr.getf (i := 71) (v := .ref 651) rfl rfl (by decide) rfl (by decide) rfl rfl rfl rfl ?_
      refine jr.aload_n rfl rfl ?_
      refine jr.getf (i := 73) (x := a0) (v := .int (Int32.ofInt (a0))) rfl rfl (by decide) rfl (by decide) rfl rfl ha0 rfl ?_
      obtain ⟨v13, e13⟩ : ∃ z, M 651 a0 = z := ⟨_, rfl⟩
      have b13 : 0 ≤ v13 ∧ v13 ≤ 255 := by rw [← e13]; exact (by have q := hI_M 651 a0 (by decide); rw [xri_row rfl rfl] at q; exact q)
      refine jr.iald (i := a0) (x := v13) rfl (by decide) rfl (by decide) (by omega) (by omega) e13 ?_
      refine jr_s rfl rfl (Or.inl rfl) ⟨Nat.le_of_ble_eq_true rfl, Nat.le_of_ble_eq_true rfl⟩ rfl rfl (jc.deep (c_isDigit  (by omega) (fun t286_0 t286_1 => ?_) (fun f286_0 => ?_)) (by decide))
      · refine jr.if_eq rfl rfl (by omega) (fun h => absurd h (by decide)) (fun _ => ?_)
        refine jr.aload_n rfl rfl ?_
        refine jr.aload_n rfl rfl ?_
        refine jr.getf (i := 73) (x := a0) (v := .int (Int32.ofInt (a0))) rfl rfl (by decide) rfl (by decide) rfl rfl ha0 rfl ?_
        refine jr.aload_n rfl rfl ?_
        obtain ⟨v14, e14⟩ : ∃ z, M 598 75 = z := ⟨_, rfl⟩
        have b14 : 0 ≤ v14 ∧ v14 ≤ 1600 := by rw [← e14]; exact hI_M 598 75 (by decide)
        refine jr.getf (i := 75) (x := v14) (v := .int (Int32.ofInt (v14))) rfl rfl (by decide) rfl (by decide) rfl rfl e14 rfl ?_
        refine jr.isub rfl ?_
        refine jr.bipush rfl (by decide) ?_
        refine jr.icmp_ge rfl rfl (by omega) (by omega) (fun h304 => ?_) (fun h304 => ?_)
        · refine jr.aload_n rfl rfl ?_
          refine jr.getf (i := 78) (x := n8) (v := .long (Int64.ofInt (n8))) rfl rfl (by decide) rfl (by decide) rfl rfl hn8 rfl ?_
          refine jr.putf (i := 78) (x := n8) rfl rfl (by decide) rfl (by decide) rfl rfl rfl rfl rfl ?_
          refine jr.aload_n rfl rfl ?_
          refine jr.dup rfl rfl ?_
          refine jr.getf (i := 73) (x := a0) (v := .int (Int32.ofInt (a0))) rfl rfl (by decide) rfl (by decide) rfl rfl ((ju_i _ _ (by decide)).trans ha0) rfl ?_
          refine jr.iconst rfl ?_
          refine jr.iadd rfl ?_
          refine jr.putf (i := 73) (x := (a0 + 1)) rfl rfl (by decide) rfl (by decide) rfl rfl rfl rfl rfl ?_
          refine jr.goto rfl rfl ?_
          refine jr.pick [0] rfl rfl ?_
          exact ih (nM - 1) (by omega) (ju (ju M 598 78 n8) 598 73 (a0 + 1))  (RI.u (RI.u hI_M (a := 598) (i := 78) (show (-9223372036854775808 : Int) ≤ _ ∧ _ ≤ (9223372036854775807 : Int) from by omega)) (a := 598) (i := 73) (show (0 : Int) ≤ _ ∧ _ ≤ (1600 : Int) from by omega)) (RH.o (RH.o hH_M (by decide) (by decide) (by decide)) (by decide) (by decide) (by decide)) (RF.o (RF.o hS_M (by decide) (by decide)) (by decide) (by decide))  (fun a i f598 => ((ju_c _ _ f598).trans ((ju_c _ _ f598).trans (hF_M a i f598)))) (fun i g73 g74 g75 g76 g77 g78 g79 => ((ju_i _ _ g73).trans ((ju_i _ _ g78).trans (hG_M i g73 g74 g75 g76 g77 g78 g79))))  (by rw [(ju_same _ _ _ _), ((ju_i _ _ (by decide)).trans ((ju_i _ _ (by decide)).trans e1))] <;> omega) (by rw [((ju_i _ _ (by decide)).trans ((ju_i _ _ (by decide)).trans e14)), (ju_same _ _ _ _)] <;> omega) (by omega) (Or.inl (by rw [(ju_same _ _ _ _), ((ju_i _ _ (by decide)).trans ((ju_i _ _ (by decide)).trans e14))]; omega)) (TXr.o (TXr.o hT (by decide)) (by decide)) ((((ju_i _ _ (by decide)).trans ((ju_i _ _ (by decide)).trans e14))).trans (e14.symm.trans hB)) (by rw [(ju_same _ _ _ _), ((ju_i _ _ (by decide)).trans ((ju_i _ _ (by decide)).trans e14))]; exact (hT.dg (by omega) (by omega) e13 (by omega)).symm.trans (by rw [← ha0, ← e14]; exact hC)) (by rw [((ju_i _ _ (by decide)).trans (ju_same _ _ _ _)), ((ju_i _ _ (by decide)).trans ((ju_i _ _ (by decide)).trans e14)), (ju_same _ _ _ _)]; have hD2 : n8 = zdv f v14 (min (a0 - v14) 10).toNat := (by rw [← hn8, ← e14, ← ha0]; exact hD); exact zdv_sk hD2 (by omega)) (by rw [((ju_i _ _ (by decide)).trans ((ju_i _ _ (by decide)).trans e14)), ← e14]; exact hE) (by rw [((ju_i _ _ (by decide)).trans ((ju_i _ _ (by decide)).trans e14))]; omega) (by rw [(ju_same _ _ _ _)]; omega)
        · refine jr.ldc2 (x := 10) rfl rfl (by decide) ?_
          refine jr.aload_n rfl rfl ?_
          refine jr.getf (i := 78) (x := n8) (v := .long (Int64.ofInt (n8))) rfl rfl (by decide) rfl (by decide) rfl rfl hn8 rfl ?_
          refine jr.lmul rfl ?_
          refine jr.aload_n rfl rfl ?_
          refine jr.getf (i := 71) (v := .ref 651) rfl rfl (by decide) rfl (by decide) rfl rfl rfl rfl ?_
          refine jr.aload_n rfl rfl ?_
          refine jr.getf (i := 73) (x := a0) (v := .int (Int32.ofInt (a0))) rfl rfl (by decide) rfl (by decide) rfl rfl ha0 rfl ?_
          refine jr.iald (i := a0) (x := v13) rfl (by decide) rfl (by decide) (by omega) (by omega) e13 ?_
          refine jr.i2l rfl (by omega) ?_
          refine jr.ladd rfl ?_
          refine jr.ldc2 (x := 48) rfl rfl (by decide) ?_
          refine jr.lsub rfl ?_
          refine jr.goto rfl rfl ?_
          refine jr.putf (i := 78) (x := (((10 * n8) + v13) - 48)) rfl rfl (by decide) rfl (by decide) rfl rfl rfl rfl rfl ?_
          refine jr.aload_n rfl rfl ?_
          refine jr.dup rfl rfl ?_
          refine jr.getf (i := 73) (x := a0) (v := .int (Int32.ofInt (a0))) rfl rfl (by decide) rfl (by decide) rfl rfl ((ju_i _ _ (by decide)).trans ha0) rfl ?_
          refine jr.iconst rfl ?_
          refine jr.iadd rfl ?_
          refine jr.putf (i := 73) (x := (a0 + 1)) rfl rfl (by decide) rfl (by decide) rfl rfl rfl rfl rfl ?_
          refine jr.goto rfl rfl ?_
          refine jr.pick [0] rfl rfl ?_
          exact ih (nM - 1) (by omega) (ju (ju M 598 78 (((10 * n8) + v13) - 48)) 598 73 (a0 + 1))  (RI.u (RI.u hI_M (a := 598) (i := 78) (show (-9223372036854775808 : Int) ≤ _ ∧ _ ≤ (9223372036854775807 : Int) from by omega)) (a := 598) (i := 73) (show (0 : Int) ≤ _ ∧ _ ≤ (1600 : Int) from by omega)) (RH.o (RH.o hH_M (by decide) (by decide) (by decide)) (by decide) (by decide) (by decide)) (RF.o (RF.o hS_M (by decide) (by decide)) (by decide) (by decide))  (fun a i f598 => ((ju_c _ _ f598).trans ((ju_c _ _ f598).trans (hF_M a i f598)))) (fun i g73 g74 g75 g76 g77 g78 g79 => ((ju_i _ _ g73).trans ((ju_i _ _ g78).trans (hG_M i g73 g74 g75 g76 g77 g78 g79))))  (by rw [(ju_same _ _ _ _), ((ju_i _ _ (by decide)).trans ((ju_i _ _ (by decide)).trans e1))] <;> omega) (by rw [((ju_i _ _ (by decide)).trans ((ju_i _ _ (by decide)).trans e14)), (ju_same _ _ _ _)] <;> omega) (by omega) (Or.inl (by rw [(ju_same _ _ _ _), ((ju_i _ _ (by decide)).trans ((ju_i _ _ (by decide)).trans e14))]; omega)) (TXr.o (TXr.o hT (by decide)) (by decide)) ((((ju_i _ _ (by decide)).trans ((ju_i _ _ (by decide)).trans e14))).trans (e14.symm.trans hB)) (by rw [(ju_same _ _ _ _), ((ju_i _ _ (by decide)).trans ((ju_i _ _ (by decide)).trans e14))]; exact (hT.dg (by omega) (by omega) e13 (by omega)).symm.trans (by rw [← ha0, ← e14]; exact hC)) (by rw [((ju_i _ _ (by decide)).trans (ju_same _ _ _ _)), ((ju_i _ _ (by decide)).trans ((ju_i _ _ (by decide)).trans e14)), (ju_same _ _ _ _)]; have hD2 : n8 = zdv f v14 (min (a0 - v14) 10).toNat := (by rw [← hn8, ← e14, ← ha0]; exact hD); exact (show ((10 * n8) + v13) - 48 = 10 * n8 + v13 - 48 from by omega).trans (zdv_st hD2 (by omega) (by omega) (show v13 = f a0 from by rw [← e13]; exact hT.2.1 _ (by omega) (by omega)))) (by rw [((ju_i _ _ (by decide)).trans ((ju_i _ _ (by decide)).trans e14)), ← e14]; exact hE) (by rw [((ju_i _ _ (by decide)).trans ((ju_i _ _ (by decide)).trans e14))]; omega) (by rw [(ju_same _ _ _ _)]; omega)
      · refine jr.if_eq rfl rfl (by omega) (fun _ => ?_) (fun h => absurd (by decide) h)
        refine jr.aload_n rfl rfl ?_
        refine jr.aload_n rfl rfl ?_
        refine jr.getf (i := 73) (x := a0) (v := .int (Int32.ofInt (a0))) rfl rfl (by decide) rfl (by decide) rfl rfl ha0 rfl ?_
        refine jr.aload_n rfl rfl ?_
        obtain ⟨v15, e15⟩ : ∃ z, M 598 75 = z := ⟨_, rfl⟩
        have b15 : 0 ≤ v15 ∧ v15 ≤ 1600 := by rw [← e15]; exact hI_M 598 75 (by decide)
        refine jr.getf (i := 75) (x := v15) (v := .int (Int32.ofInt (v15))) rfl rfl (by decide) rfl (by decide) rfl rfl e15 rfl ?_
        refine jr.isub rfl ?_
        refine jr.bipush rfl (by decide) ?_
        refine jr.icmp_le rfl rfl (by omega) (by omega) (fun h365 => ?_) (fun h365 => ?_)
        · refine jr.iconst rfl ?_
          refine jr.putf (i := 74) (x := 2) rfl rfl (by decide) rfl (by decide) rfl rfl rfl rfl rfl ?_
          refine jr.goto rfl rfl ?_
          have y16 : (ju M 598 74 2) 598 72 = v1 := ((ju_i _ _ (by decide)).trans e1)
          have y17 : (ju M 598 74 2) 598 73 = a0 := ((ju_i _ _ (by decide)).trans ha0)
          have y18 : (ju M 598 74 2) 598 74 = 2 := (ju_same _ _ _ _)
          obtain ⟨v19, e19⟩ : ∃ z, M 598 79 = z := ⟨_, rfl⟩
          have b19 : 0 ≤ v19 ∧ v19 ≤ 255 := by rw [← e19]; exact hI_M 598 79 (by decide)
          have y20 : (ju M 598 74 2) 598 79 = v19 := ((ju_i _ _ (by decide)).trans e19)
          exact jr.vreturn rfl rfl (q _ (RI.u hI_M (a := 598) (i := 74) (show (0 : Int) ≤ _ ∧ _ ≤ (4 : Int) from by omega)) (RH.o hH_M (by decide) (by decide) (by decide)) (RF.o hS_M (by decide) (by decide))  (by omega) (by omega) (by unfold TK; omega) (fun q => by unfold TK; omega) (by omega) (TKr.cast (TKr.d (TXr.o hT (by decide)) (by rw [((ju_i _ _ (by decide)).trans e15)]; omega) (by rw [((ju_i _ _ (by decide)).trans e15), ← e15]; exact hE) (by rw [((ju_i _ _ (by decide)).trans ha0), ((ju_i _ _ (by decide)).trans e15)]; exact (show zsp zdg f N a0 = a0 from by first | exact zsp_e (by omega) | exact hT.dn (by omega) (by omega) e13 (by omega)).symm.trans (by rw [← ha0, ← e15]; exact hC)) (by rw [(ju_same _ _ _ _), ((ju_i _ _ (by decide)).trans ha0), ((ju_i _ _ (by decide)).trans e15)]; first | exact (if_pos (by omega)).symm | exact (if_neg (by omega)).symm) (by rw [((ju_i _ _ (by decide)).trans hn8), ((ju_i _ _ (by decide)).trans e15), ((ju_i _ _ (by decide)).trans ha0), ← hn8, ← e15, ← ha0]; exact hD)) ((((ju_i _ _ (by decide)).trans e15)).trans (e15.symm.trans hB))) (fun a i f598 => ((ju_c _ _ f598).trans (hF_M a i f598))) (fun i g73 g74 g75 g76 g77 g78 g79 => ((ju_i _ _ g74).trans (hG_M i g73 g74 g75 g76 g77 g78 g79))))
        · refine jr.iconst rfl ?_
          refine jr.goto rfl rfl ?_
          refine jr.putf (i := 74) (x := 4) rfl rfl (by decide) rfl (by decide) rfl rfl rfl rfl rfl ?_
          refine jr.goto rfl rfl ?_
          have y21 : (ju M 598 74 4) 598 72 = v1 := ((ju_i _ _ (by decide)).trans e1)
          have y22 : (ju M 598 74 4) 598 73 = a0 := ((ju_i _ _ (by decide)).trans ha0)
          have y23 : (ju M 598 74 4) 598 74 = 4 := (ju_same _ _ _ _)
          obtain ⟨v24, e24⟩ : ∃ z, M 598 79 = z := ⟨_, rfl⟩
          have b24 : 0 ≤ v24 ∧ v24 ≤ 255 := by rw [← e24]; exact hI_M 598 79 (by decide)
          have y25 : (ju M 598 74 4) 598 79 = v24 := ((ju_i _ _ (by decide)).trans e24)
          exact jr.vreturn rfl rfl (q _ (RI.u hI_M (a := 598) (i := 74) (show (0 : Int) ≤ _ ∧ _ ≤ (4 : Int) from by omega)) (RH.o hH_M (by decide) (by decide) (by decide)) (RF.o hS_M (by decide) (by decide))  (by omega) (by omega) (by unfold TK; omega) (fun q => by unfold TK; omega) (by omega) (TKr.cast (TKr.d (TXr.o hT (by decide)) (by rw [((ju_i _ _ (by decide)).trans e15)]; omega) (by rw [((ju_i _ _ (by decide)).trans e15), ← e15]; exact hE) (by rw [((ju_i _ _ (by decide)).trans ha0), ((ju_i _ _ (by decide)).trans e15)]; exact (show zsp zdg f N a0 = a0 from by first | exact zsp_e (by omega) | exact hT.dn (by omega) (by omega) e13 (by omega)).symm.trans (by rw [← ha0, ← e15]; exact hC)) (by rw [(ju_same _ _ _ _), ((ju_i _ _ (by decide)).trans ha0), ((ju_i _ _ (by decide)).trans e15)]; first | exact (if_pos (by omega)).symm | exact (if_neg (by omega)).symm) (by rw [((ju_i _ _ (by decide)).trans hn8), ((ju_i _ _ (by decide)).trans e15), ((ju_i _ _ (by decide)).trans ha0), ← hn8, ← e15, ← ha0]; exact hD)) ((((ju_i _ _ (by decide)).trans e15)).trans (e15.symm.trans hB))) (fun a i f598 => ((ju_c _ _ f598).trans (hF_M a i f598))) (fun i g73 g74 g75 g76 g77 g78 g79 => ((ju_i _ _ g74).trans (hG_M i g73 g74 g75 g76 g77 g78 g79))))
theorem r_next_L213_z {A : Nat → Option (Nat × (Nat → Int32))} {Q : Option Value → jm → Prop} {f : Int → Int} {N : Int} {M0 : jm} (q : ∀ (M' : jm), RI M' → RH M' → RF M' → M' 598 73 ≤ M' 598 72 → M0 598 73 ≤ M' 598 73 → TK M' ≤ TK M0 → (M0 598 74 ≠ 0 → TK M' < TK M0) → (M' 598 74 = 3 → M' 598 79 ≠ 10 ∧ M' 598 79 ≠ 11) → TKr f N (zsp zbl f N (M0 598 73)) M' → (∀ (a : Nat) (i : Int), a ≠ 598 → M' a i = M0 a i) → (∀ (i : Int), i ≠ 73 → i ≠ 74 → i ≠ 75 → i ≠ 76 → i ≠ 77 → i ≠ 78 → i ≠ 79 → M' 598 i = M0 598 i) → Q none M') : ∀ (nM : Nat) (M : jm) (k : Int), RI M → RH M → RF M → (∀ (a : Nat) (i : Int), a ≠ 598 → M a i = M0 a i) → (∀ (i : Int), i ≠ 73 → i ≠ 74 → i ≠ 75 → i ≠ 76 → i ≠ 77 → i ≠ 78 → i ≠ 79 → M 598 i = M0 598 i) → 0 ≤ k ∧ k ≤ 69 → M 598 73 ≤ M 598 72 → M0 598 73 < M 598 73 → 0 ≤ M0 598 74 → 1 ≤ M 598 74 ∧ M 598 74 ≠ 3 → TXr f N M → M 598 75 = zsp zbl f N (M0 598 73) → M 598 73 = zsp zlt f N (M 598 75) → M 598 74 = (if 9 < M 598 73 - M 598 75 then 4 else 1) → M 598 77 = zpk f (M 598 75) (min (M 598 73 - M 598 75) 9).toNat → M 598 75 < N ∧ zlt (f (M 598 75)) = true → 0 ≤ M 598 75 → M 598 76 = zlx (M 598 77) k.toNat → 69 - k ≤ nM → jr A 1 xm_344 213 [(2, .int (Int32.ofInt (k))), (0, .ref (598))] [] M Q := by
  intro nM
  induction nM using Nat.strongRecOn with
  | ind nM ih =>
    intro M k hI_M hH_M hS_M hF_M hG_M h_k hy0 hy1 hy2 hy3 hy4 hy5 hy6 hy7 hy8 hy9 hy10 hy11 hm
    have hT := hy4
    have hN := hT.1
    have hB := hy5
    have hC2 := hy6
    have hS2 := hy7
    have hD := hy8
    have hE := hy9
    have h75 := hy10
    have hW := hy11
    refine jr.iload_n rfl rfl ?_
    refine jr.bipush rfl (by decide) ?_
    refine jr.icmp_ge rfl rfl (by omega) (by omega) (fun h216 => ?_) (fun h216 => ?_)
    · refine jr.goto rfl rfl ?_
      obtain ⟨v1, e1⟩ : ∃ z, M 598 72 = z := ⟨_, rfl⟩
      have b1 : 0 ≤ v1 ∧ v1 ≤ 1600 := by rw [← e1]; exact hI_M 598 72 (by decide)
      have y2 : M 598 72 = v1 := e1
      obtain ⟨v3, e3⟩ : ∃ z, M 598 73 = z := ⟨_, rfl⟩
      have b3 : 0 ≤ v3 ∧ v3 ≤ 1600 := by rw [← e3]; exact hI_M 598 73 (by decide)
      have y4 : M 598 73 = v3 := e3
      obtain ⟨v5, e5⟩ : ∃ z, M 598 74 = z := ⟨_, rfl⟩
      have b5 : 0 ≤ v5 ∧ v5 ≤ 4 := by rw [← e5]; exact hI_M 598 74 (by decide)
      have y6 : M 598 74 = v5 := e5
      obtain ⟨v7, e7⟩ : ∃ z, M 598 79 = z := ⟨_, rfl⟩
      have b7 : 0 ≤ v7 ∧ v7 ≤ 255 := by rw [← e7]; exact hI_M 598 79 (by decide)
      have y8 : M 598 79 = v7 := e7
      exact jr.vreturn rfl rfl (q _ hI_M hH_M hS_M  (by omega) (by omega) (by unfold TK; omega) (fun q => by unfold TK; omega) (by omega) (TKr.cast (TKr.w hT h75 hE hC2 hS2 hD (by rw [hW, show k = 69 by omega]; rfl)) hB) (fun a i f598 => (hF_M a i f598)) (fun i g73 g74 g75 g76 g77 g78 g79 => (hG_M i g73 g74 g75 g76 g77 g78 g79)))
    · refine jr.aload_n rfl rfl ?_
      refine jr.aload_n rfl rfl ?_
      refine jr.getf (i := 69) (v := .ref 649) rfl rfl (by decide) rfl (by decide) rfl rfl rfl rfl ?_
      refine jr.iload_n rfl rfl ?_
      obtain ⟨v9, e9⟩ : ∃ z, M 649 k = z := ⟨_, rfl⟩
      have b9 : (-9223372036854775808) ≤ v9 ∧ v9 ≤ 9223372036854775807 := by rw [← e9]; exact (by have q := hI_M 649 k (by decide); rw [xri_row rfl rfl] at q; exact q)
      refine jr.lald (i := k) (x := v9) rfl (by decide) rfl (by decide) (by omega) (by omega) e9 ?_
      refine jr.aload_n rfl rfl ?_
      obtain ⟨v10, e10⟩ : ∃ z, M 598 77 = z := ⟨_, rfl⟩
      have b10 : (-9223372036854775808) ≤ v10 ∧ v10 ≤ 9223372036854775807 := by rw [← e10]; exact hI_M 598 77 (by decide)
      refine jr.getf (i := 77) (x := v10) (v := .long (Int64.ofInt (v10))) rfl rfl (by decide) rfl (by decide) rfl rfl e10 rfl ?_
      refine jr.lcmp_ne rfl rfl rfl (by omega) (by omega) (fun h230 => ?_) (fun h230 => ?_)
      · refine jr.aload_n rfl rfl ?_
        obtain ⟨v11, e11⟩ : ∃ z, M 598 76 = z := ⟨_, rfl⟩
        have b11 : (-1) ≤ v11 ∧ v11 ≤ 68 := by rw [← e11]; exact hI_M 598 76 (by decide)
        refine jr.getf (i := 76) (x := v11) (v := .int (Int32.ofInt (v11))) rfl rfl (by decide) rfl (by decide) rfl rfl e11 rfl ?_
        refine jr.putf (i := 76) (x := v11) rfl rfl (by decide) rfl (by decide) rfl rfl rfl rfl rfl ?_
        refine jr.iinc rfl rfl (by decide) rfl ?_
        refine jr.goto rfl rfl ?_
        obtain ⟨v12, e12⟩ : ∃ z, M 598 73 = z := ⟨_, rfl⟩
        have b12 : 0 ≤ v12 ∧ v12 ≤ 1600 := by rw [← e12]; exact hI_M 598 73 (by decide)
        obtain ⟨v13, e13⟩ : ∃ z, M 598 72 = z := ⟨_, rfl⟩
        have b13 : 0 ≤ v13 ∧ v13 ≤ 1600 := by rw [← e13]; exact hI_M 598 72 (by decide)
        obtain ⟨v14, e14⟩ : ∃ z, M 598 74 = z := ⟨_, rfl⟩
        have b14 : 0 ≤ v14 ∧ v14 ≤ 4 := by rw [← e14]; exact hI_M 598 74 (by decide)
        obtain ⟨v15, e15⟩ : ∃ z, M 598 75 = z := ⟨_, rfl⟩
        have b15 : 0 ≤ v15 ∧ v15 ≤ 1600 := by rw [← e15]; exact hI_M 598 75 (by decide)
        refine jr.pick [0, 1] rfl rfl ?_
        exact ih (nM - 1) (by omega) (ju M 598 76 v11) (k + 1) (RI.u hI_M (a := 598) (i := 76) (show (-1 : Int) ≤ _ ∧ _ ≤ (68 : Int) from by omega)) (RH.o hH_M (by decide) (by decide) (by decide)) (RF.o hS_M (by decide) (by decide))  (fun a i f598 => ((ju_c _ _ f598).trans (hF_M a i f598))) (fun i g73 g74 g75 g76 g77 g78 g79 => ((ju_i _ _ g76).trans (hG_M i g73 g74 g75 g76 g77 g78 g79))) (by omega) (by rw [((ju_i _ _ (by decide)).trans e12), ((ju_i _ _ (by decide)).trans e13)] <;> omega) (by rw [((ju_i _ _ (by decide)).trans e12)] <;> omega) (by omega) (by rw [((ju_i _ _ (by decide)).trans e14)] <;> omega) (TXr.o hT (by decide)) (by rw [((ju_i _ _ (by decide)).trans e15), ← e15]; exact hB) (by rw [((ju_i _ _ (by decide)).trans e12), ((ju_i _ _ (by decide)).trans e15), ← e12, ← e15]; exact hC2) (by rw [((ju_i _ _ (by decide)).trans e14), ((ju_i _ _ (by decide)).trans e12), ((ju_i _ _ (by decide)).trans e15), ← e14, ← e12, ← e15]; exact hS2) (by rw [((ju_i _ _ (by decide)).trans e10), ((ju_i _ _ (by decide)).trans e15), ((ju_i _ _ (by decide)).trans e12), ← e10, ← e15, ← e12]; exact hD) (by rw [((ju_i _ _ (by decide)).trans e15), ← e15]; exact hE) (by rw [((ju_i _ _ (by decide)).trans e15)]; omega) (by rw [(ju_same _ _ _ _), ((ju_i _ _ (by decide)).trans e10)]; exact zlx_n (by omega) (by rw [(show zxw.getD k.toNat 0 = v9 from by rw [← e9]; exact (hT.2.2.1 k (by omega) (by omega)).symm)]; omega) (by rw [← e11, ← e10]; exact hW)) (by omega)
      · refine jr.iload_n rfl rfl ?_
        refine jr.goto rfl rfl ?_
        refine jr.putf (i := 76) (x := k) rfl rfl (by decide) rfl (by decide) rfl rfl rfl rfl rfl ?_
        refine jr.iinc rfl rfl (by decide) rfl ?_
        refine jr.goto rfl rfl ?_
        obtain ⟨v16, e16⟩ : ∃ z, M 598 73 = z := ⟨_, rfl⟩
        have b16 : 0 ≤ v16 ∧ v16 ≤ 1600 := by rw [← e16]; exact hI_M 598 73 (by decide)
        obtain ⟨v17, e17⟩ : ∃ z, M 598 72 = z := ⟨_, rfl⟩
        have b17 : 0 ≤ v17 ∧ v17 ≤ 1600 := by rw [← e17]; exact hI_M 598 72 (by decide)
        obtain ⟨v18, e18⟩ : ∃ z, M 598 74 = z := ⟨_, rfl⟩
        have b18 : 0 ≤ v18 ∧ v18 ≤ 4 := by rw [← e18]; exact hI_M 598 74 (by decide)
        obtain ⟨v19, e19⟩ : ∃ z, M 598 75 = z := ⟨_, rfl⟩
        have b19 : 0 ≤ v19 ∧ v19 ≤ 1600 := by rw [← e19]; exact hI_M 598 75 (by decide)
        refine jr.pick [0, 1] rfl rfl ?_
        exact ih (nM - 1) (by omega) (ju M 598 76 k) (k + 1) (RI.u hI_M (a := 598) (i := 76) (show (-1 : Int) ≤ _ ∧ _ ≤ (68 : Int) from by omega)) (RH.o hH_M (by decide) (by decide) (by decide)) (RF.o hS_M (by decide) (by decide))  (fun a i f598 => ((ju_c _ _ f598).trans (hF_M a i f598))) (fun i g73 g74 g75 g76 g77 g78 g79 => ((ju_i _ _ g76).trans (hG_M i g73 g74 g75 g76 g77 g78 g79))) (by omega) (by rw [((ju_i _ _ (by decide)).trans e16), ((ju_i _ _ (by decide)).trans e17)] <;> omega) (by rw [((ju_i _ _ (by decide)).trans e16)] <;> omega) (by omega) (by rw [((ju_i _ _ (by decide)).trans e18)] <;> omega) (TXr.o hT (by decide)) (by rw [((ju_i _ _ (by decide)).trans e19), ← e19]; exact hB) (by rw [((ju_i _ _ (by decide)).trans e16), ((ju_i _ _ (by decide)).trans e19), ← e16, ← e19]; exact hC2) (by rw [((ju_i _ _ (by decide)).trans e18), ((ju_i _ _ (by decide)).trans e16), ((ju_i _ _ (by decide)).trans e19), ← e18, ← e16, ← e19]; exact hS2) (by rw [((ju_i _ _ (by decide)).trans e10), ((ju_i _ _ (by decide)).trans e19), ((ju_i _ _ (by decide)).trans e16), ← e10, ← e19, ← e16]; exact hD) (by rw [((ju_i _ _ (by decide)).trans e19), ← e19]; exact hE) (by rw [((ju_i _ _ (by decide)).trans e19)]; omega) (by rw [(ju_same _ _ _ _), ((ju_i _ _ (by decide)).trans e10)]; exact zlx_y (by omega) ((show zxw.getD k.toNat 0 = v9 from by rw [← e9]; exact (hT.2.2.1 k (by omega) (by omega)).symm).trans (by omega))) (by omega)
theorem r_next_L104_z {A : Nat → Option (Nat × (Nat → Int32))} {Q : Option Value → jm → Prop} {f : Int → Int} {N : Int} {M0 : jm} (q : ∀ (M' : jm), RI M' → RH M' → RF M' → M' 598 73 ≤ M' 598 72 → M0 598 73 ≤ M' 598 73 → TK M' ≤ TK M0 → (M0 598 74 ≠ 0 → TK M' < TK M0) → (M' 598 74 = 3 → M' 598 79 ≠ 10 ∧ M' 598 79 ≠ 11) → TKr f N (zsp zbl f N (M0 598 73)) M' → (∀ (a : Nat) (i : Int), a ≠ 598 → M' a i = M0 a i) → (∀ (i : Int), i ≠ 73 → i ≠ 74 → i ≠ 75 → i ≠ 76 → i ≠ 77 → i ≠ 78 → i ≠ 79 → M' 598 i = M0 598 i) → Q none M') : ∀ (nM : Nat) (M : jm) , RI M → RH M → RF M → (∀ (a : Nat) (i : Int), a ≠ 598 → M a i = M0 a i) → (∀ (i : Int), i ≠ 73 → i ≠ 74 → i ≠ 75 → i ≠ 76 → i ≠ 77 → i ≠ 78 → i ≠ 79 → M 598 i = M0 598 i) → M 598 73 ≤ M 598 72 → M0 598 73 ≤ M 598 75 ∧ M 598 75 ≤ M 598 73 → 0 ≤ M0 598 74 → (M 598 75 < M 598 73 ∨ (M 598 73 < M 598 72 ∧ 97 ≤ M 651 (M 598 73) ∧ M 651 (M 598 73) ≤ 122)) → TXr f N M → M 598 75 = zsp zbl f N (M0 598 73) → zsp zlt f N (M 598 73) = zsp zlt f N (M 598 75) → M 598 77 = zpk f (M 598 75) (min (M 598 73 - M 598 75) 9).toNat → M 598 75 < N ∧ zlt (f (M 598 75)) = true → 0 ≤ M 598 75 → M 598 76 = -1 → 1600 - M 598 73 ≤ nM → jr A 1 xm_344 104 [(0, .ref (598))] [] M Q := by
  intro nM
  induction nM using Nat.strongRecOn with
  | ind nM ih =>
    intro M  hI_M hH_M hS_M hF_M hG_M  hy0 hy1 hy2 hy3 hy4 hy5 hy6 hy7 hy8 hy9 hy10 hm
    obtain ⟨a0, ha0⟩ : ∃ z, M 598 73 = z := ⟨_, rfl⟩
    rw [ha0] at hy3
    have ba : (0 : Int) ≤ a0 ∧ a0 ≤ 1600 := by rw [← ha0]; exact hI_M 598 73 (by decide)
    have hT := hy4
    have hN := hT.1
    have hB := hy5
    have hC := hy6
    have hD := hy7
    have hE := hy8
    have h75 := hy9
    have hE1 := hE.1
    have hr := zpk_rg hD (by rw [ha0]; omega) hC
    obtain ⟨n7, hn7⟩ : ∃ z, M 598 77 = z := ⟨_, rfl⟩
    rw [hn7] at hr
    refine jr.aload_n rfl rfl ?_
    refine jr.getf (i := 73) (x := a0) (v := .int (Int32.ofInt (a0))) rfl rfl (by decide) rfl (by decide) rfl rfl ha0 rfl ?_
    refine jr.aload_n rfl rfl ?_
    obtain ⟨v1, e1⟩ : ∃ z, M 598 72 = z := ⟨_, rfl⟩
    have b1 : 0 ≤ v1 ∧ v1 ≤ 1600 := by rw [← e1]; exact hI_M 598 72 (by decide)
    refine jr.getf (i := 72) (x := v1) (v := .int (Int32.ofInt (v1))) rfl rfl (by decide) rfl (by decide) rfl rfl e1 rfl ?_
    refine jr.icmp_ge rfl rfl (by omega) (by omega) (fun h112 => ?_) (fun h112 => ?_)
    · refine jr.aload_n rfl rfl ?_
      refine jr.aload_n rfl rfl ?_
      refine jr.getf (i := 73) (x := a0) (v := .int (Int32.ofInt (a0))) rfl rfl (by decide) rfl (by decide) rfl rfl ha0 rfl ?_
      refine jr.aload_n rfl rfl ?_
      obtain ⟨v2, e2⟩ : ∃ z, M 598 75 = z := ⟨_, rfl⟩
      have b2 : 0 ≤ v2 ∧ v2 ≤ 1600 := by rw [← e2]; exact hI_M 598 75 (by decide)
      refine jr.getf (i := 75) (x := v2) (v := .int (Int32.ofInt (v2))) rfl rfl (by decide) rfl (by decide) rfl rfl e2 rfl ?_
      refine jr.isub rfl ?_
      refine jr.bipush rfl (by decide) ?_
      refine jr.icmp_le rfl rfl (by omega) (by omega) (fun h200 => ?_) (fun h200 => ?_)
      · refine jr.iconst rfl ?_
        refine jr.putf (i := 74) (x := 1) rfl rfl (by decide) rfl (by decide) rfl rfl rfl rfl rfl ?_
        refine jr.iconst rfl ?_
        refine jr.istore_n rfl (by decide) rfl ?_
        obtain ⟨v3, e3⟩ : ∃ z, M 598 76 = z := ⟨_, rfl⟩
        have b3 : (-1) ≤ v3 ∧ v3 ≤ 68 := by rw [← e3]; exact hI_M 598 76 (by decide)
        refine jr.pick [0, 1] rfl rfl ?_
        exact r_next_L213_z q 69 (ju M 598 74 1) 0 (RI.u hI_M (a := 598) (i := 74) (show (0 : Int) ≤ _ ∧ _ ≤ (4 : Int) from by omega)) (RH.o hH_M (by decide) (by decide) (by decide)) (RF.o hS_M (by decide) (by decide))  (fun a i f598 => ((ju_c _ _ f598).trans (hF_M a i f598))) (fun i g73 g74 g75 g76 g77 g78 g79 => ((ju_i _ _ g74).trans (hG_M i g73 g74 g75 g76 g77 g78 g79))) (by omega) (by rw [((ju_i _ _ (by decide)).trans ha0), ((ju_i _ _ (by decide)).trans e1)] <;> omega) (by rw [((ju_i _ _ (by decide)).trans ha0)] <;> omega) (by omega) (by rw [(ju_same _ _ _ _)] <;> omega) (TXr.o hT (by decide)) ((((ju_i _ _ (by decide)).trans e2)).trans (e2.symm.trans hB)) (by rw [((ju_i _ _ (by decide)).trans ha0), ((ju_i _ _ (by decide)).trans e2)]; exact (show zsp zlt f N a0 = a0 from by first | exact zsp_e (by omega) | omega).symm.trans (by rw [← ha0, ← e2]; exact hC)) (by rw [(ju_same _ _ _ _), ((ju_i _ _ (by decide)).trans ha0), ((ju_i _ _ (by decide)).trans e2)]; first | exact (if_pos (by omega)).symm | exact (if_neg (by omega)).symm) (by rw [((ju_i _ _ (by decide)).trans hn7), ((ju_i _ _ (by decide)).trans e2), ((ju_i _ _ (by decide)).trans ha0), ← hn7, ← e2, ← ha0]; exact hD) (by rw [((ju_i _ _ (by decide)).trans e2), ← e2]; exact hE) (by rw [((ju_i _ _ (by decide)).trans e2)]; omega) (by rw [((ju_i _ _ (by decide)).trans e3), show v3 = -1 by omega]; rfl) (by omega)
      · refine jr.iconst rfl ?_
        refine jr.goto rfl rfl ?_
        refine jr.putf (i := 74) (x := 4) rfl rfl (by decide) rfl (by decide) rfl rfl rfl rfl rfl ?_
        refine jr.iconst rfl ?_
        refine jr.istore_n rfl (by decide) rfl ?_
        obtain ⟨v4, e4⟩ : ∃ z, M 598 76 = z := ⟨_, rfl⟩
        have b4 : (-1) ≤ v4 ∧ v4 ≤ 68 := by rw [← e4]; exact hI_M 598 76 (by decide)
        refine jr.pick [0, 1] rfl rfl ?_
        exact r_next_L213_z q 69 (ju M 598 74 4) 0 (RI.u hI_M (a := 598) (i := 74) (show (0 : Int) ≤ _ ∧ _ ≤ (4 : Int) from by omega)) (RH.o hH_M (by decide) (by decide) (by decide)) (RF.o hS_M (by decide) (by decide))  (fun a i f598 => ((ju_c _ _ f598).trans (hF_M a i f598))) (fun i g73 g74 g75 g76 g77 g78 g79 => ((ju_i _ _ g74).trans (hG_M i g73 g74 g75 g76 g77 g78 g79))) (by omega) (by rw [((ju_i _ _ (by decide)).trans ha0), ((ju_i _ _ (by decide)).trans e1)] <;> omega) (by rw [((ju_i _ _ (by decide)).trans ha0)] <;> omega) (by omega) (by rw [(ju_same _ _ _ _)] <;> omega) (TXr.o hT (by decide)) ((((ju_i _ _ (by decide)).trans e2)).trans (e2.symm.trans hB)) (by rw [((ju_i _ _ (by decide)).trans ha0), ((ju_i _ _ (by decide)).trans e2)]; exact (show zsp zlt f N a0 = a0 from by first | exact zsp_e (by omega) | omega).symm.trans (by rw [← ha0, ← e2]; exact hC)) (by rw [(ju_same _ _ _ _), ((ju_i _ _ (by decide)).trans ha0), ((ju_i _ _ (by decide)).trans e2)]; first | exact (if_pos (by omega)).symm | exact (if_neg (by omega)).symm) (by rw [((ju_i _ _ (by decide)).trans hn7), ((ju_i _ _ (by decide)).trans e2), ((ju_i _ _ (by decide)).trans ha0), ← hn7, ← e2, ← ha0]; exact hD) (by rw [((ju_i _ _ (by decide)).trans e2), ← e2]; exact hE) (by rw [((ju_i _ _ (by decide)).trans e2)]; omega) (by rw [((ju_i _ _ (by decide)).trans e4), show v4 = -1 by omega]; rfl) (by omega)
    · refine jr.aload_n rfl rfl ?_
      refine jr.getf (i := 71) (v := .ref 651) rfl rfl (by decide) rfl (by decide) rfl rfl rfl rfl ?_
      refine jr.aload_n rfl rfl ?_
      refine jr.getf (i := 73) (x := a0) (v := .int (Int32.ofInt (a0))) rfl rfl (by decide) rfl (by decide) rfl rfl ha0 rfl ?_
      obtain ⟨v5, e5⟩ : ∃ z, M 651 a0 = z := ⟨_, rfl⟩
      have b5 : 0 ≤ v5 ∧ v5 ≤ 255 := by rw [← e5]; exact (by have q := hI_M 651 a0 (by decide); rw [xri_row rfl rfl] at q; exact q)
      refine jr.iald (i := a0) (x := v5) rfl (by decide) rfl (by decide) (by omega) (by omega) e5 ?_
      refine jr_s rfl rfl (Or.inl rfl) ⟨Nat.le_of_ble_eq_true rfl, Nat.le_of_ble_eq_true rfl⟩ rfl rfl (jc.deep (c_isLetter  (by omega) (fun t124_0 t124_1 => ?_) (fun f124_0 => ?_)) (by decide))
      · refine jr.if_eq rfl rfl (by omega) (fun h => absurd h (by decide)) (fun _ => ?_)
        refine jr.aload_n rfl rfl ?_
        refine jr.aload_n rfl rfl ?_
        refine jr.getf (i := 73) (x := a0) (v := .int (Int32.ofInt (a0))) rfl rfl (by decide) rfl (by decide) rfl rfl ha0 rfl ?_
        refine jr.aload_n rfl rfl ?_
        obtain ⟨v6, e6⟩ : ∃ z, M 598 75 = z := ⟨_, rfl⟩
        have b6 : 0 ≤ v6 ∧ v6 ≤ 1600 := by rw [← e6]; exact hI_M 598 75 (by decide)
        refine jr.getf (i := 75) (x := v6) (v := .int (Int32.ofInt (v6))) rfl rfl (by decide) rfl (by decide) rfl rfl e6 rfl ?_
        refine jr.isub rfl ?_
        refine jr.bipush rfl (by decide) ?_
        refine jr.icmp_ge rfl rfl (by omega) (by omega) (fun h142 => ?_) (fun h142 => ?_)
        · refine jr.aload_n rfl rfl ?_
          refine jr.getf (i := 77) (x := n7) (v := .long (Int64.ofInt (n7))) rfl rfl (by decide) rfl (by decide) rfl rfl hn7 rfl ?_
          refine jr.putf (i := 77) (x := n7) rfl rfl (by decide) rfl (by decide) rfl rfl rfl rfl rfl ?_
          refine jr.aload_n rfl rfl ?_
          refine jr.dup rfl rfl ?_
          refine jr.getf (i := 73) (x := a0) (v := .int (Int32.ofInt (a0))) rfl rfl (by decide) rfl (by decide) rfl rfl ((ju_i _ _ (by decide)).trans ha0) rfl ?_
          refine jr.iconst rfl ?_
          refine jr.iadd rfl ?_
          refine jr.putf (i := 73) (x := (a0 + 1)) rfl rfl (by decide) rfl (by decide) rfl rfl rfl rfl rfl ?_
          refine jr.goto rfl rfl ?_
          obtain ⟨v7, e7⟩ : ∃ z, M 598 76 = z := ⟨_, rfl⟩
          have b7 : (-1) ≤ v7 ∧ v7 ≤ 68 := by rw [← e7]; exact hI_M 598 76 (by decide)
          refine jr.pick [0] rfl rfl ?_
          exact ih (nM - 1) (by omega) (ju (ju M 598 77 n7) 598 73 (a0 + 1))  (RI.u (RI.u hI_M (a := 598) (i := 77) (show (-9223372036854775808 : Int) ≤ _ ∧ _ ≤ (9223372036854775807 : Int) from by omega)) (a := 598) (i := 73) (show (0 : Int) ≤ _ ∧ _ ≤ (1600 : Int) from by omega)) (RH.o (RH.o hH_M (by decide) (by decide) (by decide)) (by decide) (by decide) (by decide)) (RF.o (RF.o hS_M (by decide) (by decide)) (by decide) (by decide))  (fun a i f598 => ((ju_c _ _ f598).trans ((ju_c _ _ f598).trans (hF_M a i f598)))) (fun i g73 g74 g75 g76 g77 g78 g79 => ((ju_i _ _ g73).trans ((ju_i _ _ g77).trans (hG_M i g73 g74 g75 g76 g77 g78 g79))))  (by rw [(ju_same _ _ _ _), ((ju_i _ _ (by decide)).trans ((ju_i _ _ (by decide)).trans e1))] <;> omega) (by rw [((ju_i _ _ (by decide)).trans ((ju_i _ _ (by decide)).trans e6)), (ju_same _ _ _ _)] <;> omega) (by omega) (Or.inl (by rw [(ju_same _ _ _ _), ((ju_i _ _ (by decide)).trans ((ju_i _ _ (by decide)).trans e6))]; omega)) (TXr.o (TXr.o hT (by decide)) (by decide)) ((((ju_i _ _ (by decide)).trans ((ju_i _ _ (by decide)).trans e6))).trans (e6.symm.trans hB)) (by rw [(ju_same _ _ _ _), ((ju_i _ _ (by decide)).trans ((ju_i _ _ (by decide)).trans e6))]; exact (hT.lg (by omega) (by omega) e5 (by omega)).symm.trans (by rw [← ha0, ← e6]; exact hC)) (by rw [((ju_i _ _ (by decide)).trans (ju_same _ _ _ _)), ((ju_i _ _ (by decide)).trans ((ju_i _ _ (by decide)).trans e6)), (ju_same _ _ _ _)]; have hD2 : n7 = zpk f v6 (min (a0 - v6) 9).toNat := (by rw [← hn7, ← e6, ← ha0]; exact hD); exact zpk_sk hD2 (by omega)) (by rw [((ju_i _ _ (by decide)).trans ((ju_i _ _ (by decide)).trans e6)), ← e6]; exact hE) (by rw [((ju_i _ _ (by decide)).trans ((ju_i _ _ (by decide)).trans e6))]; omega) (by rw [((ju_i _ _ (by decide)).trans ((ju_i _ _ (by decide)).trans e7))] <;> omega) (by rw [(ju_same _ _ _ _)]; omega)
        · refine jr.aload_n rfl rfl ?_
          refine jr.getf (i := 77) (x := n7) (v := .long (Int64.ofInt (n7))) rfl rfl (by decide) rfl (by decide) rfl rfl hn7 rfl ?_
          refine jr.iconst rfl ?_
          refine jr.lshl rfl ?_
          refine jr.aload_n rfl rfl ?_
          refine jr.getf (i := 71) (v := .ref 651) rfl rfl (by decide) rfl (by decide) rfl rfl rfl rfl ?_
          refine jr.aload_n rfl rfl ?_
          refine jr.getf (i := 73) (x := a0) (v := .int (Int32.ofInt (a0))) rfl rfl (by decide) rfl (by decide) rfl rfl ha0 rfl ?_
          refine jr.iald (i := a0) (x := v5) rfl (by decide) rfl (by decide) (by omega) (by omega) e5 ?_
          refine jr.bipush rfl (by decide) ?_
          refine jr.isub rfl ?_
          refine jr.i2l rfl (by omega) ?_
          refine jr.lor rfl ?_
          have b8 : jl_or (jl_shl n7 5) (v5 - 96) = n7 * 32 + (v5 - 96) := jl_sho5 (by omega) (by omega)
          generalize jl_or (jl_shl n7 5) (v5 - 96) = v8 at b8 ⊢
          refine jr.goto rfl rfl ?_
          refine jr.putf (i := 77) (x := v8) rfl rfl (by decide) rfl (by decide) rfl rfl rfl rfl rfl ?_
          refine jr.aload_n rfl rfl ?_
          refine jr.dup rfl rfl ?_
          refine jr.getf (i := 73) (x := a0) (v := .int (Int32.ofInt (a0))) rfl rfl (by decide) rfl (by decide) rfl rfl ((ju_i _ _ (by decide)).trans ha0) rfl ?_
          refine jr.iconst rfl ?_
          refine jr.iadd rfl ?_
          refine jr.putf (i := 73) (x := (a0 + 1)) rfl rfl (by decide) rfl (by decide) rfl rfl rfl rfl rfl ?_
          refine jr.goto rfl rfl ?_
          obtain ⟨v9, e9⟩ : ∃ z, M 598 76 = z := ⟨_, rfl⟩
          have b9 : (-1) ≤ v9 ∧ v9 ≤ 68 := by rw [← e9]; exact hI_M 598 76 (by decide)
          refine jr.pick [0] rfl rfl ?_
          exact ih (nM - 1) (by omega) (ju (ju M 598 77 v8) 598 73 (a0 + 1))  (RI.u (RI.u hI_M (a := 598) (i := 77) (show (-9223372036854775808 : Int) ≤ _ ∧ _ ≤ (9223372036854775807 : Int) from by omega)) (a := 598) (i := 73) (show (0 : Int) ≤ _ ∧ _ ≤ (1600 : Int) from by omega)) (RH.o (RH.o hH_M (by decide) (by decide) (by decide)) (by decide) (by decide) (by decide)) (RF.o (RF.o hS_M (by decide) (by decide)) (by decide) (by decide))  (fun a i f598 => ((ju_c _ _ f598).trans ((ju_c _ _ f598).trans (hF_M a i f598)))) (fun i g73 g74 g75 g76 g77 g78 g79 => ((ju_i _ _ g73).trans ((ju_i _ _ g77).trans (hG_M i g73 g74 g75 g76 g77 g78 g79))))  (by rw [(ju_same _ _ _ _), ((ju_i _ _ (by decide)).trans ((ju_i _ _ (by decide)).trans e1))] <;> omega) (by rw [((ju_i _ _ (by decide)).trans ((ju_i _ _ (by decide)).trans e6)), (ju_same _ _ _ _)] <;> omega) (by omega) (Or.inl (by rw [(ju_same _ _ _ _), ((ju_i _ _ (by decide)).trans ((ju_i _ _ (by decide)).trans e6))]; omega)) (TXr.o (TXr.o hT (by decide)) (by decide)) ((((ju_i _ _ (by decide)).trans ((ju_i _ _ (by decide)).trans e6))).trans (e6.symm.trans hB)) (by rw [(ju_same _ _ _ _), ((ju_i _ _ (by decide)).trans ((ju_i _ _ (by decide)).trans e6))]; exact (hT.lg (by omega) (by omega) e5 (by omega)).symm.trans (by rw [← ha0, ← e6]; exact hC)) (by rw [((ju_i _ _ (by decide)).trans (ju_same _ _ _ _)), ((ju_i _ _ (by decide)).trans ((ju_i _ _ (by decide)).trans e6)), (ju_same _ _ _ _)]; have hD2 : n7 = zpk f v6 (min (a0 - v6) 9).toNat := (by rw [← hn7, ← e6, ← ha0]; exact hD); exact (show v8 = n7 * 32 + (v5 - 96) from by omega).trans (zpk_st hD2 (by omega) (by omega) (show v5 = f a0 from by rw [← e5]; exact hT.2.1 _ (by omega) (by omega)))) (by rw [((ju_i _ _ (by decide)).trans ((ju_i _ _ (by decide)).trans e6)), ← e6]; exact hE) (by rw [((ju_i _ _ (by decide)).trans ((ju_i _ _ (by decide)).trans e6))]; omega) (by rw [((ju_i _ _ (by decide)).trans ((ju_i _ _ (by decide)).trans e9))] <;> omega) (by rw [(ju_same _ _ _ _)]; omega)
      · refine jr.if_eq rfl rfl (by omega) (fun _ => ?_) (fun h => absurd (by decide) h)
        refine jr.aload_n rfl rfl ?_
        refine jr.aload_n rfl rfl ?_
        refine jr.getf (i := 73) (x := a0) (v := .int (Int32.ofInt (a0))) rfl rfl (by decide) rfl (by decide) rfl rfl ha0 rfl ?_
        refine jr.aload_n rfl rfl ?_
        obtain ⟨v10, e10⟩ : ∃ z, M 598 75 = z := ⟨_, rfl⟩
        have b10 : 0 ≤ v10 ∧ v10 ≤ 1600 := by rw [← e10]; exact hI_M 598 75 (by decide)
        refine jr.getf (i := 75) (x := v10) (v := .int (Int32.ofInt (v10))) rfl rfl (by decide) rfl (by decide) rfl rfl e10 rfl ?_
        refine jr.isub rfl ?_
        refine jr.bipush rfl (by decide) ?_
        refine jr.icmp_le rfl rfl (by omega) (by omega) (fun h200 => ?_) (fun h200 => ?_)
        · refine jr.iconst rfl ?_
          refine jr.putf (i := 74) (x := 1) rfl rfl (by decide) rfl (by decide) rfl rfl rfl rfl rfl ?_
          refine jr.iconst rfl ?_
          refine jr.istore_n rfl (by decide) rfl ?_
          obtain ⟨v11, e11⟩ : ∃ z, M 598 76 = z := ⟨_, rfl⟩
          have b11 : (-1) ≤ v11 ∧ v11 ≤ 68 := by rw [← e11]; exact hI_M 598 76 (by decide)
          refine jr.pick [0, 1] rfl rfl ?_
          exact r_next_L213_z q 69 (ju M 598 74 1) 0 (RI.u hI_M (a := 598) (i := 74) (show (0 : Int) ≤ _ ∧ _ ≤ (4 : Int) from by omega)) (RH.o hH_M (by decide) (by decide) (by decide)) (RF.o hS_M (by decide) (by decide))  (fun a i f598 => ((ju_c _ _ f598).trans (hF_M a i f598))) (fun i g73 g74 g75 g76 g77 g78 g79 => ((ju_i _ _ g74).trans (hG_M i g73 g74 g75 g76 g77 g78 g79))) (by omega) (by rw [((ju_i _ _ (by decide)).trans ha0), ((ju_i _ _ (by decide)).trans e1)] <;> omega) (by rw [((ju_i _ _ (by decide)).trans ha0)] <;> omega) (by omega) (by rw [(ju_same _ _ _ _)] <;> omega) (TXr.o hT (by decide)) ((((ju_i _ _ (by decide)).trans e10)).trans (e10.symm.trans hB)) (by rw [((ju_i _ _ (by decide)).trans ha0), ((ju_i _ _ (by decide)).trans e10)]; exact (show zsp zlt f N a0 = a0 from by first | exact zsp_e (by omega) | exact hT.ln (by omega) (by omega) e5 (by omega)).symm.trans (by rw [← ha0, ← e10]; exact hC)) (by rw [(ju_same _ _ _ _), ((ju_i _ _ (by decide)).trans ha0), ((ju_i _ _ (by decide)).trans e10)]; first | exact (if_pos (by omega)).symm | exact (if_neg (by omega)).symm) (by rw [((ju_i _ _ (by decide)).trans hn7), ((ju_i _ _ (by decide)).trans e10), ((ju_i _ _ (by decide)).trans ha0), ← hn7, ← e10, ← ha0]; exact hD) (by rw [((ju_i _ _ (by decide)).trans e10), ← e10]; exact hE) (by rw [((ju_i _ _ (by decide)).trans e10)]; omega) (by rw [((ju_i _ _ (by decide)).trans e11), show v11 = -1 by omega]; rfl) (by omega)
        · refine jr.iconst rfl ?_
          refine jr.goto rfl rfl ?_
          refine jr.putf (i := 74) (x := 4) rfl rfl (by decide) rfl (by decide) rfl rfl rfl rfl rfl ?_
          refine jr.iconst rfl ?_
          refine jr.istore_n rfl (by decide) rfl ?_
          obtain ⟨v12, e12⟩ : ∃ z, M 598 76 = z := ⟨_, rfl⟩
          have b12 : (-1) ≤ v12 ∧ v12 ≤ 68 := by rw [← e12]; exact hI_M 598 76 (by decide)
          refine jr.pick [0, 1] rfl rfl ?_
          exact r_next_L213_z q 69 (ju M 598 74 4) 0 (RI.u hI_M (a := 598) (i := 74) (show (0 : Int) ≤ _ ∧ _ ≤ (4 : Int) from by omega)) (RH.o hH_M (by decide) (by decide) (by decide)) (RF.o hS_M (by decide) (by decide))  (fun a i f598 => ((ju_c _ _ f598).trans (hF_M a i f598))) (fun i g73 g74 g75 g76 g77 g78 g79 => ((ju_i _ _ g74).trans (hG_M i g73 g74 g75 g76 g77 g78 g79))) (by omega) (by rw [((ju_i _ _ (by decide)).trans ha0), ((ju_i _ _ (by decide)).trans e1)] <;> omega) (by rw [((ju_i _ _ (by decide)).trans ha0)] <;> omega) (by omega) (by rw [(ju_same _ _ _ _)] <;> omega) (TXr.o hT (by decide)) ((((ju_i _ _ (by decide)).trans e10)).trans (e10.symm.trans hB)) (by rw [((ju_i _ _ (by decide)).trans ha0), ((ju_i _ _ (by decide)).trans e10)]; exact (show zsp zlt f N a0 = a0 from by first | exact zsp_e (by omega) | exact hT.ln (by omega) (by omega) e5 (by omega)).symm.trans (by rw [← ha0, ← e10]; exact hC)) (by rw [(ju_same _ _ _ _), ((ju_i _ _ (by decide)).trans ha0), ((ju_i _ _ (by decide)).trans e10)]; first | exact (if_pos (by omega)).symm | exact (if_neg (by omega)).symm) (by rw [((ju_i _ _ (by decide)).trans hn7), ((ju_i _ _ (by decide)).trans e10), ((ju_i _ _ (by decide)).trans ha0), ← hn7, ← e10, ← ha0]; exact hD) (by rw [((ju_i _ _ (by decide)).trans e10), ← e10]; exact hE) (by rw [((ju_i _ _ (by decide)).trans e10)]; omega) (by rw [((ju_i _ _ (by decide)).trans e12), show v12 = -1 by omega]; rfl) (by omega)
theorem r_next_L0_z {A : Nat → Option (Nat × (Nat → Int32))} {Q : Option Value → jm → Prop} {f : Int → Int} {N : Int} {M0 : jm} (q : ∀ (M' : jm), RI M' → RH M' → RF M' → M' 598 73 ≤ M' 598 72 → M0 598 73 ≤ M' 598 73 → TK M' ≤ TK M0 → (M0 598 74 ≠ 0 → TK M' < TK M0) → (M' 598 74 = 3 → M' 598 79 ≠ 10 ∧ M' 598 79 ≠ 11) → TKr f N (zsp zbl f N (M0 598 73)) M' → (∀ (a : Nat) (i : Int), a ≠ 598 → M' a i = M0 a i) → (∀ (i : Int), i ≠ 73 → i ≠ 74 → i ≠ 75 → i ≠ 76 → i ≠ 77 → i ≠ 78 → i ≠ 79 → M' 598 i = M0 598 i) → Q none M') : ∀ (nM : Nat) (M : jm) , RI M → RH M → RF M → (∀ (a : Nat) (i : Int), a ≠ 598 → M a i = M0 a i) → (∀ (i : Int), i ≠ 73 → i ≠ 74 → i ≠ 75 → i ≠ 76 → i ≠ 77 → i ≠ 78 → i ≠ 79 → M 598 i = M0 598 i) → M 598 73 ≤ M 598 72 → M0 598 73 ≤ M 598 73 → 0 ≤ M0 598 74 → TXr f N M → zsp zbl f N (M 598 73) = zsp zbl f N (M0 598 73) → 1600 - M 598 73 ≤ nM → jr A 1 xm_344 0 [(0, .ref (598))] [] M Q := by
  intro nM
  induction nM using Nat.strongRecOn with
  | ind nM ih =>
    intro M  hI_M hH_M hS_M hF_M hG_M  hy0 hy1 hy2 hy3 hy4 hm
    have hT := hy3
    have hN := hT.1
    have hZ := hy4
    refine jr.aload_n rfl rfl ?_
    obtain ⟨v1, e1⟩ : ∃ z, M 598 73 = z := ⟨_, rfl⟩
    have b1 : 0 ≤ v1 ∧ v1 ≤ 1600 := by rw [← e1]; exact hI_M 598 73 (by decide)
    refine jr.getf (i := 73) (x := v1) (v := .int (Int32.ofInt (v1))) rfl rfl (by decide) rfl (by decide) rfl rfl e1 rfl ?_
    refine jr.aload_n rfl rfl ?_
    obtain ⟨v2, e2⟩ : ∃ z, M 598 72 = z := ⟨_, rfl⟩
    have b2 : 0 ≤ v2 ∧ v2 ≤ 1600 := by rw [← e2]; exact hI_M 598 72 (by decide)
    refine jr.getf (i := 72) (x := v2) (v := .int (Int32.ofInt (v2))) rfl rfl (by decide) rfl (by decide) rfl rfl e2 rfl ?_
    refine jr.icmp_ge rfl rfl (by omega) (by omega) (fun h8 => ?_) (fun h8 => ?_)
    · refine jr.aload_n rfl rfl ?_
      refine jr.aload_n rfl rfl ?_
      refine jr.getf (i := 73) (x := v1) (v := .int (Int32.ofInt (v1))) rfl rfl (by decide) rfl (by decide) rfl rfl e1 rfl ?_
      refine jr.putf (i := 75) (x := v1) rfl rfl (by decide) rfl (by decide) rfl rfl rfl rfl rfl ?_
      refine jr.aload_n rfl rfl ?_
      refine jr.iconst rfl ?_
      refine jr.putf (i := 74) (x := 0) rfl rfl (by decide) rfl (by decide) rfl rfl rfl rfl rfl ?_
      refine jr.aload_n rfl rfl ?_
      refine jr.iconst rfl ?_
      refine jr.putf (i := 76) (x := (-1)) rfl rfl (by decide) rfl (by decide) rfl rfl rfl rfl rfl ?_
      refine jr.aload_n rfl rfl ?_
      refine jr.getf (i := 73) (x := v1) (v := .int (Int32.ofInt (v1))) rfl rfl (by decide) rfl (by decide) rfl rfl ((ju_i _ _ (by decide)).trans ((ju_i _ _ (by decide)).trans ((ju_i _ _ (by decide)).trans e1))) rfl ?_
      refine jr.aload_n rfl rfl ?_
      refine jr.getf (i := 72) (x := v2) (v := .int (Int32.ofInt (v2))) rfl rfl (by decide) rfl (by decide) rfl rfl ((ju_i _ _ (by decide)).trans ((ju_i _ _ (by decide)).trans ((ju_i _ _ (by decide)).trans e2))) rfl ?_
      refine jr.icmp_ne rfl rfl (by omega) (by omega) (fun h78 => ?_) (fun h78 => ?_)
      · refine jr.aload_n rfl rfl ?_
        refine jr.getf (i := 71) (v := .ref 651) rfl rfl (by decide) rfl (by decide) rfl rfl rfl rfl ?_
        refine jr.aload_n rfl rfl ?_
        refine jr.getf (i := 73) (x := v1) (v := .int (Int32.ofInt (v1))) rfl rfl (by decide) rfl (by decide) rfl rfl ((ju_i _ _ (by decide)).trans ((ju_i _ _ (by decide)).trans ((ju_i _ _ (by decide)).trans e1))) rfl ?_
        obtain ⟨v3, e3⟩ : ∃ z, M 651 v1 = z := ⟨_, rfl⟩
        have b3 : 0 ≤ v3 ∧ v3 ≤ 255 := by rw [← e3]; exact (by have q := hI_M 651 v1 (by decide); rw [xri_row rfl rfl] at q; exact q)
        refine jr.iald (i := v1) (x := v3) rfl (by decide) rfl (by decide) (by omega) (by omega) ((ju_c _ _ (by decide)).trans ((ju_c _ _ (by decide)).trans ((ju_c _ _ (by decide)).trans e3))) ?_
        refine jr.istore_n rfl (by decide) rfl ?_
        refine jr.iload_n rfl rfl ?_
        refine jr_s rfl rfl (Or.inl rfl) ⟨Nat.le_of_ble_eq_true rfl, Nat.le_of_ble_eq_true rfl⟩ rfl rfl (jc.deep (c_isLetter  (by omega) (fun t93_0 t93_1 => ?_) (fun f93_0 => ?_)) (by decide))
        · refine jr.if_eq rfl rfl (by omega) (fun h => absurd h (by decide)) (fun _ => ?_)
          refine jr.aload_n rfl rfl ?_
          refine jr.lconst (x := 0) rfl (by decide) ?_
          refine jr.putf (i := 77) (x := 0) rfl rfl (by decide) rfl (by decide) rfl rfl rfl rfl rfl ?_
          refine jr.pick [1] rfl rfl ?_
          exact r_next_L104_z q 1600 (ju (ju (ju (ju M 598 75 v1) 598 74 0) 598 76 (-1)) 598 77 0)  (RI.u (RI.u (RI.u (RI.u hI_M (a := 598) (i := 75) (show (0 : Int) ≤ _ ∧ _ ≤ (1600 : Int) from by omega)) (a := 598) (i := 74) (show (0 : Int) ≤ _ ∧ _ ≤ (4 : Int) from by omega)) (a := 598) (i := 76) (show (-1 : Int) ≤ _ ∧ _ ≤ (68 : Int) from by omega)) (a := 598) (i := 77) (show (-9223372036854775808 : Int) ≤ _ ∧ _ ≤ (9223372036854775807 : Int) from by omega)) (RH.o (RH.o (RH.o (RH.o hH_M (by decide) (by decide) (by decide)) (by decide) (by decide) (by decide)) (by decide) (by decide) (by decide)) (by decide) (by decide) (by decide)) (RF.o (RF.o (RF.o (RF.o hS_M (by decide) (by decide)) (by decide) (by decide)) (by decide) (by decide)) (by decide) (by decide))  (fun a i f598 => ((ju_c _ _ f598).trans ((ju_c _ _ f598).trans ((ju_c _ _ f598).trans ((ju_c _ _ f598).trans (hF_M a i f598)))))) (fun i g73 g74 g75 g76 g77 g78 g79 => ((ju_i _ _ g77).trans ((ju_i _ _ g76).trans ((ju_i _ _ g74).trans ((ju_i _ _ g75).trans (hG_M i g73 g74 g75 g76 g77 g78 g79))))))  (by rw [((ju_i _ _ (by decide)).trans ((ju_i _ _ (by decide)).trans ((ju_i _ _ (by decide)).trans ((ju_i _ _ (by decide)).trans e1)))), ((ju_i _ _ (by decide)).trans ((ju_i _ _ (by decide)).trans ((ju_i _ _ (by decide)).trans ((ju_i _ _ (by decide)).trans e2))))] <;> omega) (by rw [((ju_i _ _ (by decide)).trans ((ju_i _ _ (by decide)).trans ((ju_i _ _ (by decide)).trans (ju_same _ _ _ _)))), ((ju_i _ _ (by decide)).trans ((ju_i _ _ (by decide)).trans ((ju_i _ _ (by decide)).trans ((ju_i _ _ (by decide)).trans e1))))] <;> omega) (by omega) (by rw [((ju_i _ _ (by decide)).trans ((ju_i _ _ (by decide)).trans ((ju_i _ _ (by decide)).trans ((ju_i _ _ (by decide)).trans e1)))), ((ju_i _ _ (by decide)).trans ((ju_i _ _ (by decide)).trans ((ju_i _ _ (by decide)).trans (ju_same _ _ _ _)))), ((ju_i _ _ (by decide)).trans ((ju_i _ _ (by decide)).trans ((ju_i _ _ (by decide)).trans ((ju_i _ _ (by decide)).trans e2)))), ((ju_c _ _ (by decide)).trans ((ju_c _ _ (by decide)).trans ((ju_c _ _ (by decide)).trans ((ju_c _ _ (by decide)).trans e3))))]; omega) (TXr.o (TXr.o (TXr.o (TXr.o hT (by decide)) (by decide)) (by decide)) (by decide)) ((((ju_i _ _ (by decide)).trans ((ju_i _ _ (by decide)).trans ((ju_i _ _ (by decide)).trans (ju_same _ _ _ _))))).trans ((show zsp zbl f N v1 = v1 from by first | exact zsp_e (by omega) | exact hT.bn (by omega) (by omega) e3 (by omega)).symm.trans (by rw [← e1]; exact hZ))) (by rw [((ju_i _ _ (by decide)).trans ((ju_i _ _ (by decide)).trans ((ju_i _ _ (by decide)).trans ((ju_i _ _ (by decide)).trans e1)))), ((ju_i _ _ (by decide)).trans ((ju_i _ _ (by decide)).trans ((ju_i _ _ (by decide)).trans (ju_same _ _ _ _))))]) (by rw [(ju_same _ _ _ _), ((ju_i _ _ (by decide)).trans ((ju_i _ _ (by decide)).trans ((ju_i _ _ (by decide)).trans (ju_same _ _ _ _)))), ((ju_i _ _ (by decide)).trans ((ju_i _ _ (by decide)).trans ((ju_i _ _ (by decide)).trans ((ju_i _ _ (by decide)).trans e1)))), show min (v1 - v1) 9 = 0 by omega]; try rfl) (by rw [((ju_i _ _ (by decide)).trans ((ju_i _ _ (by decide)).trans ((ju_i _ _ (by decide)).trans (ju_same _ _ _ _))))]; exact ⟨by omega, zlt_t (by rw [(show f v1 = v3 from by rw [← e3]; exact (hT.2.1 _ (by omega) (by omega)).symm)]; omega)⟩) (by rw [((ju_i _ _ (by decide)).trans ((ju_i _ _ (by decide)).trans ((ju_i _ _ (by decide)).trans (ju_same _ _ _ _))))]; omega) (by rw [((ju_i _ _ (by decide)).trans (ju_same _ _ _ _))] <;> omega) (by rw [((ju_i _ _ (by decide)).trans ((ju_i _ _ (by decide)).trans ((ju_i _ _ (by decide)).trans ((ju_i _ _ (by decide)).trans e1))))]; omega)
        · refine jr.if_eq rfl rfl (by omega) (fun _ => ?_) (fun h => absurd (by decide) h)
          refine jr.iload_n rfl rfl ?_
          refine jr_s rfl rfl (Or.inl rfl) ⟨Nat.le_of_ble_eq_true rfl, Nat.le_of_ble_eq_true rfl⟩ rfl rfl (jc.deep (c_isDigit  (by omega) (fun t255_0 t255_1 => ?_) (fun f255_0 => ?_)) (by decide))
          · refine jr.if_eq rfl rfl (by omega) (fun h => absurd h (by decide)) (fun _ => ?_)
            refine jr.aload_n rfl rfl ?_
            refine jr.lconst (x := 0) rfl (by decide) ?_
            refine jr.putf (i := 78) (x := 0) rfl rfl (by decide) rfl (by decide) rfl rfl rfl rfl rfl ?_
            refine jr.pick [1] rfl rfl ?_
            exact r_next_L266_z q 1600 (ju (ju (ju (ju M 598 75 v1) 598 74 0) 598 76 (-1)) 598 78 0)  (RI.u (RI.u (RI.u (RI.u hI_M (a := 598) (i := 75) (show (0 : Int) ≤ _ ∧ _ ≤ (1600 : Int) from by omega)) (a := 598) (i := 74) (show (0 : Int) ≤ _ ∧ _ ≤ (4 : Int) from by omega)) (a := 598) (i := 76) (show (-1 : Int) ≤ _ ∧ _ ≤ (68 : Int) from by omega)) (a := 598) (i := 78) (show (-9223372036854775808 : Int) ≤ _ ∧ _ ≤ (9223372036854775807 : Int) from by omega)) (RH.o (RH.o (RH.o (RH.o hH_M (by decide) (by decide) (by decide)) (by decide) (by decide) (by decide)) (by decide) (by decide) (by decide)) (by decide) (by decide) (by decide)) (RF.o (RF.o (RF.o (RF.o hS_M (by decide) (by decide)) (by decide) (by decide)) (by decide) (by decide)) (by decide) (by decide))  (fun a i f598 => ((ju_c _ _ f598).trans ((ju_c _ _ f598).trans ((ju_c _ _ f598).trans ((ju_c _ _ f598).trans (hF_M a i f598)))))) (fun i g73 g74 g75 g76 g77 g78 g79 => ((ju_i _ _ g78).trans ((ju_i _ _ g76).trans ((ju_i _ _ g74).trans ((ju_i _ _ g75).trans (hG_M i g73 g74 g75 g76 g77 g78 g79))))))  (by rw [((ju_i _ _ (by decide)).trans ((ju_i _ _ (by decide)).trans ((ju_i _ _ (by decide)).trans ((ju_i _ _ (by decide)).trans e1)))), ((ju_i _ _ (by decide)).trans ((ju_i _ _ (by decide)).trans ((ju_i _ _ (by decide)).trans ((ju_i _ _ (by decide)).trans e2))))] <;> omega) (by rw [((ju_i _ _ (by decide)).trans ((ju_i _ _ (by decide)).trans ((ju_i _ _ (by decide)).trans (ju_same _ _ _ _)))), ((ju_i _ _ (by decide)).trans ((ju_i _ _ (by decide)).trans ((ju_i _ _ (by decide)).trans ((ju_i _ _ (by decide)).trans e1))))] <;> omega) (by omega) (by rw [((ju_i _ _ (by decide)).trans ((ju_i _ _ (by decide)).trans ((ju_i _ _ (by decide)).trans ((ju_i _ _ (by decide)).trans e1)))), ((ju_i _ _ (by decide)).trans ((ju_i _ _ (by decide)).trans ((ju_i _ _ (by decide)).trans (ju_same _ _ _ _)))), ((ju_i _ _ (by decide)).trans ((ju_i _ _ (by decide)).trans ((ju_i _ _ (by decide)).trans ((ju_i _ _ (by decide)).trans e2)))), ((ju_c _ _ (by decide)).trans ((ju_c _ _ (by decide)).trans ((ju_c _ _ (by decide)).trans ((ju_c _ _ (by decide)).trans e3))))]; omega) (TXr.o (TXr.o (TXr.o (TXr.o hT (by decide)) (by decide)) (by decide)) (by decide)) ((((ju_i _ _ (by decide)).trans ((ju_i _ _ (by decide)).trans ((ju_i _ _ (by decide)).trans (ju_same _ _ _ _))))).trans ((show zsp zbl f N v1 = v1 from by first | exact zsp_e (by omega) | exact hT.bn (by omega) (by omega) e3 (by omega)).symm.trans (by rw [← e1]; exact hZ))) (by rw [((ju_i _ _ (by decide)).trans ((ju_i _ _ (by decide)).trans ((ju_i _ _ (by decide)).trans ((ju_i _ _ (by decide)).trans e1)))), ((ju_i _ _ (by decide)).trans ((ju_i _ _ (by decide)).trans ((ju_i _ _ (by decide)).trans (ju_same _ _ _ _))))]) (by rw [(ju_same _ _ _ _), ((ju_i _ _ (by decide)).trans ((ju_i _ _ (by decide)).trans ((ju_i _ _ (by decide)).trans (ju_same _ _ _ _)))), ((ju_i _ _ (by decide)).trans ((ju_i _ _ (by decide)).trans ((ju_i _ _ (by decide)).trans ((ju_i _ _ (by decide)).trans e1)))), show min (v1 - v1) 10 = 0 by omega]; try rfl) (by rw [((ju_i _ _ (by decide)).trans ((ju_i _ _ (by decide)).trans ((ju_i _ _ (by decide)).trans (ju_same _ _ _ _))))]; exact ⟨by omega, zlt_n (by rw [(show f v1 = v3 from by rw [← e3]; exact (hT.2.1 _ (by omega) (by omega)).symm)]; omega), zdg_t (by rw [(show f v1 = v3 from by rw [← e3]; exact (hT.2.1 _ (by omega) (by omega)).symm)]; omega)⟩) (by rw [((ju_i _ _ (by decide)).trans ((ju_i _ _ (by decide)).trans ((ju_i _ _ (by decide)).trans (ju_same _ _ _ _))))]; omega) (by rw [((ju_i _ _ (by decide)).trans ((ju_i _ _ (by decide)).trans ((ju_i _ _ (by decide)).trans ((ju_i _ _ (by decide)).trans e1))))]; omega)
          · refine jr.if_eq rfl rfl (by omega) (fun _ => ?_) (fun h => absurd (by decide) h)
            refine jr.aload_n rfl rfl ?_
            refine jr.dup rfl rfl ?_
            refine jr.getf (i := 73) (x := v1) (v := .int (Int32.ofInt (v1))) rfl rfl (by decide) rfl (by decide) rfl rfl ((ju_i _ _ (by decide)).trans ((ju_i _ _ (by decide)).trans ((ju_i _ _ (by decide)).trans e1))) rfl ?_
            refine jr.iconst rfl ?_
            refine jr.iadd rfl ?_
            refine jr.putf (i := 73) (x := (v1 + 1)) rfl rfl (by decide) rfl (by decide) rfl rfl rfl rfl rfl ?_
            refine jr.aload_n rfl rfl ?_
            refine jr.iload_n rfl rfl ?_
            refine jr.putf (i := 79) (x := v3) rfl rfl (by decide) rfl (by decide) rfl rfl rfl rfl rfl ?_
            refine jr.aload_n rfl rfl ?_
            refine jr.iload_n rfl rfl ?_
            refine jr_s rfl rfl (Or.inl rfl) ⟨Nat.le_of_ble_eq_true rfl, Nat.le_of_ble_eq_true rfl⟩ rfl rfl (jc.deep (r_isSignByte_z (RI.u (RI.u (RI.u (RI.u (RI.u hI_M (a := 598) (i := 75) (show (0 : Int) ≤ _ ∧ _ ≤ (1600 : Int) from by omega)) (a := 598) (i := 74) (show (0 : Int) ≤ _ ∧ _ ≤ (4 : Int) from by omega)) (a := 598) (i := 76) (show (-1 : Int) ≤ _ ∧ _ ≤ (68 : Int) from by omega)) (a := 598) (i := 73) (show (0 : Int) ≤ _ ∧ _ ≤ (1600 : Int) from by omega)) (a := 598) (i := 79) (show (0 : Int) ≤ _ ∧ _ ≤ (255 : Int) from by omega)) (RH.o (RH.o (RH.o (RH.o (RH.o hH_M (by decide) (by decide) (by decide)) (by decide) (by decide) (by decide)) (by decide) (by decide) (by decide)) (by decide) (by decide) (by decide)) (by decide) (by decide) (by decide)) (RF.o (RF.o (RF.o (RF.o (RF.o hS_M (by decide) (by decide)) (by decide) (by decide)) (by decide) (by decide)) (by decide) (by decide)) (by decide) (by decide)) (Kp.rfl _) (by omega)  (fun r4 z4 w4_0 w4_1 => ?_)) (by decide))
            refine jr.if_eq rfl rfl (by omega) (fun h399 => ?_) (fun h399 => ?_)
            · refine jr.iconst rfl ?_
              refine jr.putf (i := 74) (x := 4) rfl rfl (by decide) rfl (by decide) rfl rfl rfl rfl rfl ?_
              have y5 : (ju (ju (ju (ju (ju (ju M 598 75 v1) 598 74 0) 598 76 (-1)) 598 73 (v1 + 1)) 598 79 v3) 598 74 4) 598 72 = v2 := ((ju_i _ _ (by decide)).trans ((ju_i _ _ (by decide)).trans ((ju_i _ _ (by decide)).trans ((ju_i _ _ (by decide)).trans ((ju_i _ _ (by decide)).trans ((ju_i _ _ (by decide)).trans e2))))))
              have y6 : (ju (ju (ju (ju (ju (ju M 598 75 v1) 598 74 0) 598 76 (-1)) 598 73 (v1 + 1)) 598 79 v3) 598 74 4) 598 73 = v1 + 1 := ((ju_i _ _ (by decide)).trans ((ju_i _ _ (by decide)).trans (ju_same _ _ _ _)))
              have y7 : (ju (ju (ju (ju (ju (ju M 598 75 v1) 598 74 0) 598 76 (-1)) 598 73 (v1 + 1)) 598 79 v3) 598 74 4) 598 74 = 4 := (ju_same _ _ _ _)
              have y8 : (ju (ju (ju (ju (ju (ju M 598 75 v1) 598 74 0) 598 76 (-1)) 598 73 (v1 + 1)) 598 79 v3) 598 74 4) 598 79 = v3 := ((ju_i _ _ (by decide)).trans (ju_same _ _ _ _))
              exact jr.vreturn rfl rfl (q _ (RI.u (RI.u (RI.u (RI.u (RI.u (RI.u hI_M (a := 598) (i := 75) (show (0 : Int) ≤ _ ∧ _ ≤ (1600 : Int) from by omega)) (a := 598) (i := 74) (show (0 : Int) ≤ _ ∧ _ ≤ (4 : Int) from by omega)) (a := 598) (i := 76) (show (-1 : Int) ≤ _ ∧ _ ≤ (68 : Int) from by omega)) (a := 598) (i := 73) (show (0 : Int) ≤ _ ∧ _ ≤ (1600 : Int) from by omega)) (a := 598) (i := 79) (show (0 : Int) ≤ _ ∧ _ ≤ (255 : Int) from by omega)) (a := 598) (i := 74) (show (0 : Int) ≤ _ ∧ _ ≤ (4 : Int) from by omega)) (RH.o (RH.o (RH.o (RH.o (RH.o (RH.o hH_M (by decide) (by decide) (by decide)) (by decide) (by decide) (by decide)) (by decide) (by decide) (by decide)) (by decide) (by decide) (by decide)) (by decide) (by decide) (by decide)) (by decide) (by decide) (by decide)) (RF.o (RF.o (RF.o (RF.o (RF.o (RF.o hS_M (by decide) (by decide)) (by decide) (by decide)) (by decide) (by decide)) (by decide) (by decide)) (by decide) (by decide)) (by decide) (by decide))  (by omega) (by omega) (by unfold TK; omega) (fun q => by unfold TK; omega) (by omega) (TKr.cast (TKr.s (v := v1) (c := v3) (TXr.o (TXr.o (TXr.o (TXr.o (TXr.o (TXr.o hT (by decide)) (by decide)) (by decide)) (by decide)) (by decide)) (by decide)) (by omega) (by omega) (show f v1 = v3 from by rw [← e3]; exact (hT.2.1 _ (by omega) (by omega)).symm) (by omega) (by omega) ((ju_i _ _ (by decide)).trans ((ju_i _ _ (by decide)).trans ((ju_i _ _ (by decide)).trans ((ju_i _ _ (by decide)).trans ((ju_i _ _ (by decide)).trans (ju_same _ _ _ _)))))) ((ju_i _ _ (by decide)).trans ((ju_i _ _ (by decide)).trans (ju_same _ _ _ _))) ((ju_i _ _ (by decide)).trans (ju_same _ _ _ _)) (by rw [(ju_same _ _ _ _)]; first | exact (if_pos (Decidable.byContradiction (fun z => by have q := w4_0; rw [if_neg z] at q; omega))).symm | exact (if_neg (fun z => by have q := w4_0; rw [if_pos z] at q; omega)).symm)) ((((ju_i _ _ (by decide)).trans ((ju_i _ _ (by decide)).trans ((ju_i _ _ (by decide)).trans ((ju_i _ _ (by decide)).trans ((ju_i _ _ (by decide)).trans (ju_same _ _ _ _))))))).trans ((show zsp zbl f N v1 = v1 from by first | exact zsp_e (by omega) | exact hT.bn (by omega) (by omega) e3 (by omega)).symm.trans (by rw [← e1]; exact hZ)))) (fun a i f598 => ((ju_c _ _ f598).trans ((ju_c _ _ f598).trans ((ju_c _ _ f598).trans ((ju_c _ _ f598).trans ((ju_c _ _ f598).trans ((ju_c _ _ f598).trans (hF_M a i f598)))))))) (fun i g73 g74 g75 g76 g77 g78 g79 => ((ju_i _ _ g74).trans ((ju_i _ _ g79).trans ((ju_i _ _ g73).trans ((ju_i _ _ g76).trans ((ju_i _ _ g74).trans ((ju_i _ _ g75).trans (hG_M i g73 g74 g75 g76 g77 g78 g79)))))))))
            · refine jr.iconst rfl ?_
              refine jr.goto rfl rfl ?_
              refine jr.putf (i := 74) (x := 3) rfl rfl (by decide) rfl (by decide) rfl rfl rfl rfl rfl ?_
              have y9 : (ju (ju (ju (ju (ju (ju M 598 75 v1) 598 74 0) 598 76 (-1)) 598 73 (v1 + 1)) 598 79 v3) 598 74 3) 598 72 = v2 := ((ju_i _ _ (by decide)).trans ((ju_i _ _ (by decide)).trans ((ju_i _ _ (by decide)).trans ((ju_i _ _ (by decide)).trans ((ju_i _ _ (by decide)).trans ((ju_i _ _ (by decide)).trans e2))))))
              have y10 : (ju (ju (ju (ju (ju (ju M 598 75 v1) 598 74 0) 598 76 (-1)) 598 73 (v1 + 1)) 598 79 v3) 598 74 3) 598 73 = v1 + 1 := ((ju_i _ _ (by decide)).trans ((ju_i _ _ (by decide)).trans (ju_same _ _ _ _)))
              have y11 : (ju (ju (ju (ju (ju (ju M 598 75 v1) 598 74 0) 598 76 (-1)) 598 73 (v1 + 1)) 598 79 v3) 598 74 3) 598 74 = 3 := (ju_same _ _ _ _)
              have y12 : (ju (ju (ju (ju (ju (ju M 598 75 v1) 598 74 0) 598 76 (-1)) 598 73 (v1 + 1)) 598 79 v3) 598 74 3) 598 79 = v3 := ((ju_i _ _ (by decide)).trans (ju_same _ _ _ _))
              exact jr.vreturn rfl rfl (q _ (RI.u (RI.u (RI.u (RI.u (RI.u (RI.u hI_M (a := 598) (i := 75) (show (0 : Int) ≤ _ ∧ _ ≤ (1600 : Int) from by omega)) (a := 598) (i := 74) (show (0 : Int) ≤ _ ∧ _ ≤ (4 : Int) from by omega)) (a := 598) (i := 76) (show (-1 : Int) ≤ _ ∧ _ ≤ (68 : Int) from by omega)) (a := 598) (i := 73) (show (0 : Int) ≤ _ ∧ _ ≤ (1600 : Int) from by omega)) (a := 598) (i := 79) (show (0 : Int) ≤ _ ∧ _ ≤ (255 : Int) from by omega)) (a := 598) (i := 74) (show (0 : Int) ≤ _ ∧ _ ≤ (4 : Int) from by omega)) (RH.o (RH.o (RH.o (RH.o (RH.o (RH.o hH_M (by decide) (by decide) (by decide)) (by decide) (by decide) (by decide)) (by decide) (by decide) (by decide)) (by decide) (by decide) (by decide)) (by decide) (by decide) (by decide)) (by decide) (by decide) (by decide)) (RF.o (RF.o (RF.o (RF.o (RF.o (RF.o hS_M (by decide) (by decide)) (by decide) (by decide)) (by decide) (by decide)) (by decide) (by decide)) (by decide) (by decide)) (by decide) (by decide))  (by omega) (by omega) (by unfold TK; omega) (fun q => by unfold TK; omega) (by omega) (TKr.cast (TKr.s (v := v1) (c := v3) (TXr.o (TXr.o (TXr.o (TXr.o (TXr.o (TXr.o hT (by decide)) (by decide)) (by decide)) (by decide)) (by decide)) (by decide)) (by omega) (by omega) (show f v1 = v3 from by rw [← e3]; exact (hT.2.1 _ (by omega) (by omega)).symm) (by omega) (by omega) ((ju_i _ _ (by decide)).trans ((ju_i _ _ (by decide)).trans ((ju_i _ _ (by decide)).trans ((ju_i _ _ (by decide)).trans ((ju_i _ _ (by decide)).trans (ju_same _ _ _ _)))))) ((ju_i _ _ (by decide)).trans ((ju_i _ _ (by decide)).trans (ju_same _ _ _ _))) ((ju_i _ _ (by decide)).trans (ju_same _ _ _ _)) (by rw [(ju_same _ _ _ _)]; first | exact (if_pos (Decidable.byContradiction (fun z => by have q := w4_0; rw [if_neg z] at q; omega))).symm | exact (if_neg (fun z => by have q := w4_0; rw [if_pos z] at q; omega)).symm)) ((((ju_i _ _ (by decide)).trans ((ju_i _ _ (by decide)).trans ((ju_i _ _ (by decide)).trans ((ju_i _ _ (by decide)).trans ((ju_i _ _ (by decide)).trans (ju_same _ _ _ _))))))).trans ((show zsp zbl f N v1 = v1 from by first | exact zsp_e (by omega) | exact hT.bn (by omega) (by omega) e3 (by omega)).symm.trans (by rw [← e1]; exact hZ)))) (fun a i f598 => ((ju_c _ _ f598).trans ((ju_c _ _ f598).trans ((ju_c _ _ f598).trans ((ju_c _ _ f598).trans ((ju_c _ _ f598).trans ((ju_c _ _ f598).trans (hF_M a i f598)))))))) (fun i g73 g74 g75 g76 g77 g78 g79 => ((ju_i _ _ g74).trans ((ju_i _ _ g79).trans ((ju_i _ _ g73).trans ((ju_i _ _ g76).trans ((ju_i _ _ g74).trans ((ju_i _ _ g75).trans (hG_M i g73 g74 g75 g76 g77 g78 g79)))))))))
      · have y13 : (ju (ju (ju M 598 75 v1) 598 74 0) 598 76 (-1)) 598 72 = v2 := ((ju_i _ _ (by decide)).trans ((ju_i _ _ (by decide)).trans ((ju_i _ _ (by decide)).trans e2)))
        have y14 : (ju (ju (ju M 598 75 v1) 598 74 0) 598 76 (-1)) 598 73 = v1 := ((ju_i _ _ (by decide)).trans ((ju_i _ _ (by decide)).trans ((ju_i _ _ (by decide)).trans e1)))
        have y15 : (ju (ju (ju M 598 75 v1) 598 74 0) 598 76 (-1)) 598 74 = 0 := ((ju_i _ _ (by decide)).trans (ju_same _ _ _ _))
        obtain ⟨v16, e16⟩ : ∃ z, M 598 79 = z := ⟨_, rfl⟩
        have b16 : 0 ≤ v16 ∧ v16 ≤ 255 := by rw [← e16]; exact hI_M 598 79 (by decide)
        have y17 : (ju (ju (ju M 598 75 v1) 598 74 0) 598 76 (-1)) 598 79 = v16 := ((ju_i _ _ (by decide)).trans ((ju_i _ _ (by decide)).trans ((ju_i _ _ (by decide)).trans e16)))
        exact jr.vreturn rfl rfl (q _ (RI.u (RI.u (RI.u hI_M (a := 598) (i := 75) (show (0 : Int) ≤ _ ∧ _ ≤ (1600 : Int) from by omega)) (a := 598) (i := 74) (show (0 : Int) ≤ _ ∧ _ ≤ (4 : Int) from by omega)) (a := 598) (i := 76) (show (-1 : Int) ≤ _ ∧ _ ≤ (68 : Int) from by omega)) (RH.o (RH.o (RH.o hH_M (by decide) (by decide) (by decide)) (by decide) (by decide) (by decide)) (by decide) (by decide) (by decide)) (RF.o (RF.o (RF.o hS_M (by decide) (by decide)) (by decide) (by decide)) (by decide) (by decide))  (by omega) (by omega) (by unfold TK; omega) (fun q => by unfold TK; omega) (by omega) (TKr.cast (TKr.e (TXr.o (TXr.o (TXr.o hT (by decide)) (by decide)) (by decide)) ((ju_i _ _ (by decide)).trans ((ju_i _ _ (by decide)).trans (ju_same _ _ _ _))) ((ju_i _ _ (by decide)).trans ((ju_i _ _ (by decide)).trans ((ju_i _ _ (by decide)).trans e1))) ((ju_i _ _ (by decide)).trans (ju_same _ _ _ _)) (by omega) (by omega)) ((((ju_i _ _ (by decide)).trans ((ju_i _ _ (by decide)).trans (ju_same _ _ _ _)))).trans ((show zsp zbl f N v1 = v1 from by first | exact zsp_e (by omega) | omega).symm.trans (by rw [← e1]; exact hZ)))) (fun a i f598 => ((ju_c _ _ f598).trans ((ju_c _ _ f598).trans ((ju_c _ _ f598).trans (hF_M a i f598))))) (fun i g73 g74 g75 g76 g77 g78 g79 => ((ju_i _ _ g76).trans ((ju_i _ _ g74).trans ((ju_i _ _ g75).trans (hG_M i g73 g74 g75 g76 g77 g78 g79))))))
    · refine jr.aload_n rfl rfl ?_
      refine jr.getf (i := 71) (v := .ref 651) rfl rfl (by decide) rfl (by decide) rfl rfl rfl rfl ?_
      refine jr.aload_n rfl rfl ?_
      refine jr.getf (i := 73) (x := v1) (v := .int (Int32.ofInt (v1))) rfl rfl (by decide) rfl (by decide) rfl rfl e1 rfl ?_
      obtain ⟨v18, e18⟩ : ∃ z, M 651 v1 = z := ⟨_, rfl⟩
      have b18 : 0 ≤ v18 ∧ v18 ≤ 255 := by rw [← e18]; exact (by have q := hI_M 651 v1 (by decide); rw [xri_row rfl rfl] at q; exact q)
      refine jr.iald (i := v1) (x := v18) rfl (by decide) rfl (by decide) (by omega) (by omega) e18 ?_
      refine jr.bipush rfl (by decide) ?_
      refine jr.icmp_eq rfl rfl (by omega) (by omega) (fun h22 => ?_) (fun h22 => ?_)
      · refine jr.aload_n rfl rfl ?_
        refine jr.dup rfl rfl ?_
        refine jr.getf (i := 73) (x := v1) (v := .int (Int32.ofInt (v1))) rfl rfl (by decide) rfl (by decide) rfl rfl e1 rfl ?_
        refine jr.iconst rfl ?_
        refine jr.iadd rfl ?_
        refine jr.putf (i := 73) (x := (v1 + 1)) rfl rfl (by decide) rfl (by decide) rfl rfl rfl rfl rfl ?_
        refine jr.goto rfl rfl ?_
        refine jr.pick [0] rfl rfl ?_
        exact ih (nM - 1) (by omega) (ju M 598 73 (v1 + 1))  (RI.u hI_M (a := 598) (i := 73) (show (0 : Int) ≤ _ ∧ _ ≤ (1600 : Int) from by omega)) (RH.o hH_M (by decide) (by decide) (by decide)) (RF.o hS_M (by decide) (by decide))  (fun a i f598 => ((ju_c _ _ f598).trans (hF_M a i f598))) (fun i g73 g74 g75 g76 g77 g78 g79 => ((ju_i _ _ g73).trans (hG_M i g73 g74 g75 g76 g77 g78 g79)))  (by rw [(ju_same _ _ _ _), ((ju_i _ _ (by decide)).trans e2)] <;> omega) (by rw [(ju_same _ _ _ _)] <;> omega) (by omega) (TXr.o hT (by decide)) (by rw [(ju_same _ _ _ _)]; exact (hT.bl (by omega) (by omega) e18 (by omega)).symm.trans (by rw [← e1]; exact hZ)) (by rw [(ju_same _ _ _ _)]; omega)
      · refine jr.aload_n rfl rfl ?_
        refine jr.getf (i := 71) (v := .ref 651) rfl rfl (by decide) rfl (by decide) rfl rfl rfl rfl ?_
        refine jr.aload_n rfl rfl ?_
        refine jr.getf (i := 73) (x := v1) (v := .int (Int32.ofInt (v1))) rfl rfl (by decide) rfl (by decide) rfl rfl e1 rfl ?_
        refine jr.iald (i := v1) (x := v18) rfl (by decide) rfl (by decide) (by omega) (by omega) e18 ?_
        refine jr.bipush rfl (by decide) ?_
        refine jr.icmp_ne rfl rfl (by omega) (by omega) (fun h36 => ?_) (fun h36 => ?_)
        · refine jr.aload_n rfl rfl ?_
          refine jr.aload_n rfl rfl ?_
          refine jr.getf (i := 73) (x := v1) (v := .int (Int32.ofInt (v1))) rfl rfl (by decide) rfl (by decide) rfl rfl e1 rfl ?_
          refine jr.putf (i := 75) (x := v1) rfl rfl (by decide) rfl (by decide) rfl rfl rfl rfl rfl ?_
          refine jr.aload_n rfl rfl ?_
          refine jr.iconst rfl ?_
          refine jr.putf (i := 74) (x := 0) rfl rfl (by decide) rfl (by decide) rfl rfl rfl rfl rfl ?_
          refine jr.aload_n rfl rfl ?_
          refine jr.iconst rfl ?_
          refine jr.putf (i := 76) (x := (-1)) rfl rfl (by decide) rfl (by decide) rfl rfl rfl rfl rfl ?_
          refine jr.aload_n rfl rfl ?_
          refine jr.getf (i := 73) (x := v1) (v := .int (Int32.ofInt (v1))) rfl rfl (by decide) rfl (by decide) rfl rfl ((ju_i _ _ (by decide)).trans ((ju_i _ _ (by decide)).trans ((ju_i _ _ (by decide)).trans e1))) rfl ?_
          refine jr.aload_n rfl rfl ?_
          refine jr.getf (i := 72) (x := v2) (v := .int (Int32.ofInt (v2))) rfl rfl (by decide) rfl (by decide) rfl rfl ((ju_i _ _ (by decide)).trans ((ju_i _ _ (by decide)).trans ((ju_i _ _ (by decide)).trans e2))) rfl ?_
          refine jr.icmp_ne rfl rfl (by omega) (by omega) (fun h78 => ?_) (fun h78 => ?_)
          · refine jr.aload_n rfl rfl ?_
            refine jr.getf (i := 71) (v := .ref 651) rfl rfl (by decide) rfl (by decide) rfl rfl rfl rfl ?_
            refine jr.aload_n rfl rfl ?_
            refine jr.getf (i := 73) (x := v1) (v := .int (Int32.ofInt (v1))) rfl rfl (by decide) rfl (by decide) rfl rfl ((ju_i _ _ (by decide)).trans ((ju_i _ _ (by decide)).trans ((ju_i _ _ (by decide)).trans e1))) rfl ?_
            refine jr.iald (i := v1) (x := v18) rfl (by decide) rfl (by decide) (by omega) (by omega) ((ju_c _ _ (by decide)).trans ((ju_c _ _ (by decide)).trans ((ju_c _ _ (by decide)).trans e18))) ?_
            refine jr.istore_n rfl (by decide) rfl ?_
            refine jr.iload_n rfl rfl ?_
            refine jr_s rfl rfl (Or.inl rfl) ⟨Nat.le_of_ble_eq_true rfl, Nat.le_of_ble_eq_true rfl⟩ rfl rfl (jc.deep (c_isLetter  (by omega) (fun t93_0 t93_1 => ?_) (fun f93_0 => ?_)) (by decide))
            · refine jr.if_eq rfl rfl (by omega) (fun h => absurd h (by decide)) (fun _ => ?_)
              refine jr.aload_n rfl rfl ?_
              refine jr.lconst (x := 0) rfl (by decide) ?_
              refine jr.putf (i := 77) (x := 0) rfl rfl (by decide) rfl (by decide) rfl rfl rfl rfl rfl ?_
              refine jr.pick [1] rfl rfl ?_
              exact r_next_L104_z q 1600 (ju (ju (ju (ju M 598 75 v1) 598 74 0) 598 76 (-1)) 598 77 0)  (RI.u (RI.u (RI.u (RI.u hI_M (a := 598) (i := 75) (show (0 : Int) ≤ _ ∧ _ ≤ (1600 : Int) from by omega)) (a := 598) (i := 74) (show (0 : Int) ≤ _ ∧ _ ≤ (4 : Int) from by omega)) (a := 598) (i := 76) (show (-1 : Int) ≤ _ ∧ _ ≤ (68 : Int) from by omega)) (a := 598) (i := 77) (show (-9223372036854775808 : Int) ≤ _ ∧ _ ≤ (9223372036854775807 : Int) from by omega)) (RH.o (RH.o (RH.o (RH.o hH_M (by decide) (by decide) (by decide)) (by decide) (by decide) (by decide)) (by decide) (by decide) (by decide)) (by decide) (by decide) (by decide)) (RF.o (RF.o (RF.o (RF.o hS_M (by decide) (by decide)) (by decide) (by decide)) (by decide) (by decide)) (by decide) (by decide))  (fun a i f598 => ((ju_c _ _ f598).trans ((ju_c _ _ f598).trans ((ju_c _ _ f598).trans ((ju_c _ _ f598).trans (hF_M a i f598)))))) (fun i g73 g74 g75 g76 g77 g78 g79 => ((ju_i _ _ g77).trans ((ju_i _ _ g76).trans ((ju_i _ _ g74).trans ((ju_i _ _ g75).trans (hG_M i g73 g74 g75 g76 g77 g78 g79))))))  (by rw [((ju_i _ _ (by decide)).trans ((ju_i _ _ (by decide)).trans ((ju_i _ _ (by decide)).trans ((ju_i _ _ (by decide)).trans e1)))), ((ju_i _ _ (by decide)).trans ((ju_i _ _ (by decide)).trans ((ju_i _ _ (by decide)).trans ((ju_i _ _ (by decide)).trans e2))))] <;> omega) (by rw [((ju_i _ _ (by decide)).trans ((ju_i _ _ (by decide)).trans ((ju_i _ _ (by decide)).trans (ju_same _ _ _ _)))), ((ju_i _ _ (by decide)).trans ((ju_i _ _ (by decide)).trans ((ju_i _ _ (by decide)).trans ((ju_i _ _ (by decide)).trans e1))))] <;> omega) (by omega) (by rw [((ju_i _ _ (by decide)).trans ((ju_i _ _ (by decide)).trans ((ju_i _ _ (by decide)).trans ((ju_i _ _ (by decide)).trans e1)))), ((ju_i _ _ (by decide)).trans ((ju_i _ _ (by decide)).trans ((ju_i _ _ (by decide)).trans (ju_same _ _ _ _)))), ((ju_i _ _ (by decide)).trans ((ju_i _ _ (by decide)).trans ((ju_i _ _ (by decide)).trans ((ju_i _ _ (by decide)).trans e2)))), ((ju_c _ _ (by decide)).trans ((ju_c _ _ (by decide)).trans ((ju_c _ _ (by decide)).trans ((ju_c _ _ (by decide)).trans e18))))]; omega) (TXr.o (TXr.o (TXr.o (TXr.o hT (by decide)) (by decide)) (by decide)) (by decide)) ((((ju_i _ _ (by decide)).trans ((ju_i _ _ (by decide)).trans ((ju_i _ _ (by decide)).trans (ju_same _ _ _ _))))).trans ((show zsp zbl f N v1 = v1 from by first | exact zsp_e (by omega) | exact hT.bn (by omega) (by omega) e18 (by omega)).symm.trans (by rw [← e1]; exact hZ))) (by rw [((ju_i _ _ (by decide)).trans ((ju_i _ _ (by decide)).trans ((ju_i _ _ (by decide)).trans ((ju_i _ _ (by decide)).trans e1)))), ((ju_i _ _ (by decide)).trans ((ju_i _ _ (by decide)).trans ((ju_i _ _ (by decide)).trans (ju_same _ _ _ _))))]) (by rw [(ju_same _ _ _ _), ((ju_i _ _ (by decide)).trans ((ju_i _ _ (by decide)).trans ((ju_i _ _ (by decide)).trans (ju_same _ _ _ _)))), ((ju_i _ _ (by decide)).trans ((ju_i _ _ (by decide)).trans ((ju_i _ _ (by decide)).trans ((ju_i _ _ (by decide)).trans e1)))), show min (v1 - v1) 9 = 0 by omega]; try rfl) (by rw [((ju_i _ _ (by decide)).trans ((ju_i _ _ (by decide)).trans ((ju_i _ _ (by decide)).trans (ju_same _ _ _ _))))]; exact ⟨by omega, zlt_t (by rw [(show f v1 = v18 from by rw [← e18]; exact (hT.2.1 _ (by omega) (by omega)).symm)]; omega)⟩) (by rw [((ju_i _ _ (by decide)).trans ((ju_i _ _ (by decide)).trans ((ju_i _ _ (by decide)).trans (ju_same _ _ _ _))))]; omega) (by rw [((ju_i _ _ (by decide)).trans (ju_same _ _ _ _))] <;> omega) (by rw [((ju_i _ _ (by decide)).trans ((ju_i _ _ (by decide)).trans ((ju_i _ _ (by decide)).trans ((ju_i _ _ (by decide)).trans e1))))]; omega)
            · refine jr.if_eq rfl rfl (by omega) (fun _ => ?_) (fun h => absurd (by decide) h)
              refine jr.iload_n rfl rfl ?_
              refine jr_s rfl rfl (Or.inl rfl) ⟨Nat.le_of_ble_eq_true rfl, Nat.le_of_ble_eq_true rfl⟩ rfl rfl (jc.deep (c_isDigit  (by omega) (fun t255_0 t255_1 => ?_) (fun f255_0 => ?_)) (by decide))
              · refine jr.if_eq rfl rfl (by omega) (fun h => absurd h (by decide)) (fun _ => ?_)
                refine jr.aload_n rfl rfl ?_
                refine jr.lconst (x := 0) rfl (by decide) ?_
                refine jr.putf (i := 78) (x := 0) rfl rfl (by decide) rfl (by decide) rfl rfl rfl rfl rfl ?_
                refine jr.pick [1] rfl rfl ?_
                exact r_next_L266_z q 1600 (ju (ju (ju (ju M 598 75 v1) 598 74 0) 598 76 (-1)) 598 78 0)  (RI.u (RI.u (RI.u (RI.u hI_M (a := 598) (i := 75) (show (0 : Int) ≤ _ ∧ _ ≤ (1600 : Int) from by omega)) (a := 598) (i := 74) (show (0 : Int) ≤ _ ∧ _ ≤ (4 : Int) from by omega)) (a := 598) (i := 76) (show (-1 : Int) ≤ _ ∧ _ ≤ (68 : Int) from by omega)) (a := 598) (i := 78) (show (-9223372036854775808 : Int) ≤ _ ∧ _ ≤ (9223372036854775807 : Int) from by omega)) (RH.o (RH.o (RH.o (RH.o hH_M (by decide) (by decide) (by decide)) (by decide) (by decide) (by decide)) (by decide) (by decide) (by decide)) (by decide) (by decide) (by decide)) (RF.o (RF.o (RF.o (RF.o hS_M (by decide) (by decide)) (by decide) (by decide)) (by decide) (by decide)) (by decide) (by decide))  (fun a i f598 => ((ju_c _ _ f598).trans ((ju_c _ _ f598).trans ((ju_c _ _ f598).trans ((ju_c _ _ f598).trans (hF_M a i f598)))))) (fun i g73 g74 g75 g76 g77 g78 g79 => ((ju_i _ _ g78).trans ((ju_i _ _ g76).trans ((ju_i _ _ g74).trans ((ju_i _ _ g75).trans (hG_M i g73 g74 g75 g76 g77 g78 g79))))))  (by rw [((ju_i _ _ (by decide)).trans ((ju_i _ _ (by decide)).trans ((ju_i _ _ (by decide)).trans ((ju_i _ _ (by decide)).trans e1)))), ((ju_i _ _ (by decide)).trans ((ju_i _ _ (by decide)).trans ((ju_i _ _ (by decide)).trans ((ju_i _ _ (by decide)).trans e2))))] <;> omega) (by rw [((ju_i _ _ (by decide)).trans ((ju_i _ _ (by decide)).trans ((ju_i _ _ (by decide)).trans (ju_same _ _ _ _)))), ((ju_i _ _ (by decide)).trans ((ju_i _ _ (by decide)).trans ((ju_i _ _ (by decide)).trans ((ju_i _ _ (by decide)).trans e1))))] <;> omega) (by omega) (by rw [((ju_i _ _ (by decide)).trans ((ju_i _ _ (by decide)).trans ((ju_i _ _ (by decide)).trans ((ju_i _ _ (by decide)).trans e1)))), ((ju_i _ _ (by decide)).trans ((ju_i _ _ (by decide)).trans ((ju_i _ _ (by decide)).trans (ju_same _ _ _ _)))), ((ju_i _ _ (by decide)).trans ((ju_i _ _ (by decide)).trans ((ju_i _ _ (by decide)).trans ((ju_i _ _ (by decide)).trans e2)))), ((ju_c _ _ (by decide)).trans ((ju_c _ _ (by decide)).trans ((ju_c _ _ (by decide)).trans ((ju_c _ _ (by decide)).trans e18))))]; omega) (TXr.o (TXr.o (TXr.o (TXr.o hT (by decide)) (by decide)) (by decide)) (by decide)) ((((ju_i _ _ (by decide)).trans ((ju_i _ _ (by decide)).trans ((ju_i _ _ (by decide)).trans (ju_same _ _ _ _))))).trans ((show zsp zbl f N v1 = v1 from by first | exact zsp_e (by omega) | exact hT.bn (by omega) (by omega) e18 (by omega)).symm.trans (by rw [← e1]; exact hZ))) (by rw [((ju_i _ _ (by decide)).trans ((ju_i _ _ (by decide)).trans ((ju_i _ _ (by decide)).trans ((ju_i _ _ (by decide)).trans e1)))), ((ju_i _ _ (by decide)).trans ((ju_i _ _ (by decide)).trans ((ju_i _ _ (by decide)).trans (ju_same _ _ _ _))))]) (by rw [(ju_same _ _ _ _), ((ju_i _ _ (by decide)).trans ((ju_i _ _ (by decide)).trans ((ju_i _ _ (by decide)).trans (ju_same _ _ _ _)))), ((ju_i _ _ (by decide)).trans ((ju_i _ _ (by decide)).trans ((ju_i _ _ (by decide)).trans ((ju_i _ _ (by decide)).trans e1)))), show min (v1 - v1) 10 = 0 by omega]; try rfl) (by rw [((ju_i _ _ (by decide)).trans ((ju_i _ _ (by decide)).trans ((ju_i _ _ (by decide)).trans (ju_same _ _ _ _))))]; exact ⟨by omega, zlt_n (by rw [(show f v1 = v18 from by rw [← e18]; exact (hT.2.1 _ (by omega) (by omega)).symm)]; omega), zdg_t (by rw [(show f v1 = v18 from by rw [← e18]; exact (hT.2.1 _ (by omega) (by omega)).symm)]; omega)⟩) (by rw [((ju_i _ _ (by decide)).trans ((ju_i _ _ (by decide)).trans ((ju_i _ _ (by decide)).trans (ju_same _ _ _ _))))]; omega) (by rw [((ju_i _ _ (by decide)).trans ((ju_i _ _ (by decide)).trans ((ju_i _ _ (by decide)).trans ((ju_i _ _ (by decide)).trans e1))))]; omega)
              · refine jr.if_eq rfl rfl (by omega) (fun _ => ?_) (fun h => absurd (by decide) h)
                refine jr.aload_n rfl rfl ?_
                refine jr.dup rfl rfl ?_
                refine jr.getf (i := 73) (x := v1) (v := .int (Int32.ofInt (v1))) rfl rfl (by decide) rfl (by decide) rfl rfl ((ju_i _ _ (by decide)).trans ((ju_i _ _ (by decide)).trans ((ju_i _ _ (by decide)).trans e1))) rfl ?_
                refine jr.iconst rfl ?_
                refine jr.iadd rfl ?_
                refine jr.putf (i := 73) (x := (v1 + 1)) rfl rfl (by decide) rfl (by decide) rfl rfl rfl rfl rfl ?_
                refine jr.aload_n rfl rfl ?_
                refine jr.iload_n rfl rfl ?_
                refine jr.putf (i := 79) (x := v18) rfl rfl (by decide) rfl (by decide) rfl rfl rfl rfl rfl ?_
                refine jr.aload_n rfl rfl ?_
                refine jr.iload_n rfl rfl ?_
                refine jr_s rfl rfl (Or.inl rfl) ⟨Nat.le_of_ble_eq_true rfl, Nat.le_of_ble_eq_true rfl⟩ rfl rfl (jc.deep (r_isSignByte_z (RI.u (RI.u (RI.u (RI.u (RI.u hI_M (a := 598) (i := 75) (show (0 : Int) ≤ _ ∧ _ ≤ (1600 : Int) from by omega)) (a := 598) (i := 74) (show (0 : Int) ≤ _ ∧ _ ≤ (4 : Int) from by omega)) (a := 598) (i := 76) (show (-1 : Int) ≤ _ ∧ _ ≤ (68 : Int) from by omega)) (a := 598) (i := 73) (show (0 : Int) ≤ _ ∧ _ ≤ (1600 : Int) from by omega)) (a := 598) (i := 79) (show (0 : Int) ≤ _ ∧ _ ≤ (255 : Int) from by omega)) (RH.o (RH.o (RH.o (RH.o (RH.o hH_M (by decide) (by decide) (by decide)) (by decide) (by decide) (by decide)) (by decide) (by decide) (by decide)) (by decide) (by decide) (by decide)) (by decide) (by decide) (by decide)) (RF.o (RF.o (RF.o (RF.o (RF.o hS_M (by decide) (by decide)) (by decide) (by decide)) (by decide) (by decide)) (by decide) (by decide)) (by decide) (by decide)) (Kp.rfl _) (by omega)  (fun r19 z19 w19_0 w19_1 => ?_)) (by decide))
                refine jr.if_eq rfl rfl (by omega) (fun h399 => ?_) (fun h399 => ?_)
                · refine jr.iconst rfl ?_
                  refine jr.putf (i := 74) (x := 4) rfl rfl (by decide) rfl (by decide) rfl rfl rfl rfl rfl ?_
                  have y20 : (ju (ju (ju (ju (ju (ju M 598 75 v1) 598 74 0) 598 76 (-1)) 598 73 (v1 + 1)) 598 79 v18) 598 74 4) 598 72 = v2 := ((ju_i _ _ (by decide)).trans ((ju_i _ _ (by decide)).trans ((ju_i _ _ (by decide)).trans ((ju_i _ _ (by decide)).trans ((ju_i _ _ (by decide)).trans ((ju_i _ _ (by decide)).trans e2))))))
                  have y21 : (ju (ju (ju (ju (ju (ju M 598 75 v1) 598 74 0) 598 76 (-1)) 598 73 (v1 + 1)) 598 79 v18) 598 74 4) 598 73 = v1 + 1 := ((ju_i _ _ (by decide)).trans ((ju_i _ _ (by decide)).trans (ju_same _ _ _ _)))
                  have y22 : (ju (ju (ju (ju (ju (ju M 598 75 v1) 598 74 0) 598 76 (-1)) 598 73 (v1 + 1)) 598 79 v18) 598 74 4) 598 74 = 4 := (ju_same _ _ _ _)
                  have y23 : (ju (ju (ju (ju (ju (ju M 598 75 v1) 598 74 0) 598 76 (-1)) 598 73 (v1 + 1)) 598 79 v18) 598 74 4) 598 79 = v18 := ((ju_i _ _ (by decide)).trans (ju_same _ _ _ _))
                  exact jr.vreturn rfl rfl (q _ (RI.u (RI.u (RI.u (RI.u (RI.u (RI.u hI_M (a := 598) (i := 75) (show (0 : Int) ≤ _ ∧ _ ≤ (1600 : Int) from by omega)) (a := 598) (i := 74) (show (0 : Int) ≤ _ ∧ _ ≤ (4 : Int) from by omega)) (a := 598) (i := 76) (show (-1 : Int) ≤ _ ∧ _ ≤ (68 : Int) from by omega)) (a := 598) (i := 73) (show (0 : Int) ≤ _ ∧ _ ≤ (1600 : Int) from by omega)) (a := 598) (i := 79) (show (0 : Int) ≤ _ ∧ _ ≤ (255 : Int) from by omega)) (a := 598) (i := 74) (show (0 : Int) ≤ _ ∧ _ ≤ (4 : Int) from by omega)) (RH.o (RH.o (RH.o (RH.o (RH.o (RH.o hH_M (by decide) (by decide) (by decide)) (by decide) (by decide) (by decide)) (by decide) (by decide) (by decide)) (by decide) (by decide) (by decide)) (by decide) (by decide) (by decide)) (by decide) (by decide) (by decide)) (RF.o (RF.o (RF.o (RF.o (RF.o (RF.o hS_M (by decide) (by decide)) (by decide) (by decide)) (by decide) (by decide)) (by decide) (by decide)) (by decide) (by decide)) (by decide) (by decide))  (by omega) (by omega) (by unfold TK; omega) (fun q => by unfold TK; omega) (by omega) (TKr.cast (TKr.s (v := v1) (c := v18) (TXr.o (TXr.o (TXr.o (TXr.o (TXr.o (TXr.o hT (by decide)) (by decide)) (by decide)) (by decide)) (by decide)) (by decide)) (by omega) (by omega) (show f v1 = v18 from by rw [← e18]; exact (hT.2.1 _ (by omega) (by omega)).symm) (by omega) (by omega) ((ju_i _ _ (by decide)).trans ((ju_i _ _ (by decide)).trans ((ju_i _ _ (by decide)).trans ((ju_i _ _ (by decide)).trans ((ju_i _ _ (by decide)).trans (ju_same _ _ _ _)))))) ((ju_i _ _ (by decide)).trans ((ju_i _ _ (by decide)).trans (ju_same _ _ _ _))) ((ju_i _ _ (by decide)).trans (ju_same _ _ _ _)) (by rw [(ju_same _ _ _ _)]; first | exact (if_pos (Decidable.byContradiction (fun z => by have q := w19_0; rw [if_neg z] at q; omega))).symm | exact (if_neg (fun z => by have q := w19_0; rw [if_pos z] at q; omega)).symm)) ((((ju_i _ _ (by decide)).trans ((ju_i _ _ (by decide)).trans ((ju_i _ _ (by decide)).trans ((ju_i _ _ (by decide)).trans ((ju_i _ _ (by decide)).trans (ju_same _ _ _ _))))))).trans ((show zsp zbl f N v1 = v1 from by first | exact zsp_e (by omega) | exact hT.bn (by omega) (by omega) e18 (by omega)).symm.trans (by rw [← e1]; exact hZ)))) (fun a i f598 => ((ju_c _ _ f598).trans ((ju_c _ _ f598).trans ((ju_c _ _ f598).trans ((ju_c _ _ f598).trans ((ju_c _ _ f598).trans ((ju_c _ _ f598).trans (hF_M a i f598)))))))) (fun i g73 g74 g75 g76 g77 g78 g79 => ((ju_i _ _ g74).trans ((ju_i _ _ g79).trans ((ju_i _ _ g73).trans ((ju_i _ _ g76).trans ((ju_i _ _ g74).trans ((ju_i _ _ g75).trans (hG_M i g73 g74 g75 g76 g77 g78 g79)))))))))
                · refine jr.iconst rfl ?_
                  refine jr.goto rfl rfl ?_
                  refine jr.putf (i := 74) (x := 3) rfl rfl (by decide) rfl (by decide) rfl rfl rfl rfl rfl ?_
                  have y24 : (ju (ju (ju (ju (ju (ju M 598 75 v1) 598 74 0) 598 76 (-1)) 598 73 (v1 + 1)) 598 79 v18) 598 74 3) 598 72 = v2 := ((ju_i _ _ (by decide)).trans ((ju_i _ _ (by decide)).trans ((ju_i _ _ (by decide)).trans ((ju_i _ _ (by decide)).trans ((ju_i _ _ (by decide)).trans ((ju_i _ _ (by decide)).trans e2))))))
                  have y25 : (ju (ju (ju (ju (ju (ju M 598 75 v1) 598 74 0) 598 76 (-1)) 598 73 (v1 + 1)) 598 79 v18) 598 74 3) 598 73 = v1 + 1 := ((ju_i _ _ (by decide)).trans ((ju_i _ _ (by decide)).trans (ju_same _ _ _ _)))
                  have y26 : (ju (ju (ju (ju (ju (ju M 598 75 v1) 598 74 0) 598 76 (-1)) 598 73 (v1 + 1)) 598 79 v18) 598 74 3) 598 74 = 3 := (ju_same _ _ _ _)
                  have y27 : (ju (ju (ju (ju (ju (ju M 598 75 v1) 598 74 0) 598 76 (-1)) 598 73 (v1 + 1)) 598 79 v18) 598 74 3) 598 79 = v18 := ((ju_i _ _ (by decide)).trans (ju_same _ _ _ _))
                  exact jr.vreturn rfl rfl (q _ (RI.u (RI.u (RI.u (RI.u (RI.u (RI.u hI_M (a := 598) (i := 75) (show (0 : Int) ≤ _ ∧ _ ≤ (1600 : Int) from by omega)) (a := 598) (i := 74) (show (0 : Int) ≤ _ ∧ _ ≤ (4 : Int) from by omega)) (a := 598) (i := 76) (show (-1 : Int) ≤ _ ∧ _ ≤ (68 : Int) from by omega)) (a := 598) (i := 73) (show (0 : Int) ≤ _ ∧ _ ≤ (1600 : Int) from by omega)) (a := 598) (i := 79) (show (0 : Int) ≤ _ ∧ _ ≤ (255 : Int) from by omega)) (a := 598) (i := 74) (show (0 : Int) ≤ _ ∧ _ ≤ (4 : Int) from by omega)) (RH.o (RH.o (RH.o (RH.o (RH.o (RH.o hH_M (by decide) (by decide) (by decide)) (by decide) (by decide) (by decide)) (by decide) (by decide) (by decide)) (by decide) (by decide) (by decide)) (by decide) (by decide) (by decide)) (by decide) (by decide) (by decide)) (RF.o (RF.o (RF.o (RF.o (RF.o (RF.o hS_M (by decide) (by decide)) (by decide) (by decide)) (by decide) (by decide)) (by decide) (by decide)) (by decide) (by decide)) (by decide) (by decide))  (by omega) (by omega) (by unfold TK; omega) (fun q => by unfold TK; omega) (by omega) (TKr.cast (TKr.s (v := v1) (c := v18) (TXr.o (TXr.o (TXr.o (TXr.o (TXr.o (TXr.o hT (by decide)) (by decide)) (by decide)) (by decide)) (by decide)) (by decide)) (by omega) (by omega) (show f v1 = v18 from by rw [← e18]; exact (hT.2.1 _ (by omega) (by omega)).symm) (by omega) (by omega) ((ju_i _ _ (by decide)).trans ((ju_i _ _ (by decide)).trans ((ju_i _ _ (by decide)).trans ((ju_i _ _ (by decide)).trans ((ju_i _ _ (by decide)).trans (ju_same _ _ _ _)))))) ((ju_i _ _ (by decide)).trans ((ju_i _ _ (by decide)).trans (ju_same _ _ _ _))) ((ju_i _ _ (by decide)).trans (ju_same _ _ _ _)) (by rw [(ju_same _ _ _ _)]; first | exact (if_pos (Decidable.byContradiction (fun z => by have q := w19_0; rw [if_neg z] at q; omega))).symm | exact (if_neg (fun z => by have q := w19_0; rw [if_pos z] at q; omega)).symm)) ((((ju_i _ _ (by decide)).trans ((ju_i _ _ (by decide)).trans ((ju_i _ _ (by decide)).trans ((ju_i _ _ (by decide)).trans ((ju_i _ _ (by decide)).trans (ju_same _ _ _ _))))))).trans ((show zsp zbl f N v1 = v1 from by first | exact zsp_e (by omega) | exact hT.bn (by omega) (by omega) e18 (by omega)).symm.trans (by rw [← e1]; exact hZ)))) (fun a i f598 => ((ju_c _ _ f598).trans ((ju_c _ _ f598).trans ((ju_c _ _ f598).trans ((ju_c _ _ f598).trans ((ju_c _ _ f598).trans ((ju_c _ _ f598).trans (hF_M a i f598)))))))) (fun i g73 g74 g75 g76 g77 g78 g79 => ((ju_i _ _ g74).trans ((ju_i _ _ g79).trans ((ju_i _ _ g73).trans ((ju_i _ _ g76).trans ((ju_i _ _ g74).trans ((ju_i _ _ g75).trans (hG_M i g73 g74 g75 g76 g77 g78 g79)))))))))
          · have y28 : (ju (ju (ju M 598 75 v1) 598 74 0) 598 76 (-1)) 598 72 = v2 := ((ju_i _ _ (by decide)).trans ((ju_i _ _ (by decide)).trans ((ju_i _ _ (by decide)).trans e2)))
            have y29 : (ju (ju (ju M 598 75 v1) 598 74 0) 598 76 (-1)) 598 73 = v1 := ((ju_i _ _ (by decide)).trans ((ju_i _ _ (by decide)).trans ((ju_i _ _ (by decide)).trans e1)))
            have y30 : (ju (ju (ju M 598 75 v1) 598 74 0) 598 76 (-1)) 598 74 = 0 := ((ju_i _ _ (by decide)).trans (ju_same _ _ _ _))
            obtain ⟨v31, e31⟩ : ∃ z, M 598 79 = z := ⟨_, rfl⟩
            have b31 : 0 ≤ v31 ∧ v31 ≤ 255 := by rw [← e31]; exact hI_M 598 79 (by decide)
            have y32 : (ju (ju (ju M 598 75 v1) 598 74 0) 598 76 (-1)) 598 79 = v31 := ((ju_i _ _ (by decide)).trans ((ju_i _ _ (by decide)).trans ((ju_i _ _ (by decide)).trans e31)))
            exact jr.vreturn rfl rfl (q _ (RI.u (RI.u (RI.u hI_M (a := 598) (i := 75) (show (0 : Int) ≤ _ ∧ _ ≤ (1600 : Int) from by omega)) (a := 598) (i := 74) (show (0 : Int) ≤ _ ∧ _ ≤ (4 : Int) from by omega)) (a := 598) (i := 76) (show (-1 : Int) ≤ _ ∧ _ ≤ (68 : Int) from by omega)) (RH.o (RH.o (RH.o hH_M (by decide) (by decide) (by decide)) (by decide) (by decide) (by decide)) (by decide) (by decide) (by decide)) (RF.o (RF.o (RF.o hS_M (by decide) (by decide)) (by decide) (by decide)) (by decide) (by decide))  (by omega) (by omega) (by unfold TK; omega) (fun q => by unfold TK; omega) (by omega) (TKr.cast (TKr.e (TXr.o (TXr.o (TXr.o hT (by decide)) (by decide)) (by decide)) ((ju_i _ _ (by decide)).trans ((ju_i _ _ (by decide)).trans (ju_same _ _ _ _))) ((ju_i _ _ (by decide)).trans ((ju_i _ _ (by decide)).trans ((ju_i _ _ (by decide)).trans e1))) ((ju_i _ _ (by decide)).trans (ju_same _ _ _ _)) (by omega) (by omega)) ((((ju_i _ _ (by decide)).trans ((ju_i _ _ (by decide)).trans (ju_same _ _ _ _)))).trans ((show zsp zbl f N v1 = v1 from by first | exact zsp_e (by omega) | exact hT.bn (by omega) (by omega) e18 (by omega)).symm.trans (by rw [← e1]; exact hZ)))) (fun a i f598 => ((ju_c _ _ f598).trans ((ju_c _ _ f598).trans ((ju_c _ _ f598).trans (hF_M a i f598))))) (fun i g73 g74 g75 g76 g77 g78 g79 => ((ju_i _ _ g76).trans ((ju_i _ _ g74).trans ((ju_i _ _ g75).trans (hG_M i g73 g74 g75 g76 g77 g78 g79))))))
        · refine jr.aload_n rfl rfl ?_
          refine jr.dup rfl rfl ?_
          refine jr.getf (i := 73) (x := v1) (v := .int (Int32.ofInt (v1))) rfl rfl (by decide) rfl (by decide) rfl rfl e1 rfl ?_
          refine jr.iconst rfl ?_
          refine jr.iadd rfl ?_
          refine jr.putf (i := 73) (x := (v1 + 1)) rfl rfl (by decide) rfl (by decide) rfl rfl rfl rfl rfl ?_
          refine jr.goto rfl rfl ?_
          refine jr.pick [0] rfl rfl ?_
          exact ih (nM - 1) (by omega) (ju M 598 73 (v1 + 1))  (RI.u hI_M (a := 598) (i := 73) (show (0 : Int) ≤ _ ∧ _ ≤ (1600 : Int) from by omega)) (RH.o hH_M (by decide) (by decide) (by decide)) (RF.o hS_M (by decide) (by decide))  (fun a i f598 => ((ju_c _ _ f598).trans (hF_M a i f598))) (fun i g73 g74 g75 g76 g77 g78 g79 => ((ju_i _ _ g73).trans (hG_M i g73 g74 g75 g76 g77 g78 g79)))  (by rw [(ju_same _ _ _ _), ((ju_i _ _ (by decide)).trans e2)] <;> omega) (by rw [(ju_same _ _ _ _)] <;> omega) (by omega) (TXr.o hT (by decide)) (by rw [(ju_same _ _ _ _)]; exact (hT.bl (by omega) (by omega) e18 (by omega)).symm.trans (by rw [← e1]; exact hZ)) (by rw [(ju_same _ _ _ _)]; omega)
theorem r_next_z {A : Nat → Option (Nat × (Nat → Int32))} {Q : Option Value → jm → Prop} {f : Int → Int} {N : Int} {M : jm} (hI_M : RI M) (hH_M : RH M) (hS_M : RF M) (p0 : M 598 73 ≤ M 598 72) (p1 : TXr f N M) (q : ∀ (M' : jm), RI M' → RH M' → RF M' → M' 598 73 ≤ M' 598 72 → M 598 73 ≤ M' 598 73 → TK M' ≤ TK M → (M 598 74 ≠ 0 → TK M' < TK M) → (M' 598 74 = 3 → M' 598 79 ≠ 10 ∧ M' 598 79 ≠ 11) → TKr f N (zsp zbl f N (M 598 73)) M' → (∀ (a : Nat) (i : Int), a ≠ 598 → M' a i = M a i) → (∀ (i : Int), i ≠ 73 → i ≠ 74 → i ≠ 75 → i ≠ 76 → i ≠ 77 → i ≠ 78 → i ≠ 79 → M' 598 i = M 598 i) → Q none M') : jc A 2 344 [.ref (598)] M Q := by
  have b74 : (0 : Int) ≤ M 598 74 ∧ M 598 74 ≤ 4 := hI_M 598 74 (by decide)
  have hT := p1
  refine jc_of (m := xm_344) rfl (Nat.le_of_ble_eq_true rfl) rfl ?_
  obtain ⟨v1, e1⟩ : ∃ z, M 598 73 = z := ⟨_, rfl⟩
  have b1 : 0 ≤ v1 ∧ v1 ≤ 1600 := by rw [← e1]; exact hI_M 598 73 (by decide)
  obtain ⟨v2, e2⟩ : ∃ z, M 598 72 = z := ⟨_, rfl⟩
  have b2 : 0 ≤ v2 ∧ v2 ≤ 1600 := by rw [← e2]; exact hI_M 598 72 (by decide)
  refine jr.pick [0] rfl rfl ?_
  exact r_next_L0_z q 1600 M  hI_M hH_M hS_M  (fun a i f598 => rfl) (fun i g73 g74 g75 g76 g77 g78 g79 => rfl)  (by rw [e1, e2] <;> omega) (by rw [e1] <;> omega) (by omega) p1 rfl (by rw [e1]; omega)
