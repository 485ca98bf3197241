/-! ===== the table: rows read ===== -/
def tHl (f : Int → Int) (y s : Int) : Int := if s = 0 then f (y + 1) / 32 % 2 else f (y + 1) / 64 % 2
def tLa (f : Int → Int) (y s : Int) : Int := if tHl f y s = 0 then 0 else j_w (nbs f (y + 26 + 4 * s) 4)
def tAd (f : Int → Int) (y s : Int) : Int := jl_w (nbs f (y + 10 + 8 * s) 8)
def tPt (f : Int → Int) (y s : Int) : Int := tw f (y + 2 + 2 * s)
def tWn (f : Int → Int) (y s : Int) : Int := tw f (y + 6 + 2 * s)
def tPk (f : Int → Int) (y s : Int) : Int := if s = 0 then nbs f (y + 38) 4 else 0
def tBy (f : Int → Int) (y s : Int) : Int := if s = 0 then nbs f (y + 42) 4 else 0
def stOK (n s : Int) : Prop := (n = 1 ∧ s = 0) ∨ (n = 6 ∧ 1 ≤ s ∧ s ≤ 10) ∨ (n = 17 ∧ s ≤ 1)
def adOK (f : Int → Int) (y : Int) : Prop := f (y + 1) / 16 % 2 = 1 ∨ ((0 ≤ tAd f y 0 ∧ tAd f y 0 ≤ 4294967295) ∧ (0 ≤ tAd f y 1 ∧ tAd f y 1 ≤ 4294967295))
/-- a row that is right by itself -/
def rGood (f : Int → Int) (y : Int) : Prop := tw f (y + 46) = tn (sb f y 46) ∧ stOK (f y) (f (y + 1) % 16) ∧ adOK f y ∧ (1 ≤ nbs f (y + 34) 4 ∧ nbs f (y + 34) 4 ≤ 200)
/-- rows that tell the same ends -/
def rLike (f : Int → Int) (a b : Int) : Prop := (f a = f b ∧ f (a + 1) / 16 % 2 = f (b + 1) / 16 % 2) ∧ (((tPt f a 0 = tPt f b 0 ∧ tPt f a 1 = tPt f b 1) ∧ tAd f a 0 = tAd f b 0 ∧ tAd f a 1 = tAd f b 1) ∨ ((tPt f a 0 = tPt f b 1 ∧ tPt f a 1 = tPt f b 0) ∧ tAd f a 0 = tAd f b 1 ∧ tAd f a 1 = tAd f b 0))
def okR (f : Int → Int) (L j : Int) : Prop := (48 * j + 48 ≤ L ∧ j < 24) ∧ rGood f (48 * j) ∧ ∀ k : Int, 0 ≤ k → k < j → ¬ rLike f (48 * k) (48 * j)
/-- what restore answers -/
def RTR (f : Int → Int) (L r : Int) : Prop := (∃ j : Int, (0 ≤ j ∧ j < (L + 47) / 48) ∧ (∀ k : Int, 0 ≤ k → k < j → okR f L k) ∧ ¬ okR f L j ∧ r = -10 - j) ∨ ((∀ k : Int, 0 ≤ k → k < (L + 47) / 48 → okR f L k) ∧ r = (L + 47) / 48)
theorem RTR.u {f : Int → Int} {L r r2 : Int} (h : RTR f L r) (h2 : RTR f L r2) : r = r2 := by
  rcases h with ⟨j, a1, a2, a3, a4⟩ | ⟨a2, a4⟩ <;> rcases h2 with ⟨i, b1, b2, b3, b4⟩ | ⟨b2, b4⟩
  · rcases (show j < i ∨ j = i ∨ i < j by omega) with q | q | q
    · exact absurd (b2 j a1.1 q) a3
    · omega
    · exact absurd (a2 i b1.1 q) b3
  · exact absurd (b2 j a1.1 a1.2) a3
  · exact absurd (a2 i b1.1 b1.2) b3
  · omega
theorem jbx0 : ∀ n : Nat, n < 256 → j_and (n : Int) 32 = ((n / 32 % 2 * 32 : Nat) : Int) ∧ j_and (n : Int) 64 = ((n / 64 % 2 * 64 : Nat) : Int) ∧ j_and (n : Int) 128 = ((n / 128 % 2 * 128 : Nat) : Int) := by decide +kernel
theorem jbx {x : Int} (h : 0 ≤ x ∧ x ≤ 255) : j_and x 32 = x / 32 % 2 * 32 ∧ j_and x 64 = x / 64 % 2 * 64 ∧ j_and x 128 = x / 128 % 2 * 128 := by
  obtain ⟨n, rfl⟩ := Int.eq_ofNat_of_zero_le h.1
  have q := jbx0 n (by omega)
  refine ⟨?_, ?_, ?_⟩
  · rw [q.1]; omega
  · rw [q.2.1]; omega
  · rw [q.2.2]; omega
theorem hl_and {x i : Int} (h : 0 ≤ x ∧ x ≤ 255) (hi : 0 ≤ i ∧ i ≤ 1) : j_and x (j_shl 32 i) = (if i = 0 then x / 32 % 2 * 32 else x / 64 % 2 * 64) ∧ 0 ≤ j_and x (j_shl 32 i) ∧ j_and x (j_shl 32 i) ≤ 64 := by
  rcases (show i = 0 ∨ i = 1 by omega) with rfl | rfl
  · rw [show j_shl 32 0 = 32 by decide, (jbx h).1, if_pos rfl]
    omega
  · rw [show j_shl 32 1 = 64 by decide, (jbx h).2.1, if_neg (by decide)]
    omega
theorem jl_ushr_32 (x : Int) : jl_ushr x 32 = x % 18446744073709551616 / 4294967296 := by
  unfold jl_ushr
  have hN : ((Int64.ofInt x).toUInt64 >>> ((Int32.ofInt ((32 : Nat) : Int)).toInt64.toUInt64 &&& Int64.toUInt64 63)).toInt64.toBitVec.toNat = (x % 18446744073709551616).toNat / 2 ^ 32 := by
    show ((Int64.ofInt x).toUInt64 >>> ((Int32.ofInt ((32 : Nat) : Int)).toInt64.toUInt64 &&& Int64.toUInt64 63)).toBitVec.toNat = _
    rw [UInt64.toBitVec_shiftRight]
    show ((Int64.ofInt x).toBitVec >>> ((((Int32.ofInt ((32 : Nat) : Int)).toInt64.toUInt64 &&& Int64.toUInt64 63).toBitVec % 64))).toNat = _
    rw [BitVec.ushiftRight_eq', BitVec.toNat_ushiftRight, jbl_su 32 (by decide), jbl_tn, Nat.shiftRight_eq_div_pow]
  have e : (Int32.ofInt 32) = (Int32.ofInt ((32 : Nat) : Int)) := rfl
  rw [e, jbl_ti, hN]
  split <;> omega
theorem tp1 {f : Int → Int} {y r : Int} (hb : ∀ i : Int, 0 ≤ f i ∧ f i ≤ 255) (h : r = jl_w (nbs f y (1 : Int).toNat)) : r = f y ∧ 0 ≤ r ∧ r ≤ 255 := by
  have b := hb y
  rw [show (1 : Int).toNat = 1 from rfl, nbs_1, jl_w_id (by omega)] at h
  omega
theorem tp2 {f : Int → Int} {y r : Int} (hb : ∀ i : Int, 0 ≤ f i ∧ f i ≤ 255) (h : r = jl_w (nbs f y (2 : Int).toNat)) : r = tw f y ∧ 0 ≤ r ∧ r ≤ 65535 := by
  have b := hb y
  have b2 := hb (y + 1)
  rw [show (2 : Int).toNat = 2 from rfl, nbs_2, jl_w_id (by omega)] at h
  unfold tw
  omega
theorem tp4 {f : Int → Int} {y r : Int} (hb : ∀ i : Int, 0 ≤ f i ∧ f i ≤ 255) (h : r = jl_w (nbs f y (4 : Int).toNat)) : r = nbs f y 4 ∧ 0 ≤ r ∧ r ≤ 4294967295 := by
  have b := nbs_r4 (f := f) (y := y) (n := 4) (by decide) (fun i _ _ => hb i)
  rw [show (4 : Int).toNat = 4 from rfl, jl_w_id (by omega)] at h
  omega
theorem k1_0 : ∀ a, a < 598 → kd a = 1 → 18 ≤ a := by decide +kernel
theorem k1_18 {t : Nat} (h : kd t = 1) : 18 ≤ t := k1_0 t (kd_lt (by rw [h]; decide)) h
/-! the class: a row that is being read -/
def RR0 (M : jm) (t : Nat) (f : Int → Int) (y : Int) : Prop := M t 0 = 1 ∧ M t 1 = f (y + 1) / 16 % 2 ∧ M t 2 = f y ∧ M t 5 = f (y + 1) % 16 ∧ M t 13 = -1 ∧ M t 15 = -1
def rS1 (M : jm) (t : Nat) (f : Int → Int) (y s : Int) : Prop := M (t + 2) s = tPt f y s ∧ M (t + 5) s = tWn f y s ∧ M (t + 1) s = tAd f y s ∧ M (t + 4) s = tHl f y s
def rSA (M : jm) (t : Nat) (f : Int → Int) (y s : Int) : Prop := rS1 M t f y s ∧ M (t + 3) s = tLa f y s ∧ M (t + 6) s = tPk f y s ∧ M (t + 7) s = tBy f y s
def fr7 (T M : jm) (t : Nat) : Prop := ∀ (b : Nat) (k : Int), (b < t ∨ t + 7 < b) → M b k = T b k
def RWS (T M : jm) (t : Nat) (f : Int → Int) (y i : Int) : Prop := M 1 = f ∧ RR0 M t f y ∧ (∀ s : Int, 0 ≤ s → s < i → rSA M t f y s) ∧ fr7 T M t
def RWB (T M : jm) (t : Nat) (f : Int → Int) (y i : Int) : Prop := RWS T M t f y i ∧ rS1 M t f y i
def RWC (T M : jm) (t : Nat) (f : Int → Int) (y i : Int) : Prop := RWB T M t f y i ∧ M (t + 3) i = tLa f y i
def RWD (T M : jm) (t : Nat) (f : Int → Int) (y i : Int) : Prop := RWC T M t f y i ∧ M (t + 6) i = tPk f y i
def RWE (T M : jm) (t : Nat) (f : Int → Int) (y : Int) : Prop := RWS T M t f y 2 ∧ M t 12 = f (y + 1) / 128 % 2
/-- a flow as its row tells it -/
def RRD (M : jm) (t : Nat) (f : Int → Int) (y Z : Int) : Prop := RR0 M t f y ∧ (∀ s : Int, 0 ≤ s → s < 2 → rSA M t f y s) ∧ M t 12 = f (y + 1) / 128 % 2 ∧ M t 6 = Z + (if nbs f (y + 34) 4 ≤ 200 then nbs f (y + 34) 4 else 200)
theorem fr7.u {T M : jm} {t a : Nat} {i v : Int} (h : fr7 T M t) (ha : t ≤ a ∧ a ≤ t + 7) : fr7 T (ju M a i v) t := fun b k hb => by
  rw [ju_c _ _ (by omega)]
  exact h b k hb
theorem RWS.z {T M : jm} {t : Nat} {y a b c : Int} (h : T = M) (ht : 18 ≤ t) (ha : a = M 1 y) (hb : b = M 1 (y + 1) / 16 % 2) (hc : c = M 1 (y + 1) % 16) : RWS T (ju (ju (ju (ju (ju (ju M t 2 a) t 1 b) t 5 c) t 0 1) t 13 (-1)) t 15 (-1)) t (T 1) y 0 := by
  subst h
  refine ⟨?_, ⟨?_, ?_, ?_, ?_, ?_, ?_⟩, fun s s0 s1 => absurd s1 (by omega), ?_⟩
  · funext k
    simp only [ju_c _ _ (show (1 : Nat) ≠ t by omega)]
  · rw [ju_i _ _ (by decide), ju_i _ _ (by decide), ju_same]
  · rw [ju_i _ _ (by decide), ju_i _ _ (by decide), ju_i _ _ (by decide), ju_i _ _ (by decide), ju_same, hb]
  · rw [ju_i _ _ (by decide), ju_i _ _ (by decide), ju_i _ _ (by decide), ju_i _ _ (by decide), ju_i _ _ (by decide), ju_same, ha]
  · rw [ju_i _ _ (by decide), ju_i _ _ (by decide), ju_i _ _ (by decide), ju_same, hc]
  · rw [ju_i _ _ (by decide), ju_same]
  · rw [ju_same]
  · have q : fr7 T T t := fun _ _ _ => rfl
    exact fr7.u (fr7.u (fr7.u (fr7.u (fr7.u (fr7.u q (by omega)) (by omega)) (by omega)) (by omega)) (by omega)) (by omega)
theorem rSA.u {M : jm} {t a : Nat} {f : Int → Int} {y s i v : Int} (h : rSA M t f y s) (hi : s ≠ i) : rSA (ju M a i v) t f y s := by
  unfold rSA rS1 at h ⊢
  simp only [ju_i _ _ hi]
  exact h
theorem RR0.u {M : jm} {t a : Nat} {f : Int → Int} {y i v : Int} (h : RR0 M t f y) (ha : t ≠ a) : RR0 (ju M a i v) t f y := by
  unfold RR0 at h ⊢
  simp only [ju_c _ _ ha]
  exact h
theorem RWS.u {T M : jm} {t a : Nat} {f : Int → Int} {y i v : Int} (h : RWS T M t f y i) (ha : t < a ∧ a ≤ t + 7) (ht : 18 ≤ t) : RWS T (ju M a i v) t f y i := by
  refine ⟨?_, h.2.1.u (by omega), fun s s0 s1 => (h.2.2.1 s s0 s1).u (by omega), h.2.2.2.u (by omega)⟩
  rw [ju1_row (show (1 : Nat) ≠ a by omega)]
  exact h.1
theorem RWS.b {T M : jm} {t : Nat} {f : Int → Int} {y i p w a c : Int} (h : RWS T M t f y i) (ht : 18 ≤ t) (hp : p = tPt f y i) (hw : w = tWn f y i) (ha : a = tAd f y i) (hc : c = tHl f y i) : RWB T (ju (ju (ju (ju M (t + 2) i p) (t + 5) i w) (t + 1) i a) (t + 4) i c) t f y i := by
  refine ⟨(((h.u (by omega) ht).u (by omega) ht).u (by omega) ht).u (by omega) ht, ?_, ?_, ?_, ?_⟩
  · rw [ju_c _ _ (by omega), ju_c _ _ (by omega), ju_c _ _ (by omega), ju_same]; exact hp
  · rw [ju_c _ _ (by omega), ju_c _ _ (by omega), ju_same]; exact hw
  · rw [ju_c _ _ (by omega), ju_same]; exact ha
  · rw [ju_same]; exact hc
theorem rS1.u {M : jm} {t a : Nat} {f : Int → Int} {y s i v : Int} (h : rS1 M t f y s) (ha : t + 2 ≠ a ∧ t + 5 ≠ a ∧ t + 1 ≠ a ∧ t + 4 ≠ a) : rS1 (ju M a i v) t f y s := by
  unfold rS1 at h ⊢
  rw [ju_c _ _ ha.1, ju_c _ _ ha.2.1, ju_c _ _ ha.2.2.1, ju_c _ _ ha.2.2.2]
  exact h
theorem RWB.c {T M : jm} {t : Nat} {f : Int → Int} {y i l : Int} (h : RWB T M t f y i) (ht : 18 ≤ t) (hl : l = tLa f y i) : RWC T (ju M (t + 3) i l) t f y i := ⟨⟨h.1.u (by omega) ht, h.2.u (by omega)⟩, (ju_same _ _ _ _).trans hl⟩
theorem RWC.d {T M : jm} {t : Nat} {f : Int → Int} {y i l : Int} (h : RWC T M t f y i) (ht : 18 ≤ t) (hl : l = tPk f y i) : RWD T (ju M (t + 6) i l) t f y i := ⟨⟨⟨h.1.1.u (by omega) ht, h.1.2.u (by omega)⟩, (ju_c _ _ (by omega)).trans h.2⟩, (ju_same _ _ _ _).trans hl⟩
theorem RWD.e {T M : jm} {t : Nat} {f : Int → Int} {y i l : Int} (h : RWD T M t f y i) (ht : 18 ≤ t) (hl : l = tBy f y i) : RWS T (ju M (t + 7) i l) t f y (i + 1) := by
  have q := h.1.1.1.u (a := t + 7) (v := l) (by omega) ht
  refine ⟨q.1, q.2.1, fun s s0 s1 => ?_, q.2.2.2⟩
  by_cases e : s = i
  · subst e
    exact ⟨h.1.1.2.u (by omega), (ju_c _ _ (by omega)).trans h.1.2, (ju_c _ _ (by omega)).trans h.2, (ju_same _ _ _ _).trans hl⟩
  · exact q.2.2.1 s s0 (by omega)
theorem RWS.e {T M : jm} {t : Nat} {f : Int → Int} {y c : Int} (h : RWS T M t f y 2) (ht : 18 ≤ t) (hc : c = f (y + 1) / 128 % 2) : RWE T (ju M t 12 c) t f y := by
  refine ⟨⟨?_, ?_, fun s s0 s1 => ?_, h.2.2.2.u (by omega)⟩, (ju_same _ _ _ _).trans hc⟩
  · rw [ju1_row (show (1 : Nat) ≠ t by omega)]; exact h.1
  · have q := h.2.1
    unfold RR0 at q ⊢
    rw [ju_i _ _ (by decide), ju_i _ _ (by decide), ju_i _ _ (by decide), ju_i _ _ (by decide), ju_i _ _ (by decide), ju_i _ _ (by decide)]
    exact q
  · have q := h.2.2.1 s s0 s1
    unfold rSA rS1 at q ⊢
    simp only [ju_c _ _ (show t + 1 ≠ t by omega), ju_c _ _ (show t + 2 ≠ t by omega), ju_c _ _ (show t + 3 ≠ t by omega), ju_c _ _ (show t + 4 ≠ t by omega), ju_c _ _ (show t + 5 ≠ t by omega), ju_c _ _ (show t + 6 ≠ t by omega), ju_c _ _ (show t + 7 ≠ t by omega)]
    exact q
theorem RWE.d {T M : jm} {t : Nat} {f : Int → Int} {y v Z : Int} (h : RWE T M t f y) (ht : 18 ≤ t) (hv : v = Z + (if nbs f (y + 34) 4 ≤ 200 then nbs f (y + 34) 4 else 200)) : RRD (ju M t 6 v) t f y Z ∧ fr7 T (ju M t 6 v) t ∧ ju M t 6 v 1 = f := by
  refine ⟨⟨?_, fun s s0 s1 => ?_, ?_, (ju_same _ _ _ _).trans hv⟩, h.1.2.2.2.u (by omega), ?_⟩
  · have q := h.1.2.1
    unfold RR0 at q ⊢
    rw [ju_i _ _ (by decide), ju_i _ _ (by decide), ju_i _ _ (by decide), ju_i _ _ (by decide), ju_i _ _ (by decide), ju_i _ _ (by decide)]
    exact q
  · have q := h.1.2.2.1 s s0 s1
    unfold rSA rS1 at q ⊢
    simp only [ju_c _ _ (show t + 1 ≠ t by omega), ju_c _ _ (show t + 2 ≠ t by omega), ju_c _ _ (show t + 3 ≠ t by omega), ju_c _ _ (show t + 4 ≠ t by omega), ju_c _ _ (show t + 5 ≠ t by omega), ju_c _ _ (show t + 6 ≠ t by omega), ju_c _ _ (show t + 7 ≠ t by omega)]
    exact q
  · rw [ju_i _ _ (by decide)]; exact h.2
  · rw [ju1_row (show (1 : Nat) ≠ t by omega)]; exact h.1.1
theorem RRD.fr {T M : jm} {t x : Nat} {f : Int → Int} {y Z : Int} (h : RRD T t f y Z) (g : fr7 T M x) (hx : t + 7 < x ∨ x + 7 < t) : RRD M t f y Z := by
  unfold RRD RR0 rSA rS1 at h ⊢
  simp only [g t _ (by omega), g (t + 1) _ (by omega), g (t + 2) _ (by omega), g (t + 3) _ (by omega), g (t + 4) _ (by omega), g (t + 5) _ (by omega), g (t + 6) _ (by omega), g (t + 7) _ (by omega)]
  exact h
theorem RRD.like {M : jm} {t x : Nat} {f : Int → Int} {a b Z Z2 : Int} (h : RRD M t f a Z) (h2 : RRD M x f b Z2) : sdF M t x ≠ -1 ↔ rLike f a b := by
  obtain ⟨⟨g0, g1, g2, g3, g4, g5⟩, gs, -, -⟩ := h
  obtain ⟨⟨k0, k1, k2, k3, k4, k5⟩, ks, -, -⟩ := h2
  have ga := gs 0 (by decide) (by decide)
  have gb := gs 1 (by decide) (by decide)
  have ka := ks 0 (by decide) (by decide)
  have kb := ks 1 (by decide) (by decide)
  unfold sdF rLike
  rw [g0, g1, g2, g4, k1, k2, ga.1.1, ga.1.2.2.1, gb.1.1, gb.1.2.2.1, ka.1.1, ka.1.2.2.1, kb.1.1, kb.1.2.2.1]
  constructor
  · intro u
    split at u
    · omega
    · rename_i u0
      split at u
      · rename_i u1
        exact ⟨by omega, Or.inl ⟨⟨u1.1.2.symm, u1.2.2.symm⟩, u1.1.1.symm, u1.2.1.symm⟩⟩
      · split at u
        · rename_i u1
          refine ⟨by omega, Or.inr ?_⟩
          rcases u1.1 with u2 | u2
          · exact ⟨⟨u2.2.2.symm, u1.2.2.symm⟩, u2.2.1.symm, u1.2.1.symm⟩
          · exact absurd rfl u2.1
        · omega
  · rintro ⟨⟨e1, e2⟩, e3⟩
    rw [if_neg (by omega)]
    rcases e3 with e3 | e3
    · rw [if_pos ⟨⟨e3.2.1.symm, e3.1.1.symm⟩, e3.2.2.symm, e3.1.2.symm⟩]
      decide
    · split
      · decide
      · rw [if_pos ⟨Or.inl ⟨rfl, e3.2.1.symm, e3.1.1.symm⟩, e3.2.2.symm, e3.1.2.symm⟩]
        decide
