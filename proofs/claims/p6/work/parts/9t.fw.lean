/-! ===== the table: rows as functions ===== -/
/-- the bytes of a row but its sum -/
def xrB (n s p0 p1 w0 w1 a0 a1 l0 l1 u pk by_ : Int) (k : Int) : Int := if k = 0 then n % 256 else if k = 1 then s % 256 else if k < 4 then bt p0 (3 - k) else if k < 6 then bt p1 (5 - k) else if k < 8 then bt w0 (7 - k) else if k < 10 then bt w1 (9 - k) else if k < 18 then bt a0 (17 - k) else if k < 26 then bt a1 (25 - k) else if k < 30 then bt l0 (29 - k) else if k < 34 then bt l1 (33 - k) else if k < 38 then bt u (37 - k) else if k < 42 then bt pk (41 - k) else bt by_ (45 - k)
def xrF (f : Int → Int) (y : Int) (B : Int → Int) : Int → Int := fun k => if y ≤ k ∧ k < y + 46 then B (k - y) else f k
/-- a row laid at y -/
def rwl (f : Int → Int) (y : Int) (B : Int → Int) : Int → Int := ptn (xrF f y B) (y + 46) 2 (tn (sb (xrF f y B) y 46))
/-- rows of those that u names, one behind another -/
def exL (u : Int → Int) (B : Int → Int → Int) (f : Int → Int) : Nat → (Int → Int) × Int
  | 0 => (f, 0)
  | n + 1 => if u n = 0 then exL u B f n else (rwl (exL u B f n).1 (exL u B f n).2 (B n), (exL u B f n).2 + 48)
theorem exL_s {u : Int → Int} {B : Int → Int → Int} {f : Int → Int} {i : Int} (h : 0 ≤ i) : exL u B f (i + 1).toNat = if u i = 0 then exL u B f i.toNat else (rwl (exL u B f i.toNat).1 (exL u B f i.toNat).2 (B i), (exL u B f i.toNat).2 + 48) := by
  obtain ⟨n, rfl⟩ := Int.eq_ofNat_of_zero_le h
  rw [show ((n : Int) + 1).toNat = n + 1 by omega, show ((n : Int)).toNat = n by omega]
  rfl
theorem exL_r (u : Int → Int) (B : Int → Int → Int) (f : Int → Int) : ∀ n : Nat, 0 ≤ (exL u B f n).2 ∧ (exL u B f n).2 ≤ 48 * n := by
  intro n
  induction n with
  | zero => exact ⟨Int.le_refl _, Int.le_refl _⟩
  | succ n ih =>
    unfold exL
    split
    · omega
    · show 0 ≤ (exL u B f n).2 + 48 ∧ (exL u B f n).2 + 48 ≤ _
      omega
theorem exL_e {u u2 : Int → Int} {B B2 : Int → Int → Int} {f : Int → Int} (n : Nat) (h : ∀ i : Int, 0 ≤ i → i < n → u i = u2 i ∧ (u i ≠ 0 → B i = B2 i)) : exL u B f n = exL u2 B2 f n := by
  induction n with
  | zero => rfl
  | succ n ih =>
    have q := h n (by omega) (by omega)
    have e := ih (fun i h0 h1 => h i h0 (by omega))
    unfold exL
    by_cases z : u n = 0
    · rw [if_pos z, if_pos (by rw [← q.1]; exact z), e]
    · rw [if_neg z, if_neg (by rw [← q.1]; exact z), e, q.2 z]
def ly0 (f : Int → Int) (y n s : Int) : Int → Int := ptn (ptn f y 1 n) (y + 1) 1 s
def lyS (f : Int → Int) (y p w a l i : Int) : Int → Int := ptn (ptn (ptn (ptn f (y + 2 + 2 * i) 2 p) (y + 6 + 2 * i) 2 w) (y + 10 + 8 * i) 8 a) (y + 26 + 4 * i) 4 l
def lyI (f : Int → Int) (y : Int) (p w a l : Int → Int) : Nat → Int → Int
  | 0 => f
  | n + 1 => lyS (lyI f y p w a l n) y (p n) (w n) (a n) (l n) n
theorem lyI_s {f : Int → Int} {y : Int} {p w a l : Int → Int} {i : Int} (h : 0 ≤ i) : lyI f y p w a l (i + 1).toNat = lyS (lyI f y p w a l i.toNat) y (p i) (w i) (a i) (l i) i := by
  obtain ⟨n, rfl⟩ := Int.eq_ofNat_of_zero_le h
  rw [show ((n : Int) + 1).toNat = n + 1 by omega, show ((n : Int)).toNat = n by omega]
  rfl
def lyE (f : Int → Int) (y u pk by_ : Int) : Int → Int := ptn (ptn (ptn f (y + 34) 4 u) (y + 38) 4 pk) (y + 42) 4 by_
def ry1 (f : Int → Int) (t p0 p1 w0 w1 a0 a1 : Int) : Int → Int := ptn (ptn (ptn (ptn (ptn (ptn (ptn (ptn f (t + 2) 2 p0) (t + 4) 2 p1) (t + 6) 2 w0) (t + 8) 2 w1) (t + 10) 4 (a0 / 4294967296)) (t + 14) 4 a0) (t + 18) 4 (a1 / 4294967296)) (t + 22) 4 a1
theorem ptn_in {f : Int → Int} {y n v k : Int} (h : y ≤ k ∧ k < y + n) : ptn f y n v k = bt v (y + n - 1 - k) := if_pos h
theorem ptn_out {f : Int → Int} {y n v k : Int} (h : k < y ∨ y + n ≤ k) : ptn f y n v k = f k := if_neg (by omega)
theorem bt_hi {a j : Int} (h : 0 ≤ j ∧ j < 4) : bt (a / 4294967296) j = bt a (j + 4) := by
  rcases (show j = 0 ∨ j = 1 ∨ j = 2 ∨ j = 3 by omega) with rfl | rfl | rfl | rfl
  · show a / 4294967296 % 256 = a / 4294967296 % 256
    rfl
  · show a / 4294967296 / 256 % 256 = a / 1099511627776 % 256
    omega
  · show a / 4294967296 / 65536 % 256 = a / 281474976710656 % 256
    omega
  · show a / 4294967296 / 16777216 % 256 = a / 72057594037927936 % 256
    omega
theorem jp1 {M : jm} {c : Nat} {t v : Int} (h : 0 ≤ v ∧ v ≤ 255) : ju M c t v c = ptn (M c) t 1 v := by
  funext k
  by_cases q : k = t
  · subst q
    rw [ju_same, ptn_in (by omega), show k + 1 - 1 - k = 0 by omega]
    show v = v % 256
    omega
  · rw [ju_i _ _ q, ptn_out (by omega)]
theorem lyx0 {f : Int → Int} {y n s p0 p1 w0 w1 a0 a1 l0 l1 u pk by_ : Int} : (ptn (ptn (ptn (ptn (ptn (ptn (ptn (ptn (ptn (ptn (ptn (ptn (ptn f y 1 n) (y + 1) 1 s) (y + 2) 2 p0) (y + 6) 2 w0) (y + 10) 8 a0) (y + 26) 4 l0) (y + 4) 2 p1) (y + 8) 2 w1) (y + 18) 8 a1) (y + 30) 4 l1) (y + 34) 4 u) (y + 38) 4 pk) (y + 42) 4 by_) = xrF f y (xrB n s p0 p1 w0 w1 a0 a1 l0 l1 u pk by_) := by
  funext z
  by_cases q : y ≤ z ∧ z < y + 46
  · have hR : xrF f y (xrB n s p0 p1 w0 w1 a0 a1 l0 l1 u pk by_) z = xrB n s p0 p1 w0 w1 a0 a1 l0 l1 u pk by_ (z - y) := if_pos q
    rw [hR]
    unfold xrB
    rcases (show (y + 0 ≤ z ∧ z < y + 1) ∨ (y + 1 ≤ z ∧ z < y + 2) ∨ (y + 2 ≤ z ∧ z < y + 4) ∨ (y + 4 ≤ z ∧ z < y + 6) ∨ (y + 6 ≤ z ∧ z < y + 8) ∨ (y + 8 ≤ z ∧ z < y + 10) ∨ (y + 10 ≤ z ∧ z < y + 18) ∨ (y + 18 ≤ z ∧ z < y + 26) ∨ (y + 26 ≤ z ∧ z < y + 30) ∨ (y + 30 ≤ z ∧ z < y + 34) ∨ (y + 34 ≤ z ∧ z < y + 38) ∨ (y + 38 ≤ z ∧ z < y + 42) ∨ (y + 42 ≤ z ∧ z < y + 46) by omega) with c | c | c | c | c | c | c | c | c | c | c | c | c
    · rw [if_pos (show z - y = 0 by omega)]
      rw [ptn_out (by omega), ptn_out (by omega), ptn_out (by omega), ptn_out (by omega), ptn_out (by omega), ptn_out (by omega), ptn_out (by omega), ptn_out (by omega), ptn_out (by omega), ptn_out (by omega), ptn_out (by omega), ptn_out (by omega), ptn_in (by omega)]
      rw [show y + 1 - 1 - z = 0 by omega]
      rfl
    · rw [if_neg (show ¬ z - y = 0 by omega), if_pos (show z - y = 1 by omega)]
      rw [ptn_out (by omega), ptn_out (by omega), ptn_out (by omega), ptn_out (by omega), ptn_out (by omega), ptn_out (by omega), ptn_out (by omega), ptn_out (by omega), ptn_out (by omega), ptn_out (by omega), ptn_out (by omega), ptn_in (by omega)]
      rw [show y + 1 + 1 - 1 - z = 0 by omega]
      rfl
    · rw [if_neg (show ¬ z - y = 0 by omega), if_neg (show ¬ z - y = 1 by omega), if_pos (show z - y < 4 by omega)]
      rw [ptn_out (by omega), ptn_out (by omega), ptn_out (by omega), ptn_out (by omega), ptn_out (by omega), ptn_out (by omega), ptn_out (by omega), ptn_out (by omega), ptn_out (by omega), ptn_out (by omega), ptn_in (by omega)]
      congr 1
      omega
    · rw [if_neg (show ¬ z - y = 0 by omega), if_neg (show ¬ z - y = 1 by omega), if_neg (show ¬ z - y < 4 by omega), if_pos (show z - y < 6 by omega)]
      rw [ptn_out (by omega), ptn_out (by omega), ptn_out (by omega), ptn_out (by omega), ptn_out (by omega), ptn_out (by omega), ptn_in (by omega)]
      congr 1
      omega
    · rw [if_neg (show ¬ z - y = 0 by omega), if_neg (show ¬ z - y = 1 by omega), if_neg (show ¬ z - y < 4 by omega), if_neg (show ¬ z - y < 6 by omega), if_pos (show z - y < 8 by omega)]
      rw [ptn_out (by omega), ptn_out (by omega), ptn_out (by omega), ptn_out (by omega), ptn_out (by omega), ptn_out (by omega), ptn_out (by omega), ptn_out (by omega), ptn_out (by omega), ptn_in (by omega)]
      congr 1
      omega
    · rw [if_neg (show ¬ z - y = 0 by omega), if_neg (show ¬ z - y = 1 by omega), if_neg (show ¬ z - y < 4 by omega), if_neg (show ¬ z - y < 6 by omega), if_neg (show ¬ z - y < 8 by omega), if_pos (show z - y < 10 by omega)]
      rw [ptn_out (by omega), ptn_out (by omega), ptn_out (by omega), ptn_out (by omega), ptn_out (by omega), ptn_in (by omega)]
      congr 1
      omega
    · rw [if_neg (show ¬ z - y = 0 by omega), if_neg (show ¬ z - y = 1 by omega), if_neg (show ¬ z - y < 4 by omega), if_neg (show ¬ z - y < 6 by omega), if_neg (show ¬ z - y < 8 by omega), if_neg (show ¬ z - y < 10 by omega), if_pos (show z - y < 18 by omega)]
      rw [ptn_out (by omega), ptn_out (by omega), ptn_out (by omega), ptn_out (by omega), ptn_out (by omega), ptn_out (by omega), ptn_out (by omega), ptn_out (by omega), ptn_in (by omega)]
      congr 1
      omega
    · rw [if_neg (show ¬ z - y = 0 by omega), if_neg (show ¬ z - y = 1 by omega), if_neg (show ¬ z - y < 4 by omega), if_neg (show ¬ z - y < 6 by omega), if_neg (show ¬ z - y < 8 by omega), if_neg (show ¬ z - y < 10 by omega), if_neg (show ¬ z - y < 18 by omega), if_pos (show z - y < 26 by omega)]
      rw [ptn_out (by omega), ptn_out (by omega), ptn_out (by omega), ptn_out (by omega), ptn_in (by omega)]
      congr 1
      omega
    · rw [if_neg (show ¬ z - y = 0 by omega), if_neg (show ¬ z - y = 1 by omega), if_neg (show ¬ z - y < 4 by omega), if_neg (show ¬ z - y < 6 by omega), if_neg (show ¬ z - y < 8 by omega), if_neg (show ¬ z - y < 10 by omega), if_neg (show ¬ z - y < 18 by omega), if_neg (show ¬ z - y < 26 by omega), if_pos (show z - y < 30 by omega)]
      rw [ptn_out (by omega), ptn_out (by omega), ptn_out (by omega), ptn_out (by omega), ptn_out (by omega), ptn_out (by omega), ptn_out (by omega), ptn_in (by omega)]
      congr 1
      omega
    · rw [if_neg (show ¬ z - y = 0 by omega), if_neg (show ¬ z - y = 1 by omega), if_neg (show ¬ z - y < 4 by omega), if_neg (show ¬ z - y < 6 by omega), if_neg (show ¬ z - y < 8 by omega), if_neg (show ¬ z - y < 10 by omega), if_neg (show ¬ z - y < 18 by omega), if_neg (show ¬ z - y < 26 by omega), if_neg (show ¬ z - y < 30 by omega), if_pos (show z - y < 34 by omega)]
      rw [ptn_out (by omega), ptn_out (by omega), ptn_out (by omega), ptn_in (by omega)]
      congr 1
      omega
    · rw [if_neg (show ¬ z - y = 0 by omega), if_neg (show ¬ z - y = 1 by omega), if_neg (show ¬ z - y < 4 by omega), if_neg (show ¬ z - y < 6 by omega), if_neg (show ¬ z - y < 8 by omega), if_neg (show ¬ z - y < 10 by omega), if_neg (show ¬ z - y < 18 by omega), if_neg (show ¬ z - y < 26 by omega), if_neg (show ¬ z - y < 30 by omega), if_neg (show ¬ z - y < 34 by omega), if_pos (show z - y < 38 by omega)]
      rw [ptn_out (by omega), ptn_out (by omega), ptn_in (by omega)]
      congr 1
      omega
    · rw [if_neg (show ¬ z - y = 0 by omega), if_neg (show ¬ z - y = 1 by omega), if_neg (show ¬ z - y < 4 by omega), if_neg (show ¬ z - y < 6 by omega), if_neg (show ¬ z - y < 8 by omega), if_neg (show ¬ z - y < 10 by omega), if_neg (show ¬ z - y < 18 by omega), if_neg (show ¬ z - y < 26 by omega), if_neg (show ¬ z - y < 30 by omega), if_neg (show ¬ z - y < 34 by omega), if_neg (show ¬ z - y < 38 by omega), if_pos (show z - y < 42 by omega)]
      rw [ptn_out (by omega), ptn_in (by omega)]
      congr 1
      omega
    · rw [if_neg (show ¬ z - y = 0 by omega), if_neg (show ¬ z - y = 1 by omega), if_neg (show ¬ z - y < 4 by omega), if_neg (show ¬ z - y < 6 by omega), if_neg (show ¬ z - y < 8 by omega), if_neg (show ¬ z - y < 10 by omega), if_neg (show ¬ z - y < 18 by omega), if_neg (show ¬ z - y < 26 by omega), if_neg (show ¬ z - y < 30 by omega), if_neg (show ¬ z - y < 34 by omega), if_neg (show ¬ z - y < 38 by omega), if_neg (show ¬ z - y < 42 by omega)]
      rw [ptn_in (by omega)]
      congr 1
      omega
  · rw [ptn_out (by omega), ptn_out (by omega), ptn_out (by omega), ptn_out (by omega), ptn_out (by omega), ptn_out (by omega), ptn_out (by omega), ptn_out (by omega), ptn_out (by omega), ptn_out (by omega), ptn_out (by omega), ptn_out (by omega), ptn_out (by omega)]
    exact (if_neg q).symm
theorem ryx0 {f : Int → Int} {y n s p0 p1 w0 w1 a0 a1 l0 l1 u pk by_ : Int} : (ptn (ptn (ptn (ptn (ptn (ptn (ptn (ptn (ptn (ptn (ptn (ptn (ptn (ptn (ptn f y 1 n) (y + 1) 1 s) (y + 2) 2 p0) (y + 4) 2 p1) (y + 6) 2 w0) (y + 8) 2 w1) (y + 10) 4 (a0 / 4294967296)) (y + 14) 4 a0) (y + 18) 4 (a1 / 4294967296)) (y + 22) 4 a1) (y + 26) 4 l0) (y + 30) 4 l1) (y + 34) 4 u) (y + 38) 4 pk) (y + 42) 4 by_) = xrF f y (xrB n s p0 p1 w0 w1 a0 a1 l0 l1 u pk by_) := by
  funext z
  by_cases q : y ≤ z ∧ z < y + 46
  · have hR : xrF f y (xrB n s p0 p1 w0 w1 a0 a1 l0 l1 u pk by_) z = xrB n s p0 p1 w0 w1 a0 a1 l0 l1 u pk by_ (z - y) := if_pos q
    rw [hR]
    unfold xrB
    rcases (show (y + 0 ≤ z ∧ z < y + 1) ∨ (y + 1 ≤ z ∧ z < y + 2) ∨ (y + 2 ≤ z ∧ z < y + 4) ∨ (y + 4 ≤ z ∧ z < y + 6) ∨ (y + 6 ≤ z ∧ z < y + 8) ∨ (y + 8 ≤ z ∧ z < y + 10) ∨ (y + 10 ≤ z ∧ z < y + 18) ∨ (y + 18 ≤ z ∧ z < y + 26) ∨ (y + 26 ≤ z ∧ z < y + 30) ∨ (y + 30 ≤ z ∧ z < y + 34) ∨ (y + 34 ≤ z ∧ z < y + 38) ∨ (y + 38 ≤ z ∧ z < y + 42) ∨ (y + 42 ≤ z ∧ z < y + 46) by omega) with c | c | c | c | c | c | c | c | c | c | c | c | c
    · rw [if_pos (show z - y = 0 by omega)]
      rw [ptn_out (by omega), ptn_out (by omega), ptn_out (by omega), ptn_out (by omega), ptn_out (by omega), ptn_out (by omega), ptn_out (by omega), ptn_out (by omega), ptn_out (by omega), ptn_out (by omega), ptn_out (by omega), ptn_out (by omega), ptn_out (by omega), ptn_out (by omega), ptn_in (by omega)]
      rw [show y + 1 - 1 - z = 0 by omega]
      rfl
    · rw [if_neg (show ¬ z - y = 0 by omega), if_pos (show z - y = 1 by omega)]
      rw [ptn_out (by omega), ptn_out (by omega), ptn_out (by omega), ptn_out (by omega), ptn_out (by omega), ptn_out (by omega), ptn_out (by omega), ptn_out (by omega), ptn_out (by omega), ptn_out (by omega), ptn_out (by omega), ptn_out (by omega), ptn_out (by omega), ptn_in (by omega)]
      rw [show y + 1 + 1 - 1 - z = 0 by omega]
      rfl
    · rw [if_neg (show ¬ z - y = 0 by omega), if_neg (show ¬ z - y = 1 by omega), if_pos (show z - y < 4 by omega)]
      rw [ptn_out (by omega), ptn_out (by omega), ptn_out (by omega), ptn_out (by omega), ptn_out (by omega), ptn_out (by omega), ptn_out (by omega), ptn_out (by omega), ptn_out (by omega), ptn_out (by omega), ptn_out (by omega), ptn_out (by omega), ptn_in (by omega)]
      congr 1
      omega
    · rw [if_neg (show ¬ z - y = 0 by omega), if_neg (show ¬ z - y = 1 by omega), if_neg (show ¬ z - y < 4 by omega), if_pos (show z - y < 6 by omega)]
      rw [ptn_out (by omega), ptn_out (by omega), ptn_out (by omega), ptn_out (by omega), ptn_out (by omega), ptn_out (by omega), ptn_out (by omega), ptn_out (by omega), ptn_out (by omega), ptn_out (by omega), ptn_out (by omega), ptn_in (by omega)]
      congr 1
      omega
    · rw [if_neg (show ¬ z - y = 0 by omega), if_neg (show ¬ z - y = 1 by omega), if_neg (show ¬ z - y < 4 by omega), if_neg (show ¬ z - y < 6 by omega), if_pos (show z - y < 8 by omega)]
      rw [ptn_out (by omega), ptn_out (by omega), ptn_out (by omega), ptn_out (by omega), ptn_out (by omega), ptn_out (by omega), ptn_out (by omega), ptn_out (by omega), ptn_out (by omega), ptn_out (by omega), ptn_in (by omega)]
      congr 1
      omega
    · rw [if_neg (show ¬ z - y = 0 by omega), if_neg (show ¬ z - y = 1 by omega), if_neg (show ¬ z - y < 4 by omega), if_neg (show ¬ z - y < 6 by omega), if_neg (show ¬ z - y < 8 by omega), if_pos (show z - y < 10 by omega)]
      rw [ptn_out (by omega), ptn_out (by omega), ptn_out (by omega), ptn_out (by omega), ptn_out (by omega), ptn_out (by omega), ptn_out (by omega), ptn_out (by omega), ptn_out (by omega), ptn_in (by omega)]
      congr 1
      omega
    · rw [if_neg (show ¬ z - y = 0 by omega), if_neg (show ¬ z - y = 1 by omega), if_neg (show ¬ z - y < 4 by omega), if_neg (show ¬ z - y < 6 by omega), if_neg (show ¬ z - y < 8 by omega), if_neg (show ¬ z - y < 10 by omega), if_pos (show z - y < 18 by omega)]
      by_cases d : z < y + 14
      · rw [ptn_out (by omega), ptn_out (by omega), ptn_out (by omega), ptn_out (by omega), ptn_out (by omega), ptn_out (by omega), ptn_out (by omega), ptn_out (by omega), ptn_in (by omega), bt_hi (by omega)]
        congr 1
        omega
      · rw [ptn_out (by omega), ptn_out (by omega), ptn_out (by omega), ptn_out (by omega), ptn_out (by omega), ptn_out (by omega), ptn_out (by omega), ptn_in (by omega)]
        congr 1
        omega
    · rw [if_neg (show ¬ z - y = 0 by omega), if_neg (show ¬ z - y = 1 by omega), if_neg (show ¬ z - y < 4 by omega), if_neg (show ¬ z - y < 6 by omega), if_neg (show ¬ z - y < 8 by omega), if_neg (show ¬ z - y < 10 by omega), if_neg (show ¬ z - y < 18 by omega), if_pos (show z - y < 26 by omega)]
      by_cases d : z < y + 22
      · rw [ptn_out (by omega), ptn_out (by omega), ptn_out (by omega), ptn_out (by omega), ptn_out (by omega), ptn_out (by omega), ptn_in (by omega), bt_hi (by omega)]
        congr 1
        omega
      · rw [ptn_out (by omega), ptn_out (by omega), ptn_out (by omega), ptn_out (by omega), ptn_out (by omega), ptn_in (by omega)]
        congr 1
        omega
    · rw [if_neg (show ¬ z - y = 0 by omega), if_neg (show ¬ z - y = 1 by omega), if_neg (show ¬ z - y < 4 by omega), if_neg (show ¬ z - y < 6 by omega), if_neg (show ¬ z - y < 8 by omega), if_neg (show ¬ z - y < 10 by omega), if_neg (show ¬ z - y < 18 by omega), if_neg (show ¬ z - y < 26 by omega), if_pos (show z - y < 30 by omega)]
      rw [ptn_out (by omega), ptn_out (by omega), ptn_out (by omega), ptn_out (by omega), ptn_in (by omega)]
      congr 1
      omega
    · rw [if_neg (show ¬ z - y = 0 by omega), if_neg (show ¬ z - y = 1 by omega), if_neg (show ¬ z - y < 4 by omega), if_neg (show ¬ z - y < 6 by omega), if_neg (show ¬ z - y < 8 by omega), if_neg (show ¬ z - y < 10 by omega), if_neg (show ¬ z - y < 18 by omega), if_neg (show ¬ z - y < 26 by omega), if_neg (show ¬ z - y < 30 by omega), if_pos (show z - y < 34 by omega)]
      rw [ptn_out (by omega), ptn_out (by omega), ptn_out (by omega), ptn_in (by omega)]
      congr 1
      omega
    · rw [if_neg (show ¬ z - y = 0 by omega), if_neg (show ¬ z - y = 1 by omega), if_neg (show ¬ z - y < 4 by omega), if_neg (show ¬ z - y < 6 by omega), if_neg (show ¬ z - y < 8 by omega), if_neg (show ¬ z - y < 10 by omega), if_neg (show ¬ z - y < 18 by omega), if_neg (show ¬ z - y < 26 by omega), if_neg (show ¬ z - y < 30 by omega), if_neg (show ¬ z - y < 34 by omega), if_pos (show z - y < 38 by omega)]
      rw [ptn_out (by omega), ptn_out (by omega), ptn_in (by omega)]
      congr 1
      omega
    · rw [if_neg (show ¬ z - y = 0 by omega), if_neg (show ¬ z - y = 1 by omega), if_neg (show ¬ z - y < 4 by omega), if_neg (show ¬ z - y < 6 by omega), if_neg (show ¬ z - y < 8 by omega), if_neg (show ¬ z - y < 10 by omega), if_neg (show ¬ z - y < 18 by omega), if_neg (show ¬ z - y < 26 by omega), if_neg (show ¬ z - y < 30 by omega), if_neg (show ¬ z - y < 34 by omega), if_neg (show ¬ z - y < 38 by omega), if_pos (show z - y < 42 by omega)]
      rw [ptn_out (by omega), ptn_in (by omega)]
      congr 1
      omega
    · rw [if_neg (show ¬ z - y = 0 by omega), if_neg (show ¬ z - y = 1 by omega), if_neg (show ¬ z - y < 4 by omega), if_neg (show ¬ z - y < 6 by omega), if_neg (show ¬ z - y < 8 by omega), if_neg (show ¬ z - y < 10 by omega), if_neg (show ¬ z - y < 18 by omega), if_neg (show ¬ z - y < 26 by omega), if_neg (show ¬ z - y < 30 by omega), if_neg (show ¬ z - y < 34 by omega), if_neg (show ¬ z - y < 38 by omega), if_neg (show ¬ z - y < 42 by omega)]
      rw [ptn_in (by omega)]
      congr 1
      omega
  · rw [ptn_out (by omega), ptn_out (by omega), ptn_out (by omega), ptn_out (by omega), ptn_out (by omega), ptn_out (by omega), ptn_out (by omega), ptn_out (by omega), ptn_out (by omega), ptn_out (by omega), ptn_out (by omega), ptn_out (by omega), ptn_out (by omega), ptn_out (by omega), ptn_out (by omega)]
    exact (if_neg q).symm
theorem ryx {f : Int → Int} {y n s p0 p1 w0 w1 a0 a1 l0 l1 u pk by_ : Int} : lyE (ptn (ptn (ry1 (ly0 f y n s) y p0 p1 w0 w1 a0 a1) (y + 26) 4 l0) (y + 30) 4 l1) y u pk by_ = xrF f y (xrB n s p0 p1 w0 w1 a0 a1 l0 l1 u pk by_) := ryx0
theorem lyx {f : Int → Int} {y n s u pk by_ : Int} {p w a l : Int → Int} : lyE (lyI (ly0 f y n s) y p w a l 2) y u pk by_ = xrF f y (xrB n s (p 0) (p 1) (w 0) (w 1) (a 0) (a 1) (l 0) (l 1) u pk by_) := by
  rw [← lyx0]
  show lyE (lyS (lyS (ly0 f y n s) y (p (0 : Nat)) (w (0 : Nat)) (a (0 : Nat)) (l (0 : Nat)) (0 : Nat)) y (p (1 : Nat)) (w (1 : Nat)) (a (1 : Nat)) (l (1 : Nat)) (1 : Nat)) y u pk by_ = _
  unfold lyE lyS ly0
  rw [show y + 2 + 2 * ((0 : Nat) : Int) = y + 2 by omega, show y + 6 + 2 * ((0 : Nat) : Int) = y + 6 by omega, show y + 10 + 8 * ((0 : Nat) : Int) = y + 10 by omega, show y + 26 + 4 * ((0 : Nat) : Int) = y + 26 by omega, show y + 2 + 2 * ((1 : Nat) : Int) = y + 4 by omega, show y + 6 + 2 * ((1 : Nat) : Int) = y + 8 by omega, show y + 10 + 8 * ((1 : Nat) : Int) = y + 18 by omega, show y + 26 + 4 * ((1 : Nat) : Int) = y + 30 by omega]
  rfl
