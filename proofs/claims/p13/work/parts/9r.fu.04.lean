section
noncomputable def W_c_PacketWall_turn_x : List (Nat × Nat) := [(1, 1), (1, 2), (2, 1000), (7, 1000), (9, 3), (9, 4), (9, 5), (18, 3), (18, 4), (18, 5), (18, 6), (18, 7), (19, 1000), (20, 1000), (21, 1000), (34, 1000)]
theorem c_PacketWall_turn_x {A : Nat → Option (Nat × (Nat → Int32))} {Q : Option Value → jm → Prop} {F : Int → Int → Int} {T : jm} {M : jm} (hC_M : CI M) (ht_M : FR W_c_PacketWall_turn_x T M) {x : Int} (h_x : (-2147483648) ≤ x ∧ x ≤ 2147483647) {V : Int} (g_V : M 15 0 = V) (p0 : T = M) (p1 : PBS M F) (q : ∀ (r : Int) (M' : jm), CI M' → FR W_c_PacketWall_turn_x T M' → (-4) ≤ r ∧ r ≤ 1 → (((x < 0 ∨ 23 < x ∨ T (xe 2 x) 1 = -1) ∧ r = -2 ∧ M' = T) ∨ (((0 ≤ x ∧ x ≤ 23) ∧ T (xe 2 x) 1 ≠ -1) ∧ ∃ (C : Int) (H : jm), HE (F x) (T (xe 2 x) 1) C ∧ (H 3 4 = 0 ↔ hX (F x) (T (xe 2 x) 1) C = -1) ∧ FR W_c_Headers_readAll_x T H ∧ H 3 7 = ((xe 2 x) : Nat) ∧ RWQ H M' (F x) (T (xe 2 x) 1) C (H 3 4) V.toNat (H 3 7) r)) → Q (some (.int (Int32.ofInt r))) M') : jc A 7 25 [.ref (0), .int (Int32.ofInt (x))] M Q := by
  refine jc_of (m := xm_25) rfl (Nat.le_of_ble_eq_true rfl) rfl ?_
  have b_V : 16 ≤ V ∧ V ≤ 17 := by rw [← g_V]; exact (CI.r hC_M (show kd 15 = 9 from rfl) (by decide) 0)
  refine jr.aload_n rfl rfl ?_
  refine jr.iload_n rfl rfl ?_
  refine jr_v rfl rfl (Or.inl rfl) rfl rfl (by decide) rfl ⟨rfl, Nat.le_of_ble_eq_true rfl, Nat.le_of_ble_eq_true rfl⟩ rfl (jc.deep (c_PacketWall_isPacket_x hC_M (by omega) (fun r1 z1 w1_0 w1_1 => ?_)) (by decide))
  refine jr.if_ne rfl rfl (by omega) (fun h5 => ?_) (fun h5 => ?_)
  · have sx5 : (1 : Int) ≤ r1 := by omega
    clear h5
    refine jr.aload_n rfl rfl ?_
    refine jr.getf (i := 3) (v := .ref 3) rfl rfl (by decide) rfl (by decide) rfl rfl rfl rfl ?_
    refine jr.aload_n rfl rfl ?_
    refine jr.getf (i := 2) (v := .ref 2) rfl rfl (by decide) rfl (by decide) rfl rfl rfl rfl ?_
    refine jr.iload_n rfl rfl ?_
    have k2 := kxe_42 (a := 2) rfl (i := x) (by omega) (by omega)
    refine jr.aald (c := (xe 2 x)) rfl (by decide) rfl (by decide) (by decide) rfl (by decide) (by omega) (by omega) k2.1 ?_
    obtain ⟨v4, e4⟩ : ∃ z_, M ((xe 2 x)) 1 = z_ := ⟨_, rfl⟩
    have b4 : (-1) ≤ v4 ∧ v4 ≤ 400 := by rw [← e4]; exact (CI.r hC_M k2.2 (by decide) 1)
    refine jr_v rfl rfl (Or.inl rfl) rfl rfl (by decide) rfl ⟨rfl, Nat.le_of_ble_eq_true rfl, Nat.le_of_ble_eq_true rfl⟩ rfl (jc.deep (c_Headers_readAll_x hC_M (FR.rfl _ M) (show kd 3 = 18 from rfl) k2.2 e4 (p1 x (by omega) (by omega)) (fun M3 hC_M3 hf_M3 w3_0 w3_1 w3_2 => ?_)) (by decide))
    have ht_M3 : FR W_c_PacketWall_turn_x T M3 := FR.t ht_M hf_M3 (kw_sub rfl)
    refine jr.aload_n rfl rfl ?_
    refine jr.getf (i := 9) (v := .ref 15) rfl rfl (by decide) rfl (by decide) rfl rfl rfl rfl ?_
    refine jr.aload_n rfl rfl ?_
    refine jr.getf (i := 3) (v := .ref 3) rfl rfl (by decide) rfl (by decide) rfl rfl rfl rfl ?_
    obtain ⟨v6, e6⟩ : ∃ z_, M3 3 3 = z_ := ⟨_, rfl⟩
    have b6 : 0 ≤ v6 ∧ v6 ≤ 12 := by rw [← e6]; exact (CI.r hC_M3 (show kd 3 = 18 from rfl) (by decide) 3)
    obtain ⟨v7, e7⟩ : ∃ z_, M3 3 4 = z_ := ⟨_, rfl⟩
    have b7 : (-2147483648) ≤ v7 ∧ v7 ≤ 2147483647 := by rw [← e7]; exact (CI.r hC_M3 (show kd 3 = 18 from rfl) (by decide) 4)
    obtain ⟨v8, e8⟩ : ∃ z_, M3 3 7 = z_ := ⟨_, rfl⟩
    have b8 : 0 ≤ v8 ∧ v8 ≤ 597 := by rw [← e8]; exact (CI.r hC_M3 (show kd 3 = 18 from rfl) (by decide) 7)
    have k5_S : kd (v8).toNat = 33 := (congrArg (fun z : Int => kd z.toNat) e8).symm.trans (CI.x hC_M3 (show kd 3 = 18 from rfl) 7 rfl (by decide))
    have e9 : M3 15 0 = V := (hf_M3.g (show kd 15 = 9 from rfl) rfl).trans g_V
    refine jr_v rfl rfl (Or.inl rfl) rfl rfl (by decide) rfl ⟨rfl, Nat.le_of_ble_eq_true rfl, Nat.le_of_ble_eq_true rfl⟩ rfl (jc.deep (c_Flows_rewrite_x hC_M3 (FR.rfl _ M3)  e6 e7 e8 e9 rfl ((w3_1.resolve_left (fun h => by omega)).2) (fun r5 M5 hC_M5 hf_M5 z5 w5_0 => ?_)) (by decide))
    have ht_M5 : FR W_c_PacketWall_turn_x T M5 := FR.t ht_M3 hf_M5 (kw_sub rfl)
    exact jr.ireturn rfl rfl rfl (q _ _ hC_M5 ht_M5 (by omega) (Or.inr ⟨by rw [p0]; omega, by rw [p0, e4]; exact ⟨v6, M3, (by have hq := HQ.e ((w3_1.resolve_left (fun h => by omega)).2).2.2.2; rw [e6] at hq; exact hq), ⟨fun h => hxc_z ((w3_1.resolve_left (fun h => by omega)).2) e6 h, fun h => Decidable.byContradiction (fun u => hxc_n ((w3_1.resolve_left (fun h => by omega)).2) e6 u h)⟩, hf_M3, w3_2, by rw [e7, e8]; exact w5_0⟩⟩))
  · refine jr.bipush rfl (by decide) ?_
    exact jr.ireturn rfl rfl rfl (q _ _ hC_M ht_M (by omega) (Or.inl ⟨by rw [p0]; omega, by omega, p0.symm⟩))
end
section
/-! ===== the table: rows as functions ===== -/
/-- the bytes of a row but its sum -/
noncomputable def xrB (n s p0 p1 w0 w1 a0 a1 l0 l1 u pk by_ : Int) (k : Int) : Int := if k = 0 then n % 256 else if k = 1 then s % 256 else if k < 4 then bt p0 (3 - k) else if k < 6 then bt p1 (5 - k) else if k < 8 then bt w0 (7 - k) else if k < 10 then bt w1 (9 - k) else if k < 18 then bt a0 (17 - k) else if k < 26 then bt a1 (25 - k) else if k < 30 then bt l0 (29 - k) else if k < 34 then bt l1 (33 - k) else if k < 38 then bt u (37 - k) else if k < 42 then bt pk (41 - k) else bt by_ (45 - k)
noncomputable def xrF (f : Int → Int) (y : Int) (B : Int → Int) : Int → Int := fun k => if y ≤ k ∧ k < y + 46 then B (k - y) else f k
/-- a row laid at y -/
noncomputable def rwl (f : Int → Int) (y : Int) (B : Int → Int) : Int → Int := ptn (xrF f y B) (y + 46) 2 (tn (sb (xrF f y B) y 46))
/-- rows of those that u names, one behind another -/
noncomputable def exL (u : Int → Int) (B : Int → Int → Int) (f : Int → Int) : Nat → (Int → Int) × Int
  | 0 => (f, 0)
  | n + 1 => if u n = 0 then exL u B f n else (rwl (exL u B f n).1 (exL u B f n).2 (B n), (exL u B f n).2 + 48)
theorem exL_s {u : Int → Int} {B : Int → Int → Int} {f : Int → Int} {i : Int} (h : 0 ≤ i) : exL u B f (i + 1).toNat = if u i = 0 then exL u B f i.toNat else (rwl (exL u B f i.toNat).1 (exL u B f i.toNat).2 (B i), (exL u B f i.toNat).2 + 48) := by
  obtain ⟨n, rfl⟩ := Int.eq_ofNat_of_zero_le h
  rw [show ((n : Int) + 1).toNat = n + 1 by omega, show ((n : Int)).toNat = n by omega]
  rfl
theorem exL_r (u : Int → Int) (B : Int → Int → Int) (f : Int → Int) : ∀ n : Nat, 0 ≤ (exL u B f n).2 ∧ (exL u B f n).2 ≤ 48 * n := by
  intro n
  induction n with
  | zero => exact ⟨Int.le_refl _, Int.le_refl _⟩
  | succ n ih =>
    unfold exL
    split
    · omega
    · show 0 ≤ (exL u B f n).2 + 48 ∧ (exL u B f n).2 + 48 ≤ _
      omega
theorem exL_e {u u2 : Int → Int} {B B2 : Int → Int → Int} {f : Int → Int} (n : Nat) (h : ∀ i : Int, 0 ≤ i → i < n → u i = u2 i ∧ (u i ≠ 0 → B i = B2 i)) : exL u B f n = exL u2 B2 f n := by
  induction n with
  | zero => rfl
  | succ n ih =>
    have q := h n (by omega) (by omega)
    have e := ih (fun i h0 h1 => h i h0 (by omega))
    unfold exL
    by_cases z : u n = 0
    · rw [if_pos z, if_pos (by rw [← q.1]; exact z), e]
    · rw [if_neg z, if_neg (by rw [← q.1]; exact z), e, q.2 z]
noncomputable def ly0 (f : Int → Int) (y n s : Int) : Int → Int := ptn (ptn f y 1 n) (y + 1) 1 s
noncomputable def lyS (f : Int → Int) (y p w a l i : Int) : Int → Int := ptn (ptn (ptn (ptn f (y + 2 + 2 * i) 2 p) (y + 6 + 2 * i) 2 w) (y + 10 + 8 * i) 8 a) (y + 26 + 4 * i) 4 l
noncomputable def lyI (f : Int → Int) (y : Int) (p w a l : Int → Int) : Nat → Int → Int
  | 0 => f
  | n + 1 => lyS (lyI f y p w a l n) y (p n) (w n) (a n) (l n) n
theorem lyI_s {f : Int → Int} {y : Int} {p w a l : Int → Int} {i : Int} (h : 0 ≤ i) : lyI f y p w a l (i + 1).toNat = lyS (lyI f y p w a l i.toNat) y (p i) (w i) (a i) (l i) i := by
  obtain ⟨n, rfl⟩ := Int.eq_ofNat_of_zero_le h
  rw [show ((n : Int) + 1).toNat = n + 1 by omega, show ((n : Int)).toNat = n by omega]
  rfl
noncomputable def lyE (f : Int → Int) (y u pk by_ : Int) : Int → Int := ptn (ptn (ptn f (y + 34) 4 u) (y + 38) 4 pk) (y + 42) 4 by_
noncomputable def ry1 (f : Int → Int) (t p0 p1 w0 w1 a0 a1 : Int) : Int → Int := ptn (ptn (ptn (ptn (ptn (ptn (ptn (ptn f (t + 2) 2 p0) (t + 4) 2 p1) (t + 6) 2 w0) (t + 8) 2 w1) (t + 10) 4 (a0 / 4294967296)) (t + 14) 4 a0) (t + 18) 4 (a1 / 4294967296)) (t + 22) 4 a1
theorem ptn_in {f : Int → Int} {y n v k : Int} (h : y ≤ k ∧ k < y + n) : ptn f y n v k = bt v (y + n - 1 - k) := if_pos h
theorem ptn_out {f : Int → Int} {y n v k : Int} (h : k < y ∨ y + n ≤ k) : ptn f y n v k = f k := if_neg (by omega)
theorem bt_hi {a j : Int} (h : 0 ≤ j ∧ j < 4) : bt (a / 4294967296) j = bt a (j + 4) := by
  rcases (show j = 0 ∨ j = 1 ∨ j = 2 ∨ j = 3 by omega) with rfl | rfl | rfl | rfl
  · show a / 4294967296 % 256 = a / 4294967296 % 256
    rfl
  · show a / 4294967296 / 256 % 256 = a / 1099511627776 % 256
    omega
  · show a / 4294967296 / 65536 % 256 = a / 281474976710656 % 256
    omega
  · show a / 4294967296 / 16777216 % 256 = a / 72057594037927936 % 256
    omega
theorem jp1 {M : jm} {c : Nat} {t v : Int} (h : 0 ≤ v ∧ v ≤ 255) : ju M c t v c = ptn (M c) t 1 v := by
  funext k
  by_cases q : k = t
  · subst q
    rw [ju_same, ptn_in (by omega), show k + 1 - 1 - k = 0 by omega]
    show v = v % 256
    omega
  · rw [ju_i _ _ q, ptn_out (by omega)]
end
