section
/-! ===== the class: the calls on headers ===== -/
noncomputable def crr (f : Int → Int) (N : Int) : Nat → Int → Int
  | 0, _ => 0
  | n + 1, i => if 7 ≤ hX f N i ∧ hX f N i ≤ 9 then 1 + crr f N n (i + 1) else 0
theorem cr_s {f : Int → Int} {N n i : Int} (h : 0 < n) : crr f N n.toNat i = if 7 ≤ hX f N i ∧ hX f N i ≤ 9 then 1 + crr f N (n - 1).toNat (i + 1) else 0 := by
  obtain ⟨m, hm⟩ : ∃ m : Nat, n = m + 1 := ⟨(n - 1).toNat, by omega⟩
  subst hm
  rw [show ((m : Int) + 1).toNat = m + 1 by omega, show ((m : Int) + 1 - 1).toNat = m by omega]
  rfl
theorem cr_0 {f : Int → Int} {N n i : Int} (h : n ≤ 0) : crr f N n.toNat i = 0 := by
  rw [show n.toNat = 0 by omega]
  rfl
noncomputable def RDF (f : Int → Int) (N C a b c d r : Int) : Prop := b = C ∧ ((hX f N C = -1 ∧ a = 0 ∧ c = -1 ∧ d = -1 ∧ r = C) ∨ (hX f N C ≠ -1 ∧ hF f N C ≠ 0 ∧ a = hF f N C ∧ c = hW f N C ∧ d = hX f N C ∧ r = -10 - a))
/-- bytes and answer of repair: headers below n are mended, the last first -/
noncomputable def rpF (f : Int → Int) (N C : Int) : Nat → (Int → Int) → (Int → Int)
  | 0, g => g
  | n + 1, g => rpF f N C n (mdF f N C (n : Int) g)
noncomputable def rpN (f : Int → Int) (N C : Int) : Nat → (Int → Int) → Int
  | 0, _ => 0
  | n + 1, g => mdR f N C (n : Int) g + rpN f N C n (mdF f N C (n : Int) g)
theorem rp_s {f : Int → Int} {N C i : Int} {g : Int → Int} (h : 0 ≤ i) : rpF f N C (i + 1).toNat g = rpF f N C i.toNat (mdF f N C i g) ∧ rpN f N C (i + 1).toNat g = mdR f N C i g + rpN f N C i.toNat (mdF f N C i g) := by
  obtain ⟨m, rfl⟩ := Int.eq_ofNat_of_zero_le h
  rw [show ((m : Int) + 1).toNat = m + 1 by omega, show ((m : Int)).toNat = m by omega]
  exact ⟨rfl, rfl⟩
theorem rp_0 {f : Int → Int} {N C i : Int} {g : Int → Int} (h : i < 0) : rpF f N C (i + 1).toNat g = g ∧ rpN f N C (i + 1).toNat g = 0 := by
  rw [show (i + 1).toNat = 0 by omega]
  exact ⟨rfl, rfl⟩
noncomputable def W_c_PacketWall_kind_x : List (Nat × Nat) := [(18, 3), (18, 4), (18, 5), (18, 6), (18, 7), (19, 1000), (20, 1000), (21, 1000)]
theorem c_PacketWall_kind_x {A : Nat → Option (Nat × (Nat → Int32))} {Q : Option Value → jm → Prop} {f : Int → Int} {T : jm} {M : jm} (hC_M : CI M) (ht_M : FR W_c_PacketWall_kind_x T M) {x : Int} (h_x : (-2147483648) ≤ x ∧ x ≤ 2147483647) {y : Int} (h_y : (-2147483648) ≤ y ∧ y ≤ 2147483647) (p0 : T = M) (p1 : ((0 ≤ x ∧ x ≤ 23) → BY8 M ((xe 2 x) + 1) f)) (q : ∀ (r : Int) (M' : jm), CI M' → FR W_c_PacketWall_kind_x T M' → (-2147483648) ≤ r ∧ r ≤ 2147483647 → (((x < 0 ∨ 23 < x ∨ T (xe 2 x) 1 = -1) ∧ r = -2) ∨ (((0 ≤ x ∧ x ≤ 23) ∧ T (xe 2 x) 1 ≠ -1) ∧ ∃ C : Int, HE f (T (xe 2 x) 1) C ∧ r = kA f (T (xe 2 x) 1) C y)) → Q (some (.int (Int32.ofInt r))) M') : jc A 6 8 [.ref (0), .int (Int32.ofInt (x)), .int (Int32.ofInt (y))] M Q := by
  refine jc_of (m := xm_8) rfl (Nat.le_of_ble_eq_true rfl) rfl ?_
  refine jr.aload_n rfl rfl ?_
  refine jr.iload_n rfl rfl ?_
  refine jr_v rfl rfl (Or.inl rfl) rfl rfl (nlt rfl) rfl ⟨rfl, Nat.le_of_ble_eq_true rfl, Nat.le_of_ble_eq_true rfl⟩ rfl (jc.deep (c_PacketWall_isPacket_x hC_M (by omega) (fun r1 z1 w1_0 w1_1 => ?_)) (Nat.le_of_ble_eq_true rfl))
  refine jr.if_ne rfl rfl (by first | (refine rgb (by assumption) ?_; exact rfl) | omega) (fun h5 => ?_) (fun h5 => ?_)
  · have sx5 : (1 : Int) ≤ r1 := by omega
    clear h5
    refine jr.aload_n rfl rfl ?_
    refine jr.getf (i := 3) (v := .ref 3) rfl rfl (nlt rfl) rfl (nlt rfl) rfl rfl rfl rfl ?_
    refine jr.aload_n rfl rfl ?_
    refine jr.getf (i := 2) (v := .ref 2) rfl rfl (nlt rfl) rfl (nlt rfl) rfl rfl rfl rfl ?_
    refine jr.iload_n rfl rfl ?_
    have k2 := kxe_42 (a := 2) rfl (i := x) (by omega) (by omega)
    refine jr.aald (c := (xe 2 x)) rfl (by decide) rfl (by decide) (by decide) rfl (by decide) (by omega) (by omega) k2.1 ?_
    obtain ⟨v4, e4⟩ : ∃ z_, M ((xe 2 x)) 1 = z_ := ⟨_, rfl⟩
    have b4 : (-1) ≤ v4 ∧ v4 ≤ 400 := by rw [← e4]; exact (CI.r hC_M k2.2 (by decide) 1)
    refine jr_v rfl rfl (Or.inl rfl) rfl rfl (nlt rfl) rfl ⟨rfl, Nat.le_of_ble_eq_true rfl, Nat.le_of_ble_eq_true rfl⟩ rfl (jc.deep (c_Headers_readAll_x hC_M (FR.rfl _ M) (show kd 3 = 18 from rfl) k2.2 e4 (p1 (by omega)) (fun M3 hC_M3 hf_M3 w3_0 w3_1 w3_2 => ?_)) (Nat.le_of_ble_eq_true rfl))
    have ht_M3 : FR W_c_PacketWall_kind_x T M3 := FR.t ht_M hf_M3 (kw_sub rfl)
    refine jr.aload_n rfl rfl ?_
    refine jr.getf (i := 3) (v := .ref 3) rfl rfl (nlt rfl) rfl (nlt rfl) rfl rfl rfl rfl ?_
    refine jr.iload_n rfl rfl ?_
    obtain ⟨v6, e6⟩ : ∃ z_, M3 3 3 = z_ := ⟨_, rfl⟩
    have b6 : 0 ≤ v6 ∧ v6 ≤ 12 := by rw [← e6]; exact (CI.r hC_M3 (show kd 3 = 18 from rfl) (by decide) 3)
    refine jr_v rfl rfl (Or.inl rfl) rfl rfl (nlt rfl) rfl ⟨rfl, Nat.le_of_ble_eq_true rfl, Nat.le_of_ble_eq_true rfl⟩ rfl (jc.deep (c_Headers_kindAt_x hC_M3 (show kd 3 = 18 from rfl) (by omega) e6 ((w3_1.resolve_left (fun h => by omega)).2) (fun r5 z5 w5_0 => ?_)) (Nat.le_of_ble_eq_true rfl))
    exact jr.ireturn rfl rfl rfl (q _ _ hC_M3 ht_M3 (by omega) (Or.inr ⟨by rw [p0]; omega, by rw [p0, e4]; exact ⟨v6, (by have hq := HQ.e ((w3_1.resolve_left (fun h => by omega)).2).2.2.2; rw [e6] at hq; exact hq), w5_0⟩⟩))
  · refine jr.bipush rfl (by decide) ?_
    exact jr.ireturn rfl rfl rfl (q _ _ hC_M ht_M (by first | exact rgq rfl | omega) (Or.inl ⟨by rw [p0]; omega, by omega⟩))
noncomputable def W_c_PacketWall_place_x : List (Nat × Nat) := [(18, 3), (18, 4), (18, 5), (18, 6), (18, 7), (19, 1000), (20, 1000), (21, 1000)]
theorem c_PacketWall_place_x {A : Nat → Option (Nat × (Nat → Int32))} {Q : Option Value → jm → Prop} {f : Int → Int} {T : jm} {M : jm} (hC_M : CI M) (ht_M : FR W_c_PacketWall_place_x T M) {x : Int} (h_x : (-2147483648) ≤ x ∧ x ≤ 2147483647) {y : Int} (h_y : (-2147483648) ≤ y ∧ y ≤ 2147483647) (p0 : T = M) (p1 : ((0 ≤ x ∧ x ≤ 23) → BY8 M ((xe 2 x) + 1) f)) (q : ∀ (r : Int) (M' : jm), CI M' → FR W_c_PacketWall_place_x T M' → (-2147483648) ≤ r ∧ r ≤ 2147483647 → (((x < 0 ∨ 23 < x ∨ T (xe 2 x) 1 = -1) ∧ r = -2) ∨ (((0 ≤ x ∧ x ≤ 23) ∧ T (xe 2 x) 1 ≠ -1) ∧ ∃ C : Int, HE f (T (xe 2 x) 1) C ∧ r = pA f (T (xe 2 x) 1) C y)) → Q (some (.int (Int32.ofInt r))) M') : jc A 6 10 [.ref (0), .int (Int32.ofInt (x)), .int (Int32.ofInt (y))] M Q := by
  refine jc_of (m := xm_10) rfl (Nat.le_of_ble_eq_true rfl) rfl ?_
  refine jr.aload_n rfl rfl ?_
  refine jr.iload_n rfl rfl ?_
  refine jr_v rfl rfl (Or.inl rfl) rfl rfl (nlt rfl) rfl ⟨rfl, Nat.le_of_ble_eq_true rfl, Nat.le_of_ble_eq_true rfl⟩ rfl (jc.deep (c_PacketWall_isPacket_x hC_M (by omega) (fun r1 z1 w1_0 w1_1 => ?_)) (Nat.le_of_ble_eq_true rfl))
  refine jr.if_ne rfl rfl (by first | (refine rgb (by assumption) ?_; exact rfl) | omega) (fun h5 => ?_) (fun h5 => ?_)
  · have sx5 : (1 : Int) ≤ r1 := by omega
    clear h5
    refine jr.aload_n rfl rfl ?_
    refine jr.getf (i := 3) (v := .ref 3) rfl rfl (nlt rfl) rfl (nlt rfl) rfl rfl rfl rfl ?_
    refine jr.aload_n rfl rfl ?_
    refine jr.getf (i := 2) (v := .ref 2) rfl rfl (nlt rfl) rfl (nlt rfl) rfl rfl rfl rfl ?_
    refine jr.iload_n rfl rfl ?_
    have k2 := kxe_42 (a := 2) rfl (i := x) (by omega) (by omega)
    refine jr.aald (c := (xe 2 x)) rfl (by decide) rfl (by decide) (by decide) rfl (by decide) (by omega) (by omega) k2.1 ?_
    obtain ⟨v4, e4⟩ : ∃ z_, M ((xe 2 x)) 1 = z_ := ⟨_, rfl⟩
    have b4 : (-1) ≤ v4 ∧ v4 ≤ 400 := by rw [← e4]; exact (CI.r hC_M k2.2 (by decide) 1)
    refine jr_v rfl rfl (Or.inl rfl) rfl rfl (nlt rfl) rfl ⟨rfl, Nat.le_of_ble_eq_true rfl, Nat.le_of_ble_eq_true rfl⟩ rfl (jc.deep (c_Headers_readAll_x hC_M (FR.rfl _ M) (show kd 3 = 18 from rfl) k2.2 e4 (p1 (by omega)) (fun M3 hC_M3 hf_M3 w3_0 w3_1 w3_2 => ?_)) (Nat.le_of_ble_eq_true rfl))
    have ht_M3 : FR W_c_PacketWall_place_x T M3 := FR.t ht_M hf_M3 (kw_sub rfl)
    refine jr.aload_n rfl rfl ?_
    refine jr.getf (i := 3) (v := .ref 3) rfl rfl (nlt rfl) rfl (nlt rfl) rfl rfl rfl rfl ?_
    refine jr.iload_n rfl rfl ?_
    obtain ⟨v6, e6⟩ : ∃ z_, M3 3 3 = z_ := ⟨_, rfl⟩
    have b6 : 0 ≤ v6 ∧ v6 ≤ 12 := by rw [← e6]; exact (CI.r hC_M3 (show kd 3 = 18 from rfl) (by decide) 3)
    refine jr_v rfl rfl (Or.inl rfl) rfl rfl (nlt rfl) rfl ⟨rfl, Nat.le_of_ble_eq_true rfl, Nat.le_of_ble_eq_true rfl⟩ rfl (jc.deep (c_Headers_placeAt_x hC_M3 (show kd 3 = 18 from rfl) (by omega) e6 ((w3_1.resolve_left (fun h => by omega)).2) (fun r5 z5 w5_0 => ?_)) (Nat.le_of_ble_eq_true rfl))
    exact jr.ireturn rfl rfl rfl (q _ _ hC_M3 ht_M3 (by omega) (Or.inr ⟨by rw [p0]; omega, by rw [p0, e4]; exact ⟨v6, (by have hq := HQ.e ((w3_1.resolve_left (fun h => by omega)).2).2.2.2; rw [e6] at hq; exact hq), w5_0⟩⟩))
  · refine jr.bipush rfl (by decide) ?_
    exact jr.ireturn rfl rfl rfl (q _ _ hC_M ht_M (by first | exact rgq rfl | omega) (Or.inl ⟨by rw [p0]; omega, by omega⟩))
noncomputable def W_c_PacketWall_field_x : List (Nat × Nat) := [(18, 3), (18, 4), (18, 5), (18, 6), (18, 7), (19, 1000), (20, 1000), (21, 1000)]
theorem c_PacketWall_field_x {A : Nat → Option (Nat × (Nat → Int32))} {Q : Option Value → jm → Prop} {f : Int → Int} {T : jm} {M : jm} (hC_M : CI M) (ht_M : FR W_c_PacketWall_field_x T M) {x : Int} (h_x : (-2147483648) ≤ x ∧ x ≤ 2147483647) {y : Int} (h_y : (-2147483648) ≤ y ∧ y ≤ 2147483647) {z : Int} (h_z : (-2147483648) ≤ z ∧ z ≤ 2147483647) (p0 : T = M) (p1 : ((0 ≤ x ∧ x ≤ 23) → BY8 M ((xe 2 x) + 1) f)) (q : ∀ (r : Int) (M' : jm), CI M' → FR W_c_PacketWall_field_x T M' → (-9223372036854775808) ≤ r ∧ r ≤ 9223372036854775807 → (((x < 0 ∨ 23 < x ∨ T (xe 2 x) 1 = -1) ∧ r = -2) ∨ (((0 ≤ x ∧ x ≤ 23) ∧ T (xe 2 x) 1 ≠ -1) ∧ ∃ C : Int, HE f (T (xe 2 x) 1) C ∧ r = vA f (T (xe 2 x) 1) C y z)) → Q (some (.long (Int64.ofInt r))) M') : jc A 6 9 [.ref (0), .int (Int32.ofInt (x)), .int (Int32.ofInt (y)), .int (Int32.ofInt (z))] M Q := by
  refine jc_of (m := xm_9) rfl (Nat.le_of_ble_eq_true rfl) rfl ?_
  refine jr.aload_n rfl rfl ?_
  refine jr.iload_n rfl rfl ?_
  refine jr_v rfl rfl (Or.inl rfl) rfl rfl (nlt rfl) rfl ⟨rfl, Nat.le_of_ble_eq_true rfl, Nat.le_of_ble_eq_true rfl⟩ rfl (jc.deep (c_PacketWall_isPacket_x hC_M (by omega) (fun r1 z1 w1_0 w1_1 => ?_)) (Nat.le_of_ble_eq_true rfl))
  refine jr.if_ne rfl rfl (by first | (refine rgb (by assumption) ?_; exact rfl) | omega) (fun h5 => ?_) (fun h5 => ?_)
  · have sx5 : (1 : Int) ≤ r1 := by omega
    clear h5
    refine jr.aload_n rfl rfl ?_
    refine jr.getf (i := 3) (v := .ref 3) rfl rfl (nlt rfl) rfl (nlt rfl) rfl rfl rfl rfl ?_
    refine jr.aload_n rfl rfl ?_
    refine jr.getf (i := 2) (v := .ref 2) rfl rfl (nlt rfl) rfl (nlt rfl) rfl rfl rfl rfl ?_
    refine jr.iload_n rfl rfl ?_
    have k2 := kxe_42 (a := 2) rfl (i := x) (by omega) (by omega)
    refine jr.aald (c := (xe 2 x)) rfl (by decide) rfl (by decide) (by decide) rfl (by decide) (by omega) (by omega) k2.1 ?_
    obtain ⟨v4, e4⟩ : ∃ z_, M ((xe 2 x)) 1 = z_ := ⟨_, rfl⟩
    have b4 : (-1) ≤ v4 ∧ v4 ≤ 400 := by rw [← e4]; exact (CI.r hC_M k2.2 (by decide) 1)
    refine jr_v rfl rfl (Or.inl rfl) rfl rfl (nlt rfl) rfl ⟨rfl, Nat.le_of_ble_eq_true rfl, Nat.le_of_ble_eq_true rfl⟩ rfl (jc.deep (c_Headers_readAll_x hC_M (FR.rfl _ M) (show kd 3 = 18 from rfl) k2.2 e4 (p1 (by omega)) (fun M3 hC_M3 hf_M3 w3_0 w3_1 w3_2 => ?_)) (Nat.le_of_ble_eq_true rfl))
    have ht_M3 : FR W_c_PacketWall_field_x T M3 := FR.t ht_M hf_M3 (kw_sub rfl)
    refine jr.aload_n rfl rfl ?_
    refine jr.getf (i := 3) (v := .ref 3) rfl rfl (nlt rfl) rfl (nlt rfl) rfl rfl rfl rfl ?_
    refine jr.iload_n rfl rfl ?_
    refine jr.iload_n rfl rfl ?_
    obtain ⟨v6, e6⟩ : ∃ z_, M3 3 3 = z_ := ⟨_, rfl⟩
    have b6 : 0 ≤ v6 ∧ v6 ≤ 12 := by rw [← e6]; exact (CI.r hC_M3 (show kd 3 = 18 from rfl) (by decide) 3)
    refine jr_v rfl rfl (Or.inl rfl) rfl rfl (nlt rfl) rfl ⟨rfl, Nat.le_of_ble_eq_true rfl, Nat.le_of_ble_eq_true rfl⟩ rfl (jc.deep (c_Headers_valueOf_x hC_M3 (show kd 3 = 18 from rfl) (by omega) (by omega) e6 ((w3_1.resolve_left (fun h => by omega)).2) (fun r5 z5 w5_0 => ?_)) (Nat.le_of_ble_eq_true rfl))
    exact jr.lreturn rfl rfl (q _ _ hC_M3 ht_M3 (by omega) (Or.inr ⟨by rw [p0]; omega, by rw [p0, e4]; exact ⟨v6, (by have hq := HQ.e ((w3_1.resolve_left (fun h => by omega)).2).2.2.2; rw [e6] at hq; exact hq), w5_0⟩⟩))
  · refine jr.ldc2 (x := (-2)) rfl rfl (by decide) ?_
    exact jr.lreturn rfl rfl (q _ _ hC_M ht_M (by omega) (Or.inl ⟨by rw [p0]; omega, by omega⟩))
noncomputable def W_c_PacketWall_sum_x : List (Nat × Nat) := [(18, 3), (18, 4), (18, 5), (18, 6), (18, 7), (19, 1000), (20, 1000), (21, 1000)]
theorem c_PacketWall_sum_x {A : Nat → Option (Nat × (Nat → Int32))} {Q : Option Value → jm → Prop} {f : Int → Int} {T : jm} {M : jm} (hC_M : CI M) (ht_M : FR W_c_PacketWall_sum_x T M) {x : Int} (h_x : (-2147483648) ≤ x ∧ x ≤ 2147483647) {y : Int} (h_y : (-2147483648) ≤ y ∧ y ≤ 2147483647) (p0 : T = M) (p1 : ((0 ≤ x ∧ x ≤ 23) → BY8 M ((xe 2 x) + 1) f)) (q : ∀ (r : Int) (M' : jm), CI M' → FR W_c_PacketWall_sum_x T M' → (-2147483648) ≤ r ∧ r ≤ 2147483647 → (((x < 0 ∨ 23 < x ∨ T (xe 2 x) 1 = -1) ∧ r = -2) ∨ (((0 ≤ x ∧ x ≤ 23) ∧ T (xe 2 x) 1 ≠ -1) ∧ ∃ C : Int, HE f (T (xe 2 x) 1) C ∧ r = dS f f (T (xe 2 x) 1) C y)) → Q (some (.int (Int32.ofInt r))) M') : jc A 6 12 [.ref (0), .int (Int32.ofInt (x)), .int (Int32.ofInt (y))] M Q := by
  refine jc_of (m := xm_12) rfl (Nat.le_of_ble_eq_true rfl) rfl ?_
  refine jr.aload_n rfl rfl ?_
  refine jr.iload_n rfl rfl ?_
  refine jr_v rfl rfl (Or.inl rfl) rfl rfl (nlt rfl) rfl ⟨rfl, Nat.le_of_ble_eq_true rfl, Nat.le_of_ble_eq_true rfl⟩ rfl (jc.deep (c_PacketWall_isPacket_x hC_M (by omega) (fun r1 z1 w1_0 w1_1 => ?_)) (Nat.le_of_ble_eq_true rfl))
  refine jr.if_ne rfl rfl (by first | (refine rgb (by assumption) ?_; exact rfl) | omega) (fun h5 => ?_) (fun h5 => ?_)
  · have sx5 : (1 : Int) ≤ r1 := by omega
    clear h5
    refine jr.aload_n rfl rfl ?_
    refine jr.getf (i := 3) (v := .ref 3) rfl rfl (nlt rfl) rfl (nlt rfl) rfl rfl rfl rfl ?_
    refine jr.aload_n rfl rfl ?_
    refine jr.getf (i := 2) (v := .ref 2) rfl rfl (nlt rfl) rfl (nlt rfl) rfl rfl rfl rfl ?_
    refine jr.iload_n rfl rfl ?_
    have k2 := kxe_42 (a := 2) rfl (i := x) (by omega) (by omega)
    refine jr.aald (c := (xe 2 x)) rfl (by decide) rfl (by decide) (by decide) rfl (by decide) (by omega) (by omega) k2.1 ?_
    obtain ⟨v4, e4⟩ : ∃ z_, M ((xe 2 x)) 1 = z_ := ⟨_, rfl⟩
    have b4 : (-1) ≤ v4 ∧ v4 ≤ 400 := by rw [← e4]; exact (CI.r hC_M k2.2 (by decide) 1)
    refine jr_v rfl rfl (Or.inl rfl) rfl rfl (nlt rfl) rfl ⟨rfl, Nat.le_of_ble_eq_true rfl, Nat.le_of_ble_eq_true rfl⟩ rfl (jc.deep (c_Headers_readAll_x hC_M (FR.rfl _ M) (show kd 3 = 18 from rfl) k2.2 e4 (p1 (by omega)) (fun M3 hC_M3 hf_M3 w3_0 w3_1 w3_2 => ?_)) (Nat.le_of_ble_eq_true rfl))
    have ht_M3 : FR W_c_PacketWall_sum_x T M3 := FR.t ht_M hf_M3 (kw_sub rfl)
    refine jr.aload_n rfl rfl ?_
    refine jr.getf (i := 3) (v := .ref 3) rfl rfl (nlt rfl) rfl (nlt rfl) rfl rfl rfl rfl ?_
    refine jr.iload_n rfl rfl ?_
    obtain ⟨v6, e6⟩ : ∃ z_, M3 3 3 = z_ := ⟨_, rfl⟩
    have b6 : 0 ≤ v6 ∧ v6 ≤ 12 := by rw [← e6]; exact (CI.r hC_M3 (show kd 3 = 18 from rfl) (by decide) 3)
    refine jr_v rfl rfl (Or.inl rfl) rfl rfl (nlt rfl) rfl ⟨rfl, Nat.le_of_ble_eq_true rfl, Nat.le_of_ble_eq_true rfl⟩ rfl (jc.deep (c_Headers_dueSum_x hC_M3 (show kd 3 = 18 from rfl) (by omega) e6 ((w3_1.resolve_left (fun h => by omega)).2).two (fun r5 z5 w5_0 => ?_)) (Nat.le_of_ble_eq_true rfl))
    exact jr.ireturn rfl rfl rfl (q _ _ hC_M3 ht_M3 (by omega) (Or.inr ⟨by rw [p0]; omega, by rw [p0, e4]; exact ⟨v6, (by have hq := HQ.e ((w3_1.resolve_left (fun h => by omega)).2).2.2.2; rw [e6] at hq; exact hq), w5_0⟩⟩))
  · refine jr.bipush rfl (by decide) ?_
    exact jr.ireturn rfl rfl rfl (q _ _ hC_M ht_M (by first | exact rgq rfl | omega) (Or.inl ⟨by rw [p0]; omega, by omega⟩))
theorem c_PacketWall_finding_x {A : Nat → Option (Nat × (Nat → Int32))} {Q : Option Value → jm → Prop} {M : jm} (hC_M : CI M) {x : Int} (h_x : (-2147483648) ≤ x ∧ x ≤ 2147483647) (q : ∀ (r : Int), (-2147483648) ≤ r ∧ r ≤ 2147483647 → (((0 ≤ x ∧ x < 4) ∧ r = M 9 x) ∨ ((x < 0 ∨ 4 ≤ x) ∧ r = -3)) → Q (some (.int (Int32.ofInt r))) M) : jc A 1 7 [.ref (0), .int (Int32.ofInt (x))] M Q := by
  refine jc_of (m := xm_7) rfl (Nat.le_of_ble_eq_true rfl) rfl ?_
  refine jr.iload_n rfl rfl ?_
  refine jr.if_lt rfl rfl (by first | (refine rgb (by assumption) ?_; exact rfl) | omega) (fun h1 => ?_) (fun h1 => ?_)
  · refine jr.bipush rfl (by decide) ?_
    refine jr.goto rfl rfl ?_
    exact jr.ireturn rfl rfl rfl (q _ (by first | exact rgq rfl | omega) (by omega))
  · refine jr.iload_n rfl rfl ?_
    refine jr.aload_n rfl rfl ?_
    refine jr.getf (i := 4) (v := .ref 9) rfl rfl (nlt rfl) rfl (nlt rfl) rfl rfl rfl rfl ?_
    refine jr.alen0 (x := 4) rfl (by decide) rfl rfl ?_
    refine jr.icmp_lt rfl rfl (by first | (refine rgb (by assumption) ?_; exact rfl) | omega) (by first | (refine rgb (by assumption) ?_; exact rfl) | omega) (fun h10 => ?_) (fun h10 => ?_)
    · refine jr.aload_n rfl rfl ?_
      refine jr.getf (i := 4) (v := .ref 9) rfl rfl (nlt rfl) rfl (nlt rfl) rfl rfl rfl rfl ?_
      refine jr.iload_n rfl rfl ?_
      obtain ⟨v1, e1⟩ : ∃ z_, M 9 x = z_ := ⟨_, rfl⟩
      have b1 : (-2147483648) ≤ v1 ∧ v1 ≤ 2147483647 := by rw [← e1]; exact (CI.r hC_M (show kd 9 = 39 from rfl) (by decide) x)
      refine jr.iald (i := x) (x := v1) rfl (nlt rfl) rfl (Nat.le_of_ble_eq_true rfl) (by omega) (by omega) e1 ?_
      exact jr.ireturn rfl rfl rfl (q _ (by omega) (by omega))
    · refine jr.bipush rfl (by decide) ?_
      refine jr.goto rfl rfl ?_
      exact jr.ireturn rfl rfl rfl (q _ (by first | exact rgq rfl | omega) (by omega))
noncomputable def W_c_PacketWall_carried_x : List (Nat × Nat) := [(18, 3), (18, 4), (18, 5), (18, 6), (18, 7), (19, 1000), (20, 1000), (21, 1000)]
theorem c_PacketWall_carried_x_L62 {A : Nat → Option (Nat × (Nat → Int32))} {Q : Option Value → jm → Prop} {f : Int → Int} {T : jm} {C : Int} {x : Int} {y : Int} {z : Int} (q : ∀ (r : Int) (M' : jm), CI M' → FR W_c_PacketWall_carried_x T M' → (-2147483648) ≤ r ∧ r ≤ 2147483647 → (((x < 0 ∨ 23 < x ∨ T (xe 2 x) 1 = -1) ∧ r = -2) ∨ (((0 ≤ x ∧ x ≤ 23) ∧ T (xe 2 x) 1 ≠ -1) ∧ ∃ C : Int, HE f (T (xe 2 x) 1) C ∧ (((y < 0 ∨ z < 0 ∨ C < y + z) ∧ r = -3) ∨ ((0 ≤ y ∧ 0 ≤ z ∧ y + z ≤ C) ∧ r = crr f (T (xe 2 x) 1) z.toNat y)))) → Q (some (.int (Int32.ofInt r))) M') : ∀ (nM : Nat) (M : jm) (w : Int), CI M → FR W_c_PacketWall_carried_x T M → 0 ≤ x ∧ x ≤ 23 → 0 ≤ y ∧ y ≤ 12 → 0 ≤ z ∧ z ≤ 12 → 0 ≤ w ∧ w ≤ 12 → M 3 3 = C → (HS M 3 f (T (xe 2 x) 1)) → (crr f (T (xe 2 x) 1) z.toNat y = w + crr f (T (xe 2 x) 1) (z - w).toNat (y + w)) → (y + z ≤ C ∧ w ≤ z) → (T (xe 2 x) 1 ≠ -1) → 12 - w ≤ nM → jr A 5 xm_11 62 [(1, .int (Int32.ofInt (x))), (2, .int (Int32.ofInt (y))), (3, .int (Int32.ofInt (z))), (4, .int (Int32.ofInt (w))), (0, .ref (0))] [] M Q := by
  intro nM
  induction nM using Nat.strongRecOn with
  | ind nM ih =>
    intro M w hC_M ht_M h_x h_y h_z h_w g_C hy0 hy1 hy2 hy3 hm
    have b_C : 0 ≤ C ∧ C ≤ 12 := by rw [← g_C]; exact (CI.r hC_M (show kd 3 = 18 from rfl) (by decide) 3)
    refine jr.iload rfl rfl ?_
    refine jr.iload_n rfl rfl ?_
    refine jr.icmp_ge rfl rfl (by first | (refine rgb (by assumption) ?_; exact rfl) | omega) (by first | (refine rgb (by assumption) ?_; exact rfl) | omega) (fun h65 => ?_) (fun h65 => ?_)
    · refine jr.iload rfl rfl ?_
      exact jr.ireturn rfl rfl rfl (q _ _ hC_M ht_M (by omega) (Or.inr ⟨by omega, C, (by have hq := HQ.e hy0.2.2.2; rw [g_C] at hq; exact hq), Or.inr ⟨by omega, by first | (rw [hy1, cr_0 (by omega)]; omega) | (rw [hy1, cr_s (by omega), if_neg (by rw [← kA_i (C := C) (by omega), ← w0_0]; omega)]; omega)⟩⟩))
    · refine jr.aload_n rfl rfl ?_
      refine jr.getf (i := 3) (v := .ref 3) rfl rfl (nlt rfl) rfl (nlt rfl) rfl rfl rfl rfl ?_
      refine jr.iload_n rfl rfl ?_
      refine jr.iload rfl rfl ?_
      refine jr.iadd rfl ?_
      refine jr_v rfl rfl (Or.inl rfl) rfl rfl (nlt rfl) rfl ⟨rfl, Nat.le_of_ble_eq_true rfl, Nat.le_of_ble_eq_true rfl⟩ rfl (jc.deep (c_Headers_kindAt_x hC_M (show kd 3 = 18 from rfl) (by omega) g_C hy0 (fun r1 z1 w1_0 => ?_)) (Nat.le_of_ble_eq_true rfl))
      refine jr_s rfl rfl (Or.inl rfl) ⟨Nat.le_of_ble_eq_true rfl, Nat.le_of_ble_eq_true rfl⟩ rfl rfl (jc.deep (c_PacketWall_isCarriedKind_x hC_M (by omega) (fun r2 z2 w2_0 w2_1 => ?_)) (Nat.le_of_ble_eq_true rfl))
      refine jr.if_eq rfl rfl (by first | (refine rgb (by assumption) ?_; exact rfl) | omega) (fun h82 => ?_) (fun h82 => ?_)
      · refine jr.iload rfl rfl ?_
        exact jr.ireturn rfl rfl rfl (q _ _ hC_M ht_M (by omega) (Or.inr ⟨by omega, C, (by have hq := HQ.e hy0.2.2.2; rw [g_C] at hq; exact hq), Or.inr ⟨by omega, by first | (rw [hy1, cr_0 (by omega)]; omega) | (rw [hy1, cr_s (by omega), if_neg (by rw [← kA_i (C := C) (by omega), ← w1_0]; omega)]; omega)⟩⟩))
      · have sx82 : (1 : Int) ≤ r2 := by omega
        clear h82
        refine jr.iinc (ls' := [_, _, _, _, _]) rfl rfl (nlt rfl) rfl ?_
        refine jr.goto rfl rfl ?_
        refine jr.pick (ls := [_, _, _, _, _]) [1, 2, 3, 0, 4] rfl rfl ?_
        exact ih (nM - 1) (by omega) M (w + 1) hC_M ht_M (by omega) (by omega) (by omega) (by omega) g_C hy0 (by rw [hy1, cr_s (by omega), if_pos (by rw [← kA_i (C := C) (by omega), ← w1_0]; omega), show z - w - 1 = z - (w + 1) from by omega, show y + w + 1 = y + (w + 1) from by omega]; omega) (by omega) hy3 (by omega)
theorem c_PacketWall_carried_x {A : Nat → Option (Nat × (Nat → Int32))} {Q : Option Value → jm → Prop} {f : Int → Int} {T : jm} {M : jm} (hC_M : CI M) (ht_M : FR W_c_PacketWall_carried_x T M) {x : Int} (h_x : (-2147483648) ≤ x ∧ x ≤ 2147483647) {y : Int} (h_y : (-2147483648) ≤ y ∧ y ≤ 2147483647) {z : Int} (h_z : (-2147483648) ≤ z ∧ z ≤ 2147483647) (p0 : T = M) (p1 : ((0 ≤ x ∧ x ≤ 23) → BY8 M ((xe 2 x) + 1) f)) (q : ∀ (r : Int) (M' : jm), CI M' → FR W_c_PacketWall_carried_x T M' → (-2147483648) ≤ r ∧ r ≤ 2147483647 → (((x < 0 ∨ 23 < x ∨ T (xe 2 x) 1 = -1) ∧ r = -2) ∨ (((0 ≤ x ∧ x ≤ 23) ∧ T (xe 2 x) 1 ≠ -1) ∧ ∃ C : Int, HE f (T (xe 2 x) 1) C ∧ (((y < 0 ∨ z < 0 ∨ C < y + z) ∧ r = -3) ∨ ((0 ≤ y ∧ 0 ≤ z ∧ y + z ≤ C) ∧ r = crr f (T (xe 2 x) 1) z.toNat y)))) → Q (some (.int (Int32.ofInt r))) M') : jc A 6 11 [.ref (0), .int (Int32.ofInt (x)), .int (Int32.ofInt (y)), .int (Int32.ofInt (z))] M Q := by
  refine jc_of (m := xm_11) rfl (Nat.le_of_ble_eq_true rfl) rfl ?_
  refine jr.aload_n rfl rfl ?_
  refine jr.iload_n rfl rfl ?_
  refine jr_v rfl rfl (Or.inl rfl) rfl rfl (nlt rfl) rfl ⟨rfl, Nat.le_of_ble_eq_true rfl, Nat.le_of_ble_eq_true rfl⟩ rfl (jc.deep (c_PacketWall_isPacket_x hC_M (by omega) (fun r1 z1 w1_0 w1_1 => ?_)) (Nat.le_of_ble_eq_true rfl))
  refine jr.if_ne rfl rfl (by first | (refine rgb (by assumption) ?_; exact rfl) | omega) (fun h5 => ?_) (fun h5 => ?_)
  · have sx5 : (1 : Int) ≤ r1 := by omega
    clear h5
    refine jr.aload_n rfl rfl ?_
    refine jr.getf (i := 3) (v := .ref 3) rfl rfl (nlt rfl) rfl (nlt rfl) rfl rfl rfl rfl ?_
    refine jr.aload_n rfl rfl ?_
    refine jr.getf (i := 2) (v := .ref 2) rfl rfl (nlt rfl) rfl (nlt rfl) rfl rfl rfl rfl ?_
    refine jr.iload_n rfl rfl ?_
    have k2 := kxe_42 (a := 2) rfl (i := x) (by omega) (by omega)
    refine jr.aald (c := (xe 2 x)) rfl (by decide) rfl (by decide) (by decide) rfl (by decide) (by omega) (by omega) k2.1 ?_
    obtain ⟨v4, e4⟩ : ∃ z_, M ((xe 2 x)) 1 = z_ := ⟨_, rfl⟩
    have b4 : (-1) ≤ v4 ∧ v4 ≤ 400 := by rw [← e4]; exact (CI.r hC_M k2.2 (by decide) 1)
    refine jr_v rfl rfl (Or.inl rfl) rfl rfl (nlt rfl) rfl ⟨rfl, Nat.le_of_ble_eq_true rfl, Nat.le_of_ble_eq_true rfl⟩ rfl (jc.deep (c_Headers_readAll_x hC_M (FR.rfl _ M) (show kd 3 = 18 from rfl) k2.2 e4 (p1 (by omega)) (fun M3 hC_M3 hf_M3 w3_0 w3_1 w3_2 => ?_)) (Nat.le_of_ble_eq_true rfl))
    have ht_M3 : FR W_c_PacketWall_carried_x T M3 := FR.t ht_M hf_M3 (kw_sub rfl)
    refine jr.iload_n rfl rfl ?_
    refine jr.if_lt rfl rfl (by first | (refine rgb (by assumption) ?_; exact rfl) | omega) (fun h25 => ?_) (fun h25 => ?_)
    · refine jr.bipush rfl (by decide) ?_
      obtain ⟨v5, e5⟩ : ∃ z_, M3 3 3 = z_ := ⟨_, rfl⟩
      have b5 : 0 ≤ v5 ∧ v5 ≤ 12 := by rw [← e5]; exact (CI.r hC_M3 (show kd 3 = 18 from rfl) (by decide) 3)
      exact jr.ireturn rfl rfl rfl (q _ _ hC_M3 ht_M3 (by omega) (Or.inr ⟨by rw [p0]; omega, by rw [p0, e4]; exact ⟨v5, (by have hq := HQ.e ((w3_1.resolve_left (fun h => by omega)).2).2.2.2; rw [e5] at hq; exact hq), Or.inl ⟨by omega, by omega⟩⟩⟩))
    · refine jr.iload_n rfl rfl ?_
      refine jr.if_lt rfl rfl (by first | (refine rgb (by assumption) ?_; exact rfl) | omega) (fun h29 => ?_) (fun h29 => ?_)
      · refine jr.bipush rfl (by decide) ?_
        obtain ⟨v6, e6⟩ : ∃ z_, M3 3 3 = z_ := ⟨_, rfl⟩
        have b6 : 0 ≤ v6 ∧ v6 ≤ 12 := by rw [← e6]; exact (CI.r hC_M3 (show kd 3 = 18 from rfl) (by decide) 3)
        exact jr.ireturn rfl rfl rfl (q _ _ hC_M3 ht_M3 (by omega) (Or.inr ⟨by rw [p0]; omega, by rw [p0, e4]; exact ⟨v6, (by have hq := HQ.e ((w3_1.resolve_left (fun h => by omega)).2).2.2.2; rw [e6] at hq; exact hq), Or.inl ⟨by omega, by omega⟩⟩⟩))
      · refine jr.iload_n rfl rfl ?_
        refine jr.aload_n rfl rfl ?_
        refine jr.getf (i := 3) (v := .ref 3) rfl rfl (nlt rfl) rfl (nlt rfl) rfl rfl rfl rfl ?_
        obtain ⟨v7, e7⟩ : ∃ z_, M3 3 3 = z_ := ⟨_, rfl⟩
        have b7 : 0 ≤ v7 ∧ v7 ≤ 12 := by rw [← e7]; exact (CI.r hC_M3 (show kd 3 = 18 from rfl) (by decide) 3)
        refine jr.getf (i := 3) (x := v7) (v := .int (Int32.ofInt (v7))) rfl rfl (nlt rfl) rfl (nlt rfl) rfl rfl e7 rfl ?_
        refine jr.icmp_gt rfl rfl (by first | (refine rgb (by assumption) ?_; exact rfl) | omega) (by first | (refine rgb (by assumption) ?_; exact rfl) | omega) (fun h40 => ?_) (fun h40 => ?_)
        · refine jr.bipush rfl (by decide) ?_
          exact jr.ireturn rfl rfl rfl (q _ _ hC_M3 ht_M3 (by first | exact rgq rfl | omega) (Or.inr ⟨by rw [p0]; omega, by rw [p0, e4]; exact ⟨v7, (by have hq := HQ.e ((w3_1.resolve_left (fun h => by omega)).2).2.2.2; rw [e7] at hq; exact hq), Or.inl ⟨by omega, by omega⟩⟩⟩))
        · refine jr.iload_n rfl rfl ?_
          refine jr.aload_n rfl rfl ?_
          refine jr.getf (i := 3) (v := .ref 3) rfl rfl (nlt rfl) rfl (nlt rfl) rfl rfl rfl rfl ?_
          refine jr.getf (i := 3) (x := v7) (v := .int (Int32.ofInt (v7))) rfl rfl (nlt rfl) rfl (nlt rfl) rfl rfl e7 rfl ?_
          refine jr.iload_n rfl rfl ?_
          refine jr.isub rfl ?_
          refine jr.icmp_le rfl rfl (by first | (refine rgb (by assumption) ?_; exact rfl) | omega) (by first | (refine rgb (by assumption) ?_; exact rfl) | omega) (fun h53 => ?_) (fun h53 => ?_)
          · refine jr.iconst rfl ?_
            refine jr.istore (ls' := [_, _, _, _, _]) rfl (nlt rfl) rfl ?_
            refine jr.pick (ls := [_, _, _, _, _]) [2, 3, 4, 0, 1] rfl rfl ?_
            exact c_PacketWall_carried_x_L62  q 12 M3 0 hC_M3 ht_M3 (by omega) (by omega) (by omega) (by omega) e7 (by rw [p0, e4]; exact ((w3_1.resolve_left (fun h => by omega)).2)) (by rw [show z - 0 = z from by omega, show y + 0 = y from by omega]; omega) (by omega) (by rw [p0]; omega) (by omega)
          · refine jr.bipush rfl (by decide) ?_
            exact jr.ireturn rfl rfl rfl (q _ _ hC_M3 ht_M3 (by first | exact rgq rfl | omega) (Or.inr ⟨by rw [p0]; omega, by rw [p0, e4]; exact ⟨v7, (by have hq := HQ.e ((w3_1.resolve_left (fun h => by omega)).2).2.2.2; rw [e7] at hq; exact hq), Or.inl ⟨by omega, by omega⟩⟩⟩))
  · refine jr.bipush rfl (by decide) ?_
    exact jr.ireturn rfl rfl rfl (q _ _ hC_M ht_M (by first | exact rgq rfl | omega) (Or.inl ⟨by rw [p0]; omega, by omega⟩))
theorem HQ.o {T M : jm} {t c : Nat} {f : Int → Int} {N : Int} (h : HQ T t f N) (hk : kd t = 18) (hc : kd c = 34) (o : OR1 T M c) : HQ M t f N := by
  have n0 : t ≠ c := kd_ne (by rw [hk, hc]; decide)
  have n1 : t + 1 ≠ c := kd_ne (by rw [(kf_18_0 hk).2, hc]; decide)
  have n2 : t + 2 ≠ c := kd_ne (by rw [(kf_18_1 hk).2, hc]; decide)
  have n3 : t + 3 ≠ c := kd_ne (by rw [(kf_18_2 hk).2, hc]; decide)
  unfold HQ HR at h ⊢
  rw [o t 3 n0, o t 4 n0, o t 5 n0, o t 6 n0]
  refine ⟨h.1, fun i h0 h1 => ?_, h.2.2⟩
  rw [o (t + 1) i n1, o (t + 2) i n2, o (t + 3) i n3]
  exact h.2.1 i h0 h1
theorem HS2.o {T M : jm} {t : Nat} {f g g2 : Int → Int} {N S : Int} (h : HS2 T t f g N) (hk : kd t = 18) (hS : T t 7 = S) (k1 : kd S.toNat = 33) (o : OR1 T M (S.toNat + 1)) (hb : BY8 M (S.toNat + 1) g2) : HS2 M t f g2 N := by
  have hc := (kf_33_0 k1).2
  have n0 : t ≠ S.toNat + 1 := kd_ne (by rw [hk, hc]; decide)
  have e7 : M t 7 = S := by rw [o t 7 n0]; exact hS
  refine ⟨by rw [e7]; exact hb, ?_, h.2.2.1, h.2.2.2.1.o hk hc o, h.2.2.2.2⟩
  rw [e7, o S.toNat 1 (by omega), ← hS]
  exact h.2.1
/-- repair goes on: headers below i + 1 are left, o were changed -/
noncomputable def RPI (M : jm) (t : Nat) (f : Int → Int) (N C i o : Int) : Prop := ∃ g : Int → Int, HS2 M t f g N ∧ rpF f N C (i + 1).toNat g = rpF f N C C.toNat f ∧ o + rpN f N C (i + 1).toNat g = rpN f N C C.toNat f
theorem RPI.s {M M2 : jm} {t : Nat} {f g : Int → Int} {N C i o S r : Int} (h1 : HS2 M t f g N) (h2 : rpF f N C (i + 1).toNat g = rpF f N C C.toNat f) (h3 : o + rpN f N C (i + 1).toNat g = rpN f N C C.toNat f) (hi : 0 ≤ i) (hk : kd t = 18) (hS : M t 7 = S) (k1 : kd S.toNat = 33) (w : r = mdR f N C i g ∧ BY8 M2 (S.toNat + 1) (mdF f N C i g) ∧ OR1 M M2 (S.toNat + 1)) {i2 o2 : Int} (ei : i2 = i - 1) (eo : o2 = o + r) : RPI M2 t f N C i2 o2 := by
  subst ei
  refine ⟨mdF f N C i g, h1.o hk hS k1 w.2.2 w.2.1, ?_, ?_⟩
  · rw [show i - 1 + 1 = i by omega, ← (rp_s hi).1]; exact h2
  · rw [show i - 1 + 1 = i by omega, ← h3, (rp_s hi).2, eo, w.1]; omega
theorem RPI.e {M : jm} {t : Nat} {f : Int → Int} {N C i o S : Int} (h : RPI M t f N C i o) (hi : i < 0) (hS : M t 7 = S) : o = rpN f N C C.toNat f ∧ BY8 M (S.toNat + 1) (rpF f N C C.toNat f) := by
  obtain ⟨g, h1, h2, h3⟩ := h
  rw [(rp_0 hi).1] at h2
  rw [(rp_0 hi).2] at h3
  refine ⟨by omega, ?_⟩
  rw [← h2, ← hS]
  exact h1.1
/-- of the packets' rows only c may have changed -/
noncomputable def OP (T M : jm) (c : Nat) : Prop := ∀ (b : Nat) (k : Int), b ≠ c → kd b = 34 → M b k = T b k
theorem OP.f {W : List (Nat × Nat)} {T M : jm} (c : Nat) (h : FR W T M) (h1 : ksep W [(34, 1000)] = true) : OP T M c := fun b k _ hb => h.s h1 hb 1000 (by decide) k (Or.inl rfl)
theorem OP.t {T M M2 : jm} {c : Nat} (h : OP T M c) (h1 : OR1 M M2 c) : OP T M2 c := fun b k hb hk => (h1 b k hb).trans (h b k hb hk)
noncomputable def W_c_PacketWall_repair_x : List (Nat × Nat) := [(18, 3), (18, 4), (18, 5), (18, 6), (18, 7), (19, 1000), (20, 1000), (21, 1000), (34, 1000)]
theorem c_PacketWall_repair_x_L36 {A : Nat → Option (Nat × (Nat → Int32))} {Q : Option Value → jm → Prop} {f : Int → Int} {T : jm} {C : Int} {S : Int} {x : Int} (q : ∀ (r : Int) (M' : jm), CI M' → FR W_c_PacketWall_repair_x T M' → (-2147483648) ≤ r ∧ r ≤ 2147483647 → (((x < 0 ∨ 23 < x ∨ T (xe 2 x) 1 = -1) ∧ r = -2 ∧ OP T M' 0) ∨ (((0 ≤ x ∧ x ≤ 23) ∧ T (xe 2 x) 1 ≠ -1) ∧ OP T M' ((xe 2 x) + 1) ∧ ∃ C : Int, HE f (T (xe 2 x) 1) C ∧ r = rpN f (T (xe 2 x) 1) C C.toNat f ∧ BY8 M' ((xe 2 x) + 1) (rpF f (T (xe 2 x) 1) C C.toNat f))) → Q (some (.int (Int32.ofInt r))) M') : ∀ (nM : Nat) (M : jm) (o : Int) (i : Int), CI M → FR W_c_PacketWall_repair_x T M → 0 ≤ x ∧ x ≤ 23 → 0 ≤ o ∧ o ≤ 12 → (-1) ≤ i ∧ i ≤ 11 → M 3 3 = C → M 3 7 = S → (RPI M 3 f (T (xe 2 x) 1) C i o) → (S = (((xe 2 x) : Nat) : Int)) → (HE f (T (xe 2 x) 1) C) → (OP T M ((xe 2 x) + 1)) → (T (xe 2 x) 1 ≠ -1) → (i < C ∧ o + i ≤ 11) → i + 1 ≤ nM → jr A 5 xm_13 36 [(1, .int (Int32.ofInt (x))), (2, .int (Int32.ofInt (o))), (3, .int (Int32.ofInt (i))), (0, .ref (0))] [] M Q := by
  intro nM
  induction nM using Nat.strongRecOn with
  | ind nM ih =>
    intro M o i hC_M ht_M h_x h_o h_i g_C g_S hy0 hy1 hy2 hy3 hy4 hy5 hm
    have b_C : 0 ≤ C ∧ C ≤ 12 := by rw [← g_C]; exact (CI.r hC_M (show kd 3 = 18 from rfl) (by decide) 3)
    have k_S : kd S.toNat = 33 := (congrArg (fun z : Int => kd z.toNat) g_S).symm.trans (CI.x hC_M (show kd 3 = 18 from rfl) 7 rfl (by decide))
    obtain ⟨g0, hg1, hg2, hg3⟩ := id hy0
    refine jr.iload_n rfl rfl ?_
    refine jr.if_lt rfl rfl (by first | (refine rgb (by assumption) ?_; exact rfl) | omega) (fun h37 => ?_) (fun h37 => ?_)
    · refine jr.iload_n rfl rfl ?_
      exact jr.ireturn rfl rfl rfl (q _ _ hC_M ht_M (by omega) (Or.inr ⟨⟨by omega, hy4⟩, hy3, C, hy2, (by have hq := RPI.e hy0 (by omega) g_S; rw [show S.toNat = (xe 2 x) from by omega] at hq; exact hq)⟩))
    · refine jr.aload_n rfl rfl ?_
      refine jr.getf (i := 3) (v := .ref 3) rfl rfl (nlt rfl) rfl (nlt rfl) rfl rfl rfl rfl ?_
      refine jr.iload_n rfl rfl ?_
      have k1_S : kd (S).toNat = 33 := (congrArg (fun z : Int => kd z.toNat) g_S).symm.trans (CI.x hC_M (show kd 3 = 18 from rfl) 7 rfl (by decide))
      refine jr_v rfl rfl (Or.inl rfl) rfl rfl (nlt rfl) rfl ⟨rfl, Nat.le_of_ble_eq_true rfl, Nat.le_of_ble_eq_true rfl⟩ rfl (jc.deep (c_Headers_mend_x hC_M (FR.rfl _ M) (show kd 3 = 18 from rfl) (by omega) g_C g_S rfl hg1 (fun r1 M1 hC_M1 hf_M1 z1 w1_0 => ?_)) (Nat.le_of_ble_eq_true rfl))
      have ht_M1 : FR W_c_PacketWall_repair_x T M1 := FR.t ht_M hf_M1 (kw_sub rfl)
      refine jr.if_eq rfl rfl (by first | (refine rgb (by assumption) ?_; exact rfl) | omega) (fun h48 => ?_) (fun h48 => ?_)
      · refine jr.iinc (ls' := [_, _, _, _]) rfl rfl (nlt rfl) rfl ?_
        refine jr.goto rfl rfl ?_
        have e2 : M1 3 3 = C := (hf_M1.g (show kd 3 = 18 from rfl) rfl).trans g_C
        have e3 : M1 3 7 = S := (hf_M1.g (show kd 3 = 18 from rfl) rfl).trans g_S
        refine jr.pick (ls := [_, _, _, _]) [1, 2, 0, 3] rfl rfl ?_
        exact ih (nM - 1) (by omega) M1 o (i + (-1)) hC_M1 ht_M1 (by omega) (by omega) (by omega) e2 e3 (RPI.s hg1 hg2 hg3 (by omega) (show kd 3 = 18 from rfl) g_S k_S w1_0 (by omega) (by omega)) hy1 hy2 (hy3.t (by have hq := w1_0.2.2; rw [show S.toNat = (xe 2 x) from by omega] at hq; exact hq)) hy4 (by omega) (by omega)
      · have sx48 : (1 : Int) ≤ r1 := by omega
        clear h48
        refine jr.iinc (ls' := [_, _, _, _]) rfl rfl (nlt rfl) rfl ?_
        refine jr.iinc (ls' := [_, _, _, _]) rfl rfl (nlt rfl) rfl ?_
        refine jr.goto rfl rfl ?_
        have e4 : M1 3 3 = C := (hf_M1.g (show kd 3 = 18 from rfl) rfl).trans g_C
        have e5 : M1 3 7 = S := (hf_M1.g (show kd 3 = 18 from rfl) rfl).trans g_S
        refine jr.pick (ls := [_, _, _, _]) [2, 1, 0, 3] rfl rfl ?_
        exact ih (nM - 1) (by omega) M1 (o + 1) (i + (-1)) hC_M1 ht_M1 (by omega) (by omega) (by omega) e4 e5 (RPI.s hg1 hg2 hg3 (by omega) (show kd 3 = 18 from rfl) g_S k_S w1_0 (by omega) (by omega)) hy1 hy2 (hy3.t (by have hq := w1_0.2.2; rw [show S.toNat = (xe 2 x) from by omega] at hq; exact hq)) hy4 (by omega) (by omega)
theorem c_PacketWall_repair_x {A : Nat → Option (Nat × (Nat → Int32))} {Q : Option Value → jm → Prop} {f : Int → Int} {T : jm} {M : jm} (hC_M : CI M) (ht_M : FR W_c_PacketWall_repair_x T M) {x : Int} (h_x : (-2147483648) ≤ x ∧ x ≤ 2147483647) (p0 : T = M) (p1 : ((0 ≤ x ∧ x ≤ 23) → BY8 M ((xe 2 x) + 1) f)) (q : ∀ (r : Int) (M' : jm), CI M' → FR W_c_PacketWall_repair_x T M' → (-2147483648) ≤ r ∧ r ≤ 2147483647 → (((x < 0 ∨ 23 < x ∨ T (xe 2 x) 1 = -1) ∧ r = -2 ∧ OP T M' 0) ∨ (((0 ≤ x ∧ x ≤ 23) ∧ T (xe 2 x) 1 ≠ -1) ∧ OP T M' ((xe 2 x) + 1) ∧ ∃ C : Int, HE f (T (xe 2 x) 1) C ∧ r = rpN f (T (xe 2 x) 1) C C.toNat f ∧ BY8 M' ((xe 2 x) + 1) (rpF f (T (xe 2 x) 1) C C.toNat f))) → Q (some (.int (Int32.ofInt r))) M') : jc A 6 13 [.ref (0), .int (Int32.ofInt (x))] M Q := by
  refine jc_of (m := xm_13) rfl (Nat.le_of_ble_eq_true rfl) rfl ?_
  refine jr.aload_n rfl rfl ?_
  refine jr.iload_n rfl rfl ?_
  refine jr_v rfl rfl (Or.inl rfl) rfl rfl (nlt rfl) rfl ⟨rfl, Nat.le_of_ble_eq_true rfl, Nat.le_of_ble_eq_true rfl⟩ rfl (jc.deep (c_PacketWall_isPacket_x hC_M (by omega) (fun r1 z1 w1_0 w1_1 => ?_)) (Nat.le_of_ble_eq_true rfl))
  refine jr.if_ne rfl rfl (by first | (refine rgb (by assumption) ?_; exact rfl) | omega) (fun h5 => ?_) (fun h5 => ?_)
  · have sx5 : (1 : Int) ≤ r1 := by omega
    clear h5
    refine jr.aload_n rfl rfl ?_
    refine jr.getf (i := 3) (v := .ref 3) rfl rfl (nlt rfl) rfl (nlt rfl) rfl rfl rfl rfl ?_
    refine jr.aload_n rfl rfl ?_
    refine jr.getf (i := 2) (v := .ref 2) rfl rfl (nlt rfl) rfl (nlt rfl) rfl rfl rfl rfl ?_
    refine jr.iload_n rfl rfl ?_
    have k2 := kxe_42 (a := 2) rfl (i := x) (by omega) (by omega)
    refine jr.aald (c := (xe 2 x)) rfl (by decide) rfl (by decide) (by decide) rfl (by decide) (by omega) (by omega) k2.1 ?_
    obtain ⟨v4, e4⟩ : ∃ z_, M ((xe 2 x)) 1 = z_ := ⟨_, rfl⟩
    have b4 : (-1) ≤ v4 ∧ v4 ≤ 400 := by rw [← e4]; exact (CI.r hC_M k2.2 (by decide) 1)
    refine jr_v rfl rfl (Or.inl rfl) rfl rfl (nlt rfl) rfl ⟨rfl, Nat.le_of_ble_eq_true rfl, Nat.le_of_ble_eq_true rfl⟩ rfl (jc.deep (c_Headers_readAll_x hC_M (FR.rfl _ M) (show kd 3 = 18 from rfl) k2.2 e4 (p1 (by omega)) (fun M3 hC_M3 hf_M3 w3_0 w3_1 w3_2 => ?_)) (Nat.le_of_ble_eq_true rfl))
    have ht_M3 : FR W_c_PacketWall_repair_x T M3 := FR.t ht_M hf_M3 (kw_sub rfl)
    refine jr.iconst rfl ?_
    refine jr.istore_n (ls' := [_, _, _]) rfl (nlt rfl) rfl ?_
    refine jr.aload_n rfl rfl ?_
    refine jr.getf (i := 3) (v := .ref 3) rfl rfl (nlt rfl) rfl (nlt rfl) rfl rfl rfl rfl ?_
    obtain ⟨v5, e5⟩ : ∃ z_, M3 3 3 = z_ := ⟨_, rfl⟩
    have b5 : 0 ≤ v5 ∧ v5 ≤ 12 := by rw [← e5]; exact (CI.r hC_M3 (show kd 3 = 18 from rfl) (by decide) 3)
    refine jr.getf (i := 3) (x := v5) (v := .int (Int32.ofInt (v5))) rfl rfl (nlt rfl) rfl (nlt rfl) rfl rfl e5 rfl ?_
    refine jr.iconst rfl ?_
    refine jr.isub rfl ?_
    refine jr.istore_n (ls' := [_, _, _, _]) rfl (nlt rfl) rfl ?_
    obtain ⟨v6, e6⟩ : ∃ z_, M3 3 7 = z_ := ⟨_, rfl⟩
    have b6 : 0 ≤ v6 ∧ v6 ≤ 597 := by rw [← e6]; exact (CI.r hC_M3 (show kd 3 = 18 from rfl) (by decide) 7)
    refine jr.pick (ls := [_, _, _, _]) [3, 1, 0, 2] rfl rfl ?_
    exact c_PacketWall_repair_x_L36  q 12 M3 0 (v5 - 1) hC_M3 ht_M3 (by omega) (by omega) (by omega) e5 e6 (by rw [p0, e4]; exact ⟨f, ((w3_1.resolve_left (fun h => by omega)).2).two, by rw [show v5 - 1 + 1 = v5 from by omega], by rw [show v5 - 1 + 1 = v5 from by omega]; omega⟩) (by omega) (by rw [p0, e4]; exact (by have hq := HQ.e ((w3_1.resolve_left (fun h => by omega)).2).2.2.2; rw [e5] at hq; exact hq)) (by rw [p0]; exact OP.f _ hf_M3 rfl) (by rw [p0]; omega) (by omega) (by omega)
  · refine jr.bipush rfl (by decide) ?_
    exact jr.ireturn rfl rfl rfl (q _ _ hC_M ht_M (by first | exact rgq rfl | omega) (Or.inl ⟨by rw [p0]; omega, by omega, by rw [p0]; exact fun _ _ _ _ => rfl⟩))
theorem hsF_r (f : Int → Int) (n c bk k a : Int) : 0 ≤ hsF f n c bk k a ∧ hsF f n c bk k a ≤ 6 := by
  unfold hsF
  (repeat' split) <;> omega
noncomputable def W_c_PacketWall_read_x : List (Nat × Nat) := [(18, 3), (18, 4), (18, 5), (18, 6), (18, 7), (19, 1000), (20, 1000), (21, 1000), (39, 1000)]
theorem c_PacketWall_read_x {A : Nat → Option (Nat × (Nat → Int32))} {Q : Option Value → jm → Prop} {f : Int → Int} {T : jm} {M : jm} (hC_M : CI M) (ht_M : FR W_c_PacketWall_read_x T M) {x : Int} (h_x : (-2147483648) ≤ x ∧ x ≤ 2147483647) (p0 : T = M) (p1 : ((0 ≤ x ∧ x ≤ 23) → BY8 M ((xe 2 x) + 1) f)) (q : ∀ (r : Int) (M' : jm), CI M' → FR W_c_PacketWall_read_x T M' → (-2147483648) ≤ r ∧ r ≤ 2147483647 → (((x < 0 ∨ 23 < x) ∧ r = -3 ∧ M' = T) ∨ (((0 ≤ x ∧ x ≤ 23) ∧ T (xe 2 x) 1 = -1) ∧ (M' 9 0 = 2 ∧ M' 9 1 = 0 ∧ M' 9 2 = -1 ∧ M' 9 3 = -1) ∧ r = -12) ∨ (((0 ≤ x ∧ x ≤ 23) ∧ T (xe 2 x) 1 ≠ -1) ∧ ∃ C : Int, HE f (T (xe 2 x) 1) C ∧ RDF f (T (xe 2 x) 1) C (M' 9 0) (M' 9 1) (M' 9 2) (M' 9 3) r)) → Q (some (.int (Int32.ofInt r))) M') : jc A 6 6 [.ref (0), .int (Int32.ofInt (x))] M Q := by
  refine jc_of (m := xm_6) rfl (Nat.le_of_ble_eq_true rfl) rfl ?_
  refine jr.iload_n rfl rfl ?_
  refine jr.if_lt rfl rfl (by first | (refine rgb (by assumption) ?_; exact rfl) | omega) (fun h1 => ?_) (fun h1 => ?_)
  · refine jr.bipush rfl (by decide) ?_
    exact jr.ireturn rfl rfl rfl (q _ _ hC_M ht_M (by first | exact rgq rfl | omega) (Or.inl ⟨by omega, by omega, by rw [p0]⟩))
  · refine jr.iload_n rfl rfl ?_
    refine jr.bipush rfl (jbp _ (nlt rfl)) ?_
    refine jr.icmp_lt rfl rfl (by first | (refine rgb (by assumption) ?_; exact rfl) | omega) (rgl rfl) (fun h7 => ?_) (fun h7 => ?_)
    · refine jr.aload_n rfl rfl ?_
      refine jr.getf (i := 3) (v := .ref 3) rfl rfl (nlt rfl) rfl (nlt rfl) rfl rfl rfl rfl ?_
      refine jr.aload_n rfl rfl ?_
      refine jr.getf (i := 2) (v := .ref 2) rfl rfl (nlt rfl) rfl (nlt rfl) rfl rfl rfl rfl ?_
      refine jr.iload_n rfl rfl ?_
      have k1 := kxe_42 (a := 2) rfl (i := x) (by omega) (by omega)
      refine jr.aald (c := (xe 2 x)) rfl (by decide) rfl (by decide) (by decide) rfl (by decide) (by omega) (by omega) k1.1 ?_
      obtain ⟨v3, e3⟩ : ∃ z_, M ((xe 2 x)) 1 = z_ := ⟨_, rfl⟩
      have b3 : (-1) ≤ v3 ∧ v3 ≤ 400 := by rw [← e3]; exact (CI.r hC_M k1.2 (by decide) 1)
      refine jr_v rfl rfl (Or.inl rfl) rfl rfl (nlt rfl) rfl ⟨rfl, Nat.le_of_ble_eq_true rfl, Nat.le_of_ble_eq_true rfl⟩ rfl (jc.deep (c_Headers_readAll_x hC_M (FR.rfl _ M) (show kd 3 = 18 from rfl) k1.2 e3 (p1 (by omega)) (fun M2 hC_M2 hf_M2 w2_0 w2_1 w2_2 => ?_)) (Nat.le_of_ble_eq_true rfl))
      have ht_M2 : FR W_c_PacketWall_read_x T M2 := FR.t ht_M hf_M2 (kw_sub rfl)
      obtain ⟨v4, e4⟩ : ∃ z_, M2 3 4 = z_ := ⟨_, rfl⟩
      have b4 : (-2147483648) ≤ v4 ∧ v4 ≤ 2147483647 := by rw [← e4]; exact (CI.r hC_M2 (show kd 3 = 18 from rfl) (by decide) 4)
      have hfb : 0 ≤ v4 ∧ v4 ≤ 6 := (by rw [← e4]; exact Or.elim w2_1 (fun h => by omega) (fun h => Or.elim h.2.2.2.2.2.2 (fun u => by omega) (fun u => by rw [u.2.2.1]; exact hsF_r _ _ _ _ _ _)))
      refine jr.aload_n rfl rfl ?_
      refine jr.getf (i := 4) (v := .ref 9) rfl rfl (nlt rfl) rfl (nlt rfl) rfl rfl rfl rfl ?_
      refine jr.iconst rfl ?_
      refine jr.aload_n rfl rfl ?_
      refine jr.getf (i := 3) (v := .ref 3) rfl rfl (nlt rfl) rfl (nlt rfl) rfl rfl rfl rfl ?_
      refine jr.getf (i := 4) (x := v4) (v := .int (Int32.ofInt (v4))) rfl rfl (nlt rfl) rfl (nlt rfl) rfl rfl e4 rfl ?_
      refine jr.iast (i := 0) (x := v4) rfl (nlt rfl) rfl (Nat.le_of_ble_eq_true rfl) (by omega) (by omega) ?_
      refine jr.aload_n rfl rfl ?_
      refine jr.getf (i := 4) (v := .ref 9) rfl rfl (nlt rfl) rfl (nlt rfl) rfl rfl rfl rfl ?_
      refine jr.iconst rfl ?_
      refine jr.aload_n rfl rfl ?_
      refine jr.getf (i := 3) (v := .ref 3) rfl rfl (nlt rfl) rfl (nlt rfl) rfl rfl rfl rfl ?_
      obtain ⟨v5, e5⟩ : ∃ z_, M2 3 3 = z_ := ⟨_, rfl⟩
      have b5 : 0 ≤ v5 ∧ v5 ≤ 12 := by rw [← e5]; exact (CI.r hC_M2 (show kd 3 = 18 from rfl) (by decide) 3)
      refine jr.getf (i := 3) (x := v5) (v := .int (Int32.ofInt (v5))) rfl rfl (nlt rfl) rfl (nlt rfl) rfl rfl ((ju_c _ _ (by decide)).trans e5) rfl ?_
      refine jr.iast (i := 1) (x := v5) rfl (nlt rfl) rfl (Nat.le_of_ble_eq_true rfl) (by omega) (by omega) ?_
      refine jr.aload_n rfl rfl ?_
      refine jr.getf (i := 4) (v := .ref 9) rfl rfl (nlt rfl) rfl (nlt rfl) rfl rfl rfl rfl ?_
      refine jr.iconst rfl ?_
      refine jr.aload_n rfl rfl ?_
      refine jr.getf (i := 3) (v := .ref 3) rfl rfl (nlt rfl) rfl (nlt rfl) rfl rfl rfl rfl ?_
      obtain ⟨v6, e6⟩ : ∃ z_, M2 3 5 = z_ := ⟨_, rfl⟩
      have b6 : (-2147483648) ≤ v6 ∧ v6 ≤ 2147483647 := by rw [← e6]; exact (CI.r hC_M2 (show kd 3 = 18 from rfl) (by decide) 5)
      refine jr.getf (i := 5) (x := v6) (v := .int (Int32.ofInt (v6))) rfl rfl (nlt rfl) rfl (nlt rfl) rfl rfl ((ju_c _ _ (by decide)).trans ((ju_c _ _ (by decide)).trans e6)) rfl ?_
      refine jr.iast (i := 2) (x := v6) rfl (nlt rfl) rfl (Nat.le_of_ble_eq_true rfl) (by omega) (by omega) ?_
      refine jr.aload_n rfl rfl ?_
      refine jr.getf (i := 4) (v := .ref 9) rfl rfl (nlt rfl) rfl (nlt rfl) rfl rfl rfl rfl ?_
      refine jr.iconst rfl ?_
      refine jr.aload_n rfl rfl ?_
      refine jr.getf (i := 3) (v := .ref 3) rfl rfl (nlt rfl) rfl (nlt rfl) rfl rfl rfl rfl ?_
      obtain ⟨v7, e7⟩ : ∃ z_, M2 3 6 = z_ := ⟨_, rfl⟩
      have b7 : (-2147483648) ≤ v7 ∧ v7 ≤ 2147483647 := by rw [← e7]; exact (CI.r hC_M2 (show kd 3 = 18 from rfl) (by decide) 6)
      refine jr.getf (i := 6) (x := v7) (v := .int (Int32.ofInt (v7))) rfl rfl (nlt rfl) rfl (nlt rfl) rfl rfl ((ju_c _ _ (by decide)).trans ((ju_c _ _ (by decide)).trans ((ju_c _ _ (by decide)).trans e7))) rfl ?_
      refine jr.iast (i := 3) (x := v7) rfl (nlt rfl) rfl (Nat.le_of_ble_eq_true rfl) (by omega) (by omega) ?_
      refine jr.aload_n rfl rfl ?_
      refine jr.getf (i := 3) (v := .ref 3) rfl rfl (nlt rfl) rfl (nlt rfl) rfl rfl rfl rfl ?_
      refine jr.getf (i := 4) (x := v4) (v := .int (Int32.ofInt (v4))) rfl rfl (nlt rfl) rfl (nlt rfl) rfl rfl ((ju_c _ _ (by decide)).trans ((ju_c _ _ (by decide)).trans ((ju_c _ _ (by decide)).trans ((ju_c _ _ (by decide)).trans e4)))) rfl ?_
      refine jr.if_ne rfl rfl (by first | (refine rgb (by assumption) ?_; exact rfl) | omega) (fun h85 => ?_) (fun h85 => ?_)
      · have sx85 : (1 : Int) ≤ v4 := by omega
        clear h85
        refine jr.bipush rfl (by decide) ?_
        refine jr.aload_n rfl rfl ?_
        refine jr.getf (i := 3) (v := .ref 3) rfl rfl (nlt rfl) rfl (nlt rfl) rfl rfl rfl rfl ?_
        refine jr.getf (i := 4) (x := v4) (v := .int (Int32.ofInt (v4))) rfl rfl (nlt rfl) rfl (nlt rfl) rfl rfl ((ju_c _ _ (by decide)).trans ((ju_c _ _ (by decide)).trans ((ju_c _ _ (by decide)).trans ((ju_c _ _ (by decide)).trans e4)))) rfl ?_
        refine jr.isub rfl ?_
        exact jr.ireturn rfl rfl rfl (q _ _ (CI.u (CI.u (CI.u (CI.u hC_M2 (i := 0) (show kd 9 = 39 from rfl) (show (-2147483648 : Int) ≤ _ ∧ _ ≤ (2147483647 : Int) from by omega) rfl) (i := 1) (show kd 9 = 39 from rfl) (show (-2147483648 : Int) ≤ _ ∧ _ ≤ (2147483647 : Int) from by omega) rfl) (i := 2) (show kd 9 = 39 from rfl) (show (-2147483648 : Int) ≤ _ ∧ _ ≤ (2147483647 : Int) from by omega) rfl) (i := 3) (show kd 9 = 39 from rfl) (show (-2147483648 : Int) ≤ _ ∧ _ ≤ (2147483647 : Int) from by omega) rfl) (FR.o (FR.o (FR.o (FR.o ht_M2 (show kd 9 = 39 from rfl) rfl) (show kd 9 = 39 from rfl) rfl) (show kd 9 = 39 from rfl) rfl) (show kd 9 = 39 from rfl) rfl) (by omega) (by have q0 : (ju (ju (ju (ju M2 9 0 v4) 9 1 v5) 9 2 v6) 9 3 v7) 9 0 = v4 := ((ju_i _ _ (zne (by decide))).trans ((ju_i _ _ (zne (by decide))).trans ((ju_i _ _ (zne (by decide))).trans (ju_same _ _ _ _)))); have q1 : (ju (ju (ju (ju M2 9 0 v4) 9 1 v5) 9 2 v6) 9 3 v7) 9 1 = v5 := ((ju_i _ _ (zne (by decide))).trans ((ju_i _ _ (zne (by decide))).trans (ju_same _ _ _ _))); have q2 : (ju (ju (ju (ju M2 9 0 v4) 9 1 v5) 9 2 v6) 9 3 v7) 9 2 = v6 := ((ju_i _ _ (zne (by decide))).trans (ju_same _ _ _ _)); have q3 : (ju (ju (ju (ju M2 9 0 v4) 9 1 v5) 9 2 v6) 9 3 v7) 9 3 = v7 := (ju_same _ _ _ _); have r3 : M2 3 3 = v5 := e5; have r4 : M2 3 4 = v4 := e4; have r5 : M2 3 5 = v6 := e6; have r6 : M2 3 6 = v7 := e7; rw [p0, e3]; exact Or.elim w2_1 (fun h => Or.inr (Or.inl ⟨by omega, by omega, by omega⟩)) (fun h => Or.inr (Or.inr ⟨⟨by omega, h.1⟩, M2 3 3, HQ.e h.2.2.2.2, ⟨by omega, Or.elim h.2.2.2.2.2.2 (fun u => Or.inl ⟨u.1, by omega, by omega, by omega, by omega⟩) (fun u => Or.inr ⟨u.1, u.2.1, by omega, by omega, by omega, by omega⟩)⟩⟩))))
      · refine jr.aload_n rfl rfl ?_
        refine jr.getf (i := 3) (v := .ref 3) rfl rfl (nlt rfl) rfl (nlt rfl) rfl rfl rfl rfl ?_
        refine jr.getf (i := 3) (x := v5) (v := .int (Int32.ofInt (v5))) rfl rfl (nlt rfl) rfl (nlt rfl) rfl rfl ((ju_c _ _ (by decide)).trans ((ju_c _ _ (by decide)).trans ((ju_c _ _ (by decide)).trans ((ju_c _ _ (by decide)).trans e5)))) rfl ?_
        refine jr.goto rfl rfl ?_
        exact jr.ireturn rfl rfl rfl (q _ _ (CI.u (CI.u (CI.u (CI.u hC_M2 (i := 0) (show kd 9 = 39 from rfl) (show (-2147483648 : Int) ≤ _ ∧ _ ≤ (2147483647 : Int) from by omega) rfl) (i := 1) (show kd 9 = 39 from rfl) (show (-2147483648 : Int) ≤ _ ∧ _ ≤ (2147483647 : Int) from by omega) rfl) (i := 2) (show kd 9 = 39 from rfl) (show (-2147483648 : Int) ≤ _ ∧ _ ≤ (2147483647 : Int) from by omega) rfl) (i := 3) (show kd 9 = 39 from rfl) (show (-2147483648 : Int) ≤ _ ∧ _ ≤ (2147483647 : Int) from by omega) rfl) (FR.o (FR.o (FR.o (FR.o ht_M2 (show kd 9 = 39 from rfl) rfl) (show kd 9 = 39 from rfl) rfl) (show kd 9 = 39 from rfl) rfl) (show kd 9 = 39 from rfl) rfl) (by omega) (by have q0 : (ju (ju (ju (ju M2 9 0 v4) 9 1 v5) 9 2 v6) 9 3 v7) 9 0 = v4 := ((ju_i _ _ (zne (by decide))).trans ((ju_i _ _ (zne (by decide))).trans ((ju_i _ _ (zne (by decide))).trans (ju_same _ _ _ _)))); have q1 : (ju (ju (ju (ju M2 9 0 v4) 9 1 v5) 9 2 v6) 9 3 v7) 9 1 = v5 := ((ju_i _ _ (zne (by decide))).trans ((ju_i _ _ (zne (by decide))).trans (ju_same _ _ _ _))); have q2 : (ju (ju (ju (ju M2 9 0 v4) 9 1 v5) 9 2 v6) 9 3 v7) 9 2 = v6 := ((ju_i _ _ (zne (by decide))).trans (ju_same _ _ _ _)); have q3 : (ju (ju (ju (ju M2 9 0 v4) 9 1 v5) 9 2 v6) 9 3 v7) 9 3 = v7 := (ju_same _ _ _ _); have r3 : M2 3 3 = v5 := e5; have r4 : M2 3 4 = v4 := e4; have r5 : M2 3 5 = v6 := e6; have r6 : M2 3 6 = v7 := e7; rw [p0, e3]; exact Or.elim w2_1 (fun h => Or.inr (Or.inl ⟨by omega, by omega, by omega⟩)) (fun h => Or.inr (Or.inr ⟨⟨by omega, h.1⟩, M2 3 3, HQ.e h.2.2.2.2, ⟨by omega, Or.elim h.2.2.2.2.2.2 (fun u => Or.inl ⟨u.1, by omega, by omega, by omega, by omega⟩) (fun u => Or.inr ⟨u.1, u.2.1, by omega, by omega, by omega, by omega⟩)⟩⟩))))
    · refine jr.bipush rfl (by decide) ?_
      exact jr.ireturn rfl rfl rfl (q _ _ hC_M ht_M (by first | exact rgq rfl | omega) (Or.inl ⟨by omega, by omega, by rw [p0]⟩))
end
section
/-! ===== the reference: fields, and the calls on headers ===== -/
theorem nbs_2t (f : Int → Int) (y : Int) : nbs f y 2 = tw f y := nbs_2 f y
theorem nbs_4t (f : Int → Int) (y : Int) : nbs f y 4 = tw f y * 65536 + tw f (y + 2) := by
  rw [nbs_4]
  unfold tw
  rw [show y + 2 + 1 = y + 3 by omega]
  omega
theorem jl_sho16 {a b : Int} (ha : 0 ≤ a ∧ a ≤ 65535) (hb : 0 ≤ b ∧ b ≤ 65535) : jl_or (jl_shl a 16) b = a * 65536 + b := by
  rw [jl_shl_16, jl_or_16 (by omega), jl_w_id (by omega)]
theorem jl_sho32 {a b : Int} (hb : 0 ≤ b ∧ b ≤ 4294967295) : jl_or (jl_shl a 32) b = jl_w (a * 4294967296 + b) := by
  rw [jl_shl_32, jl_or_32 (by omega)]
theorem r_four_x {A : Nat → Option (Nat × (Nat → Int32))} {Q : Option Value → jm → Prop} {M : jm} (hI_M : RI M) (hH_M : RH M) (hS_M : RF M) {x : Int} (h_x : 0 ≤ x ∧ x ≤ 23) {i : Int} (h_i : 0 ≤ i ∧ i ≤ 396) (q : ∀ (r : Int), 0 ≤ r ∧ r ≤ 4294967295 → r = nbs (rf M x) i 4 → Q (some (.long (Int64.ofInt r))) M) : jc A 3 255 [.ref (598), .int (Int32.ofInt (x)), .int (Int32.ofInt (i))] M Q := by
  refine jc_of (m := xm_255) rfl (Nat.le_of_ble_eq_true rfl) rfl ?_
  refine jr.aload_n rfl rfl ?_
  refine jr.iload_n rfl rfl ?_
  refine jr.iload_n rfl rfl ?_
  refine jr_v rfl rfl (Or.inl rfl) rfl rfl (nlt rfl) rfl ⟨rfl, Nat.le_of_ble_eq_true rfl, Nat.le_of_ble_eq_true rfl⟩ rfl (jc.deep (r_two_x hI_M hH_M hS_M  (by omega) (by omega)  (fun r1 z1 w1_0 => ?_)) (Nat.le_of_ble_eq_true rfl))
  refine jr.i2l rfl (by omega) ?_
  refine jr.bipush rfl (jbp _ (nlt rfl)) ?_
  refine jr.lshl rfl ?_
  refine jr.aload_n rfl rfl ?_
  refine jr.iload_n rfl rfl ?_
  refine jr.iload_n rfl rfl ?_
  refine jr.iconst rfl ?_
  refine jr.iadd rfl ?_
  refine jr_v rfl rfl (Or.inl rfl) rfl rfl (nlt rfl) rfl ⟨rfl, Nat.le_of_ble_eq_true rfl, Nat.le_of_ble_eq_true rfl⟩ rfl (jc.deep (r_two_x hI_M hH_M hS_M  (by omega) (by omega)  (fun r2 z2 w2_0 => ?_)) (Nat.le_of_ble_eq_true rfl))
  refine jr.i2l rfl (by omega) ?_
  refine jr.lor rfl ?_
  have b3 : jl_or (jl_shl r1 16) r2 = r1 * 65536 + r2 := jl_sho16 (by omega) (by omega)
  generalize jl_or (jl_shl r1 16) r2 = v3 at b3 ⊢
  exact jr.lreturn rfl rfl (q _ (by omega) (by rw [nbs_4t]; omega))
theorem r_eight_x {A : Nat → Option (Nat × (Nat → Int32))} {Q : Option Value → jm → Prop} {M : jm} (hI_M : RI M) (hH_M : RH M) (hS_M : RF M) {x : Int} (h_x : 0 ≤ x ∧ x ≤ 23) {i : Int} (h_i : 0 ≤ i ∧ i ≤ 392) (q : ∀ (r : Int), (-9223372036854775808) ≤ r ∧ r ≤ 9223372036854775807 → r = jl_w (nbs (rf M x) i 8) → Q (some (.long (Int64.ofInt r))) M) : jc A 4 256 [.ref (598), .int (Int32.ofInt (x)), .int (Int32.ofInt (i))] M Q := by
  refine jc_of (m := xm_256) rfl (Nat.le_of_ble_eq_true rfl) rfl ?_
  refine jr.aload_n rfl rfl ?_
  refine jr.iload_n rfl rfl ?_
  refine jr.iload_n rfl rfl ?_
  refine jr_v rfl rfl (Or.inl rfl) rfl rfl (nlt rfl) rfl ⟨rfl, Nat.le_of_ble_eq_true rfl, Nat.le_of_ble_eq_true rfl⟩ rfl (jc.deep (r_four_x hI_M hH_M hS_M  (by omega) (by omega)  (fun r1 z1 w1_0 => ?_)) (Nat.le_of_ble_eq_true rfl))
  refine jr.bipush rfl (jbp _ (nlt rfl)) ?_
  refine jr.lshl rfl ?_
  refine jr.aload_n rfl rfl ?_
  refine jr.iload_n rfl rfl ?_
  refine jr.iload_n rfl rfl ?_
  refine jr.iconst rfl ?_
  refine jr.iadd rfl ?_
  refine jr_v rfl rfl (Or.inl rfl) rfl rfl (nlt rfl) rfl ⟨rfl, Nat.le_of_ble_eq_true rfl, Nat.le_of_ble_eq_true rfl⟩ rfl (jc.deep (r_four_x hI_M hH_M hS_M  (by omega) (by omega)  (fun r2 z2 w2_0 => ?_)) (Nat.le_of_ble_eq_true rfl))
  refine jr.lor rfl ?_
  have b3 : jl_or (jl_shl r1 32) r2 = jl_w (r1 * 4294967296 + r2) ∧ -9223372036854775808 ≤ jl_or (jl_shl r1 32) r2 ∧ jl_or (jl_shl r1 32) r2 ≤ 9223372036854775807 := ⟨jl_sho32 (by omega), jbl_any _⟩
  generalize jl_or (jl_shl r1 32) r2 = v3 at b3 ⊢
  exact jr.lreturn rfl rfl (q _ (by omega) (by rw [nbs_8, ← w1_0, ← w2_0]; omega))
theorem r_fields_x {A : Nat → Option (Nat × (Nat → Int32))} {Q : Option Value → jm → Prop} {M : jm} (hI_M : RI M) (hH_M : RH M) (hS_M : RF M) {k : Int} (h_k : 0 ≤ k ∧ k ≤ 11) (q : ∀ (r : Int), 1 ≤ r ∧ r ≤ 11 → r = xcv_2 k → Q (some (.int (Int32.ofInt r))) M) : jc A 1 271 [.int (Int32.ofInt (k))] M Q := by
  rcases (show k = 0 ∨ k = 1 ∨ k = 2 ∨ k = 3 ∨ k = 4 ∨ k = 5 ∨ k = 6 ∨ k = 7 ∨ k = 8 ∨ k = 9 ∨ k = 10 ∨ k = 11 by omega) with rfl | rfl | rfl | rfl | rfl | rfl | rfl | rfl | rfl | rfl | rfl | rfl
  · refine jc_of (m := xm_271) rfl (Nat.le_of_ble_eq_true rfl) rfl ?_
    refine jr.iload_n rfl rfl ?_
    refine jr.tsw_k 0 rfl rfl rfl ?_
    refine jr.iconst rfl ?_
    exact jr.ireturn rfl rfl rfl (q _ (by first | exact rgq rfl | omega) (by decide +kernel))
  · refine jc_of (m := xm_271) rfl (Nat.le_of_ble_eq_true rfl) rfl ?_
    refine jr.iload_n rfl rfl ?_
    refine jr.tsw_k 1 rfl rfl rfl ?_
    refine jr.iconst rfl ?_
    exact jr.ireturn rfl rfl rfl (q _ (by first | exact rgq rfl | omega) (by decide +kernel))
  · refine jc_of (m := xm_271) rfl (Nat.le_of_ble_eq_true rfl) rfl ?_
    refine jr.iload_n rfl rfl ?_
    refine jr.tsw_k 2 rfl rfl rfl ?_
    refine jr.bipush rfl (jbp _ (nlt rfl)) ?_
    exact jr.ireturn rfl rfl rfl (q _ (by first | exact rgq rfl | omega) (by decide +kernel))
  · refine jc_of (m := xm_271) rfl (Nat.le_of_ble_eq_true rfl) rfl ?_
    refine jr.iload_n rfl rfl ?_
    refine jr.tsw_k 3 rfl rfl rfl ?_
    refine jr.bipush rfl (jbp _ (nlt rfl)) ?_
    exact jr.ireturn rfl rfl rfl (q _ (by first | exact rgq rfl | omega) (by decide +kernel))
  · refine jc_of (m := xm_271) rfl (Nat.le_of_ble_eq_true rfl) rfl ?_
    refine jr.iload_n rfl rfl ?_
    refine jr.tsw_k 4 rfl rfl rfl ?_
    refine jr.iconst rfl ?_
    exact jr.ireturn rfl rfl rfl (q _ (by first | exact rgq rfl | omega) (by decide +kernel))
  · refine jc_of (m := xm_271) rfl (Nat.le_of_ble_eq_true rfl) rfl ?_
    refine jr.iload_n rfl rfl ?_
    refine jr.tsw_k 5 rfl rfl rfl ?_
    refine jr.iconst rfl ?_
    exact jr.ireturn rfl rfl rfl (q _ (by first | exact rgq rfl | omega) (by decide +kernel))
  · refine jc_of (m := xm_271) rfl (Nat.le_of_ble_eq_true rfl) rfl ?_
    refine jr.iload_n rfl rfl ?_
    refine jr.tsw_k 6 rfl rfl rfl ?_
    refine jr.iconst rfl ?_
    exact jr.ireturn rfl rfl rfl (q _ (by first | exact rgq rfl | omega) (by decide +kernel))
  · refine jc_of (m := xm_271) rfl (Nat.le_of_ble_eq_true rfl) rfl ?_
    refine jr.iload_n rfl rfl ?_
    refine jr.tsw_k 7 rfl rfl rfl ?_
    refine jr.iconst rfl ?_
    exact jr.ireturn rfl rfl rfl (q _ (by first | exact rgq rfl | omega) (by decide +kernel))
  · refine jc_of (m := xm_271) rfl (Nat.le_of_ble_eq_true rfl) rfl ?_
    refine jr.iload_n rfl rfl ?_
    refine jr.tsw_k 8 rfl rfl rfl ?_
    refine jr.bipush rfl (jbp _ (nlt rfl)) ?_
    exact jr.ireturn rfl rfl rfl (q _ (by first | exact rgq rfl | omega) (by decide +kernel))
  · refine jc_of (m := xm_271) rfl (Nat.le_of_ble_eq_true rfl) rfl ?_
    refine jr.iload_n rfl rfl ?_
    refine jr.tsw_k 9 rfl rfl rfl ?_
    refine jr.iconst rfl ?_
    exact jr.ireturn rfl rfl rfl (q _ (by first | exact rgq rfl | omega) (by decide +kernel))
  · refine jc_of (m := xm_271) rfl (Nat.le_of_ble_eq_true rfl) rfl ?_
    refine jr.iload_n rfl rfl ?_
    refine jr.tsw_k 10 rfl rfl rfl ?_
    refine jr.iconst rfl ?_
    exact jr.ireturn rfl rfl rfl (q _ (by first | exact rgq rfl | omega) (by decide +kernel))
  · refine jc_of (m := xm_271) rfl (Nat.le_of_ble_eq_true rfl) rfl ?_
    refine jr.iload_n rfl rfl ?_
    refine jr.tsw_k 11 rfl rfl rfl ?_
    refine jr.iconst rfl ?_
    exact jr.ireturn rfl rfl rfl (q _ (by first | exact rgq rfl | omega) (by decide +kernel))
theorem r_ofFour_x {A : Nat → Option (Nat × (Nat → Int32))} {Q : Option Value → jm → Prop} {M : jm} (hI_M : RI M) (hH_M : RH M) (hS_M : RF M) {x : Int} (h_x : 0 ≤ x ∧ x ≤ 23) {a : Int} (h_a : 0 ≤ a ∧ a ≤ 380) {f : Int} (h_f : 0 ≤ f ∧ f ≤ 10) (q : ∀ (r : Int), (-9223372036854775808) ≤ r ∧ r ≤ 9223372036854775807 → (∀ z : Int, r = vof (rf M x) z 2 a f) → Q (some (.long (Int64.ofInt r))) M) : jc A 4 272 [.ref (598), .int (Int32.ofInt (x)), .int (Int32.ofInt (a)), .int (Int32.ofInt (f))] M Q := by
  rcases (show f = 0 ∨ f = 1 ∨ f = 2 ∨ f = 3 ∨ f = 4 ∨ f = 5 ∨ f = 6 ∨ f = 7 ∨ f = 8 ∨ f = 9 ∨ f = 10 by omega) with rfl | rfl | rfl | rfl | rfl | rfl | rfl | rfl | rfl | rfl | rfl
  · refine jc_of (m := xm_272) rfl (Nat.le_of_ble_eq_true rfl) rfl ?_
    refine jr.iload_n rfl rfl ?_
    refine jr.tsw_k 0 rfl rfl rfl ?_
    refine jr.aload_n rfl rfl ?_
    refine jr.iload_n rfl rfl ?_
    refine jr.iload_n rfl rfl ?_
    refine jr_v rfl rfl (Or.inl rfl) rfl rfl (nlt rfl) rfl ⟨rfl, Nat.le_of_ble_eq_true rfl, Nat.le_of_ble_eq_true rfl⟩ rfl (jc.deep (r_one hI_M hH_M hS_M (Kp.rfl _) (by omega) (by omega)  (fun r1 z1 w1_0 => ?_)) (Nat.le_of_ble_eq_true rfl))
    refine jr.bipush rfl (jbp _ (nlt rfl)) ?_
    refine jr.iand rfl ?_
    have b2 : j_and r1 15 = r1 % 16 := j_and_m 4 (by decide) _
    generalize j_and r1 15 = v2 at b2 ⊢
    refine jr.i2l rfl (by omega) ?_
    exact jr.lreturn rfl rfl (q _ (by omega) (fun z => by have hw := w1_0; (try simp only [Int.reduceMul, Int.add_zero] at hw); simp only [vof_2_0, nbs_1, nbs_2t, Int.add_zero, rf_a]; omega))
  · refine jc_of (m := xm_272) rfl (Nat.le_of_ble_eq_true rfl) rfl ?_
    refine jr.iload_n rfl rfl ?_
    refine jr.tsw_k 1 rfl rfl rfl ?_
    refine jr.aload_n rfl rfl ?_
    refine jr.iload_n rfl rfl ?_
    refine jr.iload_n rfl rfl ?_
    refine jr.iconst rfl ?_
    refine jr.iadd rfl ?_
    refine jr_v rfl rfl (Or.inl rfl) rfl rfl (nlt rfl) rfl ⟨rfl, Nat.le_of_ble_eq_true rfl, Nat.le_of_ble_eq_true rfl⟩ rfl (jc.deep (r_one hI_M hH_M hS_M (Kp.rfl _) (by omega) (by omega)  (fun r1 z1 w1_0 => ?_)) (Nat.le_of_ble_eq_true rfl))
    refine jr.i2l rfl (by omega) ?_
    exact jr.lreturn rfl rfl (q _ (by omega) (fun z => by have hw := w1_0; (try simp only [Int.reduceMul, Int.add_zero] at hw); simp only [vof_2_1, nbs_1, nbs_2t, Int.add_zero, rf_a]; omega))
  · refine jc_of (m := xm_272) rfl (Nat.le_of_ble_eq_true rfl) rfl ?_
    refine jr.iload_n rfl rfl ?_
    refine jr.tsw_k 2 rfl rfl rfl ?_
    refine jr.aload_n rfl rfl ?_
    refine jr.iload_n rfl rfl ?_
    refine jr.iload_n rfl rfl ?_
    refine jr.iconst rfl ?_
    refine jr.iadd rfl ?_
    refine jr_v rfl rfl (Or.inl rfl) rfl rfl (nlt rfl) rfl ⟨rfl, Nat.le_of_ble_eq_true rfl, Nat.le_of_ble_eq_true rfl⟩ rfl (jc.deep (r_two_x hI_M hH_M hS_M  (by omega) (by omega)  (fun r1 z1 w1_0 => ?_)) (Nat.le_of_ble_eq_true rfl))
    refine jr.i2l rfl (by omega) ?_
    exact jr.lreturn rfl rfl (q _ (by omega) (fun z => by have hw := w1_0; (try simp only [Int.reduceMul, Int.add_zero] at hw); simp only [vof_2_2, nbs_1, nbs_2t, Int.add_zero, rf_a]; omega))
  · refine jc_of (m := xm_272) rfl (Nat.le_of_ble_eq_true rfl) rfl ?_
    refine jr.iload_n rfl rfl ?_
    refine jr.tsw_k 3 rfl rfl rfl ?_
    refine jr.aload_n rfl rfl ?_
    refine jr.iload_n rfl rfl ?_
    refine jr.iload_n rfl rfl ?_
    refine jr.iconst rfl ?_
    refine jr.iadd rfl ?_
    refine jr_v rfl rfl (Or.inl rfl) rfl rfl (nlt rfl) rfl ⟨rfl, Nat.le_of_ble_eq_true rfl, Nat.le_of_ble_eq_true rfl⟩ rfl (jc.deep (r_two_x hI_M hH_M hS_M  (by omega) (by omega)  (fun r1 z1 w1_0 => ?_)) (Nat.le_of_ble_eq_true rfl))
    refine jr.i2l rfl (by omega) ?_
    exact jr.lreturn rfl rfl (q _ (by omega) (fun z => by have hw := w1_0; (try simp only [Int.reduceMul, Int.add_zero] at hw); simp only [vof_2_3, nbs_1, nbs_2t, Int.add_zero, rf_a]; omega))
  · refine jc_of (m := xm_272) rfl (Nat.le_of_ble_eq_true rfl) rfl ?_
    refine jr.iload_n rfl rfl ?_
    refine jr.tsw_k 4 rfl rfl rfl ?_
    refine jr.aload_n rfl rfl ?_
    refine jr.iload_n rfl rfl ?_
    refine jr.iload_n rfl rfl ?_
    refine jr.bipush rfl (jbp _ (nlt rfl)) ?_
    refine jr.iadd rfl ?_
    refine jr_v rfl rfl (Or.inl rfl) rfl rfl (nlt rfl) rfl ⟨rfl, Nat.le_of_ble_eq_true rfl, Nat.le_of_ble_eq_true rfl⟩ rfl (jc.deep (r_two_x hI_M hH_M hS_M  (by omega) (by omega)  (fun r1 z1 w1_0 => ?_)) (Nat.le_of_ble_eq_true rfl))
    refine jr.bipush rfl (jbp _ (nlt rfl)) ?_
    refine jr.ishr rfl ?_
    have b2 : j_shr r1 13 = r1 / 8192 := j_shr_ex 13 (by decide) (by omega) (by omega)
    generalize j_shr r1 13 = v2 at b2 ⊢
    refine jr.i2l rfl (by omega) ?_
    exact jr.lreturn rfl rfl (q _ (by omega) (fun z => by have hw := w1_0; (try simp only [Int.reduceMul, Int.add_zero] at hw); simp only [vof_2_4, nbs_1, nbs_2t, Int.add_zero, rf_a]; omega))
  · refine jc_of (m := xm_272) rfl (Nat.le_of_ble_eq_true rfl) rfl ?_
    refine jr.iload_n rfl rfl ?_
    refine jr.tsw_k 5 rfl rfl rfl ?_
    refine jr.aload_n rfl rfl ?_
    refine jr.iload_n rfl rfl ?_
    refine jr.iload_n rfl rfl ?_
    refine jr.bipush rfl (jbp _ (nlt rfl)) ?_
    refine jr.iadd rfl ?_
    refine jr_v rfl rfl (Or.inl rfl) rfl rfl (nlt rfl) rfl ⟨rfl, Nat.le_of_ble_eq_true rfl, Nat.le_of_ble_eq_true rfl⟩ rfl (jc.deep (r_two_x hI_M hH_M hS_M  (by omega) (by omega)  (fun r1 z1 w1_0 => ?_)) (Nat.le_of_ble_eq_true rfl))
    refine jr.sipush rfl (by decide) ?_
    refine jr.iand rfl ?_
    have b2 : j_and r1 8191 = r1 % 8192 := j_and_m 13 (by decide) _
    generalize j_and r1 8191 = v2 at b2 ⊢
    refine jr.i2l rfl (by omega) ?_
    exact jr.lreturn rfl rfl (q _ (by omega) (fun z => by have hw := w1_0; (try simp only [Int.reduceMul, Int.add_zero] at hw); simp only [vof_2_5, nbs_1, nbs_2t, Int.add_zero, rf_a]; omega))
  · refine jc_of (m := xm_272) rfl (Nat.le_of_ble_eq_true rfl) rfl ?_
    refine jr.iload_n rfl rfl ?_
    refine jr.tsw_k 6 rfl rfl rfl ?_
    refine jr.aload_n rfl rfl ?_
    refine jr.iload_n rfl rfl ?_
    refine jr.iload_n rfl rfl ?_
    refine jr.bipush rfl (jbp _ (nlt rfl)) ?_
    refine jr.iadd rfl ?_
    refine jr_v rfl rfl (Or.inl rfl) rfl rfl (nlt rfl) rfl ⟨rfl, Nat.le_of_ble_eq_true rfl, Nat.le_of_ble_eq_true rfl⟩ rfl (jc.deep (r_one hI_M hH_M hS_M (Kp.rfl _) (by omega) (by omega)  (fun r1 z1 w1_0 => ?_)) (Nat.le_of_ble_eq_true rfl))
    refine jr.i2l rfl (by omega) ?_
    exact jr.lreturn rfl rfl (q _ (by omega) (fun z => by have hw := w1_0; (try simp only [Int.reduceMul, Int.add_zero] at hw); simp only [vof_2_6, nbs_1, nbs_2t, Int.add_zero, rf_a]; omega))
  · refine jc_of (m := xm_272) rfl (Nat.le_of_ble_eq_true rfl) rfl ?_
    refine jr.iload_n rfl rfl ?_
    refine jr.tsw_k 7 rfl rfl rfl ?_
    refine jr.aload_n rfl rfl ?_
    refine jr.iload_n rfl rfl ?_
    refine jr.iload_n rfl rfl ?_
    refine jr.bipush rfl (jbp _ (nlt rfl)) ?_
    refine jr.iadd rfl ?_
    refine jr_v rfl rfl (Or.inl rfl) rfl rfl (nlt rfl) rfl ⟨rfl, Nat.le_of_ble_eq_true rfl, Nat.le_of_ble_eq_true rfl⟩ rfl (jc.deep (r_one hI_M hH_M hS_M (Kp.rfl _) (by omega) (by omega)  (fun r1 z1 w1_0 => ?_)) (Nat.le_of_ble_eq_true rfl))
    refine jr.i2l rfl (by omega) ?_
    exact jr.lreturn rfl rfl (q _ (by omega) (fun z => by have hw := w1_0; (try simp only [Int.reduceMul, Int.add_zero] at hw); simp only [vof_2_7, nbs_1, nbs_2t, Int.add_zero, rf_a]; omega))
  · refine jc_of (m := xm_272) rfl (Nat.le_of_ble_eq_true rfl) rfl ?_
    refine jr.iload_n rfl rfl ?_
    refine jr.tsw_k 8 rfl rfl rfl ?_
    refine jr.aload_n rfl rfl ?_
    refine jr.iload_n rfl rfl ?_
    refine jr.iload_n rfl rfl ?_
    refine jr.bipush rfl (jbp _ (nlt rfl)) ?_
    refine jr.iadd rfl ?_
    refine jr_v rfl rfl (Or.inl rfl) rfl rfl (nlt rfl) rfl ⟨rfl, Nat.le_of_ble_eq_true rfl, Nat.le_of_ble_eq_true rfl⟩ rfl (jc.deep (r_two_x hI_M hH_M hS_M  (by omega) (by omega)  (fun r1 z1 w1_0 => ?_)) (Nat.le_of_ble_eq_true rfl))
    refine jr.i2l rfl (by omega) ?_
    exact jr.lreturn rfl rfl (q _ (by omega) (fun z => by have hw := w1_0; (try simp only [Int.reduceMul, Int.add_zero] at hw); simp only [vof_2_8, nbs_1, nbs_2t, Int.add_zero, rf_a]; omega))
  · refine jc_of (m := xm_272) rfl (Nat.le_of_ble_eq_true rfl) rfl ?_
    refine jr.iload_n rfl rfl ?_
    refine jr.tsw_d rfl (by decide) (by decide) rfl ?_
    refine jr.aload_n rfl rfl ?_
    refine jr.iload_n rfl rfl ?_
    refine jr.iload_n rfl rfl ?_
    refine jr.bipush rfl (jbp _ (nlt rfl)) ?_
    refine jr.icmp_ne rfl rfl (by first | exact rgl rfl | omega) (rgl rfl) (fun h => absurd h (by decide)) (fun _ => ?_)
    refine jr.iload_n rfl rfl ?_
    refine jr.bipush rfl (jbp _ (nlt rfl)) ?_
    refine jr.iadd rfl ?_
    refine jr.goto rfl rfl ?_
    refine jr_v rfl rfl (Or.inl rfl) rfl rfl (nlt rfl) rfl ⟨rfl, Nat.le_of_ble_eq_true rfl, Nat.le_of_ble_eq_true rfl⟩ rfl (jc.deep (r_four_x hI_M hH_M hS_M  (by omega) (by omega)  (fun r1 z1 w1_0 => ?_)) (Nat.le_of_ble_eq_true rfl))
    exact jr.lreturn rfl rfl (q _ (by omega) (fun z => by have hw := w1_0; (try simp only [Int.reduceMul, Int.add_zero] at hw); simp only [vof_2_9, nbs_1, nbs_2t, Int.add_zero, rf_a]; omega))
  · refine jc_of (m := xm_272) rfl (Nat.le_of_ble_eq_true rfl) rfl ?_
    refine jr.iload_n rfl rfl ?_
    refine jr.tsw_d rfl (by decide) (by decide) rfl ?_
    refine jr.aload_n rfl rfl ?_
    refine jr.iload_n rfl rfl ?_
    refine jr.iload_n rfl rfl ?_
    refine jr.bipush rfl (jbp _ (nlt rfl)) ?_
    refine jr.icmp_ne rfl rfl (by first | exact rgl rfl | omega) (rgl rfl) (fun _ => ?_) (fun h => absurd (by decide) h)
    refine jr.iload_n rfl rfl ?_
    refine jr.bipush rfl (jbp _ (nlt rfl)) ?_
    refine jr.iadd rfl ?_
    refine jr_v rfl rfl (Or.inl rfl) rfl rfl (nlt rfl) rfl ⟨rfl, Nat.le_of_ble_eq_true rfl, Nat.le_of_ble_eq_true rfl⟩ rfl (jc.deep (r_four_x hI_M hH_M hS_M  (by omega) (by omega)  (fun r1 z1 w1_0 => ?_)) (Nat.le_of_ble_eq_true rfl))
    exact jr.lreturn rfl rfl (q _ (by omega) (fun z => by have hw := w1_0; (try simp only [Int.reduceMul, Int.add_zero] at hw); simp only [vof_2_10, nbs_1, nbs_2t, Int.add_zero, rf_a]; omega))
theorem r_ofSix_x {A : Nat → Option (Nat × (Nat → Int32))} {Q : Option Value → jm → Prop} {M : jm} (hI_M : RI M) (hH_M : RH M) (hS_M : RF M) {x : Int} (h_x : 0 ≤ x ∧ x ≤ 23) {a : Int} (h_a : 0 ≤ a ∧ a ≤ 376) {f : Int} (h_f : 0 ≤ f ∧ f ≤ 6) (q : ∀ (r : Int), (-9223372036854775808) ≤ r ∧ r ≤ 9223372036854775807 → (∀ z : Int, r = vof (rf M x) z 3 a f) → Q (some (.long (Int64.ofInt r))) M) : jc A 5 273 [.ref (598), .int (Int32.ofInt (x)), .int (Int32.ofInt (a)), .int (Int32.ofInt (f))] M Q := by
  rcases (show f = 0 ∨ f = 1 ∨ f = 2 ∨ f = 3 ∨ f = 4 ∨ f = 5 ∨ f = 6 by omega) with rfl | rfl | rfl | rfl | rfl | rfl | rfl
  · refine jc_of (m := xm_273) rfl (Nat.le_of_ble_eq_true rfl) rfl ?_
    refine jr.iload_n rfl rfl ?_
    refine jr.tsw_k 0 rfl rfl rfl ?_
    refine jr.aload_n rfl rfl ?_
    refine jr.iload_n rfl rfl ?_
    refine jr.iload_n rfl rfl ?_
    refine jr.iconst rfl ?_
    refine jr.iadd rfl ?_
    refine jr_v rfl rfl (Or.inl rfl) rfl rfl (nlt rfl) rfl ⟨rfl, Nat.le_of_ble_eq_true rfl, Nat.le_of_ble_eq_true rfl⟩ rfl (jc.deep (r_one hI_M hH_M hS_M (Kp.rfl _) (by omega) (by omega)  (fun r1 z1 w1_0 => ?_)) (Nat.le_of_ble_eq_true rfl))
    refine jr.i2l rfl (by omega) ?_
    exact jr.lreturn rfl rfl (q _ (by omega) (fun z => by have hw := w1_0; (try simp only [Int.reduceMul, Int.add_zero] at hw); simp only [vof_3_0, nbs_1, nbs_2t, Int.add_zero, rf_a]; omega))
  · refine jc_of (m := xm_273) rfl (Nat.le_of_ble_eq_true rfl) rfl ?_
    refine jr.iload_n rfl rfl ?_
    refine jr.tsw_k 1 rfl rfl rfl ?_
    refine jr.aload_n rfl rfl ?_
    refine jr.iload_n rfl rfl ?_
    refine jr.iload_n rfl rfl ?_
    refine jr.iconst rfl ?_
    refine jr.iadd rfl ?_
    refine jr_v rfl rfl (Or.inl rfl) rfl rfl (nlt rfl) rfl ⟨rfl, Nat.le_of_ble_eq_true rfl, Nat.le_of_ble_eq_true rfl⟩ rfl (jc.deep (r_two_x hI_M hH_M hS_M  (by omega) (by omega)  (fun r1 z1 w1_0 => ?_)) (Nat.le_of_ble_eq_true rfl))
    refine jr.i2l rfl (by omega) ?_
    exact jr.lreturn rfl rfl (q _ (by omega) (fun z => by have hw := w1_0; (try simp only [Int.reduceMul, Int.add_zero] at hw); simp only [vof_3_1, nbs_1, nbs_2t, Int.add_zero, rf_a]; omega))
  · refine jc_of (m := xm_273) rfl (Nat.le_of_ble_eq_true rfl) rfl ?_
    refine jr.iload_n rfl rfl ?_
    refine jr.tsw_k 2 rfl rfl rfl ?_
    refine jr.aload_n rfl rfl ?_
    refine jr.iload_n rfl rfl ?_
    refine jr.iload_n rfl rfl ?_
    refine jr.iconst rfl ?_
    refine jr.iadd rfl ?_
    refine jr_v rfl rfl (Or.inl rfl) rfl rfl (nlt rfl) rfl ⟨rfl, Nat.le_of_ble_eq_true rfl, Nat.le_of_ble_eq_true rfl⟩ rfl (jc.deep (r_one hI_M hH_M hS_M (Kp.rfl _) (by omega) (by omega)  (fun r1 z1 w1_0 => ?_)) (Nat.le_of_ble_eq_true rfl))
    refine jr.i2l rfl (by omega) ?_
    exact jr.lreturn rfl rfl (q _ (by omega) (fun z => by have hw := w1_0; (try simp only [Int.reduceMul, Int.add_zero] at hw); simp only [vof_3_2, nbs_1, nbs_2t, Int.add_zero, rf_a]; omega))
  · refine jc_of (m := xm_273) rfl (Nat.le_of_ble_eq_true rfl) rfl ?_
    refine jr.iload_n rfl rfl ?_
    refine jr.tsw_k 3 rfl rfl rfl ?_
    refine jr.aload_n rfl rfl ?_
    refine jr.iload_n rfl rfl ?_
    refine jr.iload_n rfl rfl ?_
    refine jr.iconst rfl ?_
    refine jr.iadd rfl ?_
    refine jr_v rfl rfl (Or.inl rfl) rfl rfl (nlt rfl) rfl ⟨rfl, Nat.le_of_ble_eq_true rfl, Nat.le_of_ble_eq_true rfl⟩ rfl (jc.deep (r_one hI_M hH_M hS_M (Kp.rfl _) (by omega) (by omega)  (fun r1 z1 w1_0 => ?_)) (Nat.le_of_ble_eq_true rfl))
    refine jr.i2l rfl (by omega) ?_
    exact jr.lreturn rfl rfl (q _ (by omega) (fun z => by have hw := w1_0; (try simp only [Int.reduceMul, Int.add_zero] at hw); simp only [vof_3_3, nbs_1, nbs_2t, Int.add_zero, rf_a]; omega))
  · refine jc_of (m := xm_273) rfl (Nat.le_of_ble_eq_true rfl) rfl ?_
    refine jr.iload_n rfl rfl ?_
    refine jr.tsw_k 4 rfl rfl rfl ?_
    refine jr.aload_n rfl rfl ?_
    refine jr.iload_n rfl rfl ?_
    refine jr.iload_n rfl rfl ?_
    refine jr.bipush rfl (jbp _ (nlt rfl)) ?_
    refine jr.iadd rfl ?_
    refine jr_v rfl rfl (Or.inl rfl) rfl rfl (nlt rfl) rfl ⟨rfl, Nat.le_of_ble_eq_true rfl, Nat.le_of_ble_eq_true rfl⟩ rfl (jc.deep (r_two_x hI_M hH_M hS_M  (by omega) (by omega)  (fun r1 z1 w1_0 => ?_)) (Nat.le_of_ble_eq_true rfl))
    refine jr.i2l rfl (by omega) ?_
    exact jr.lreturn rfl rfl (q _ (by omega) (fun z => by have hw := w1_0; (try simp only [Int.reduceMul, Int.add_zero] at hw); simp only [vof_3_4, nbs_1, nbs_2t, Int.add_zero, rf_a]; omega))
  · refine jc_of (m := xm_273) rfl (Nat.le_of_ble_eq_true rfl) rfl ?_
    refine jr.iload_n rfl rfl ?_
    refine jr.tsw_d rfl (by decide) (by decide) rfl ?_
    refine jr.aload_n rfl rfl ?_
    refine jr.iload_n rfl rfl ?_
    refine jr.iload_n rfl rfl ?_
    refine jr.iconst rfl ?_
    refine jr.icmp_ne rfl rfl (by first | exact rgl rfl | omega) (rgl rfl) (fun h => absurd h (by decide)) (fun _ => ?_)
    refine jr.iload_n rfl rfl ?_
    refine jr.bipush rfl (jbp _ (nlt rfl)) ?_
    refine jr.iadd rfl ?_
    refine jr.goto rfl rfl ?_
    refine jr_v rfl rfl (Or.inl rfl) rfl rfl (nlt rfl) rfl ⟨rfl, Nat.le_of_ble_eq_true rfl, Nat.le_of_ble_eq_true rfl⟩ rfl (jc.deep (r_eight_x hI_M hH_M hS_M  (by omega) (by omega)  (fun r1 z1 w1_0 => ?_)) (Nat.le_of_ble_eq_true rfl))
    exact jr.lreturn rfl rfl (q _ (by omega) (fun z => by have hw := w1_0; (try simp only [Int.reduceMul, Int.add_zero] at hw); simp only [vof_3_5, nbs_1, nbs_2t, Int.add_zero, rf_a]; omega))
  · refine jc_of (m := xm_273) rfl (Nat.le_of_ble_eq_true rfl) rfl ?_
    refine jr.iload_n rfl rfl ?_
    refine jr.tsw_d rfl (by decide) (by decide) rfl ?_
    refine jr.aload_n rfl rfl ?_
    refine jr.iload_n rfl rfl ?_
    refine jr.iload_n rfl rfl ?_
    refine jr.iconst rfl ?_
    refine jr.icmp_ne rfl rfl (by first | exact rgl rfl | omega) (rgl rfl) (fun _ => ?_) (fun h => absurd (by decide) h)
    refine jr.iload_n rfl rfl ?_
    refine jr.bipush rfl (jbp _ (nlt rfl)) ?_
    refine jr.iadd rfl ?_
    refine jr_v rfl rfl (Or.inl rfl) rfl rfl (nlt rfl) rfl ⟨rfl, Nat.le_of_ble_eq_true rfl, Nat.le_of_ble_eq_true rfl⟩ rfl (jc.deep (r_eight_x hI_M hH_M hS_M  (by omega) (by omega)  (fun r1 z1 w1_0 => ?_)) (Nat.le_of_ble_eq_true rfl))
    exact jr.lreturn rfl rfl (q _ (by omega) (fun z => by have hw := w1_0; (try simp only [Int.reduceMul, Int.add_zero] at hw); simp only [vof_3_6, nbs_1, nbs_2t, Int.add_zero, rf_a]; omega))
theorem r_ofStream_x {A : Nat → Option (Nat × (Nat → Int32))} {Q : Option Value → jm → Prop} {M : jm} (hI_M : RI M) (hH_M : RH M) (hS_M : RF M) {x : Int} (h_x : 0 ≤ x ∧ x ≤ 23) {a : Int} (h_a : 0 ≤ a ∧ a ≤ 380) {f : Int} (h_f : 0 ≤ f ∧ f ≤ 7) (q : ∀ (r : Int), (-9223372036854775808) ≤ r ∧ r ≤ 9223372036854775807 → (∀ z : Int, r = vof (rf M x) z 8 a f) → Q (some (.long (Int64.ofInt r))) M) : jc A 4 274 [.ref (598), .int (Int32.ofInt (x)), .int (Int32.ofInt (a)), .int (Int32.ofInt (f))] M Q := by
  rcases (show f = 0 ∨ f = 1 ∨ f = 2 ∨ f = 3 ∨ f = 4 ∨ f = 5 ∨ f = 6 ∨ f = 7 by omega) with rfl | rfl | rfl | rfl | rfl | rfl | rfl | rfl
  · refine jc_of (m := xm_274) rfl (Nat.le_of_ble_eq_true rfl) rfl ?_
    refine jr.iload_n rfl rfl ?_
    refine jr.tsw_k 0 rfl rfl rfl ?_
    refine jr.aload_n rfl rfl ?_
    refine jr.iload_n rfl rfl ?_
    refine jr.iload_n rfl rfl ?_
    refine jr.iconst rfl ?_
    refine jr.iload_n rfl rfl ?_
    refine jr.imul rfl ?_
    refine jr.iadd rfl ?_
    refine jr_v rfl rfl (Or.inl rfl) rfl rfl (nlt rfl) rfl ⟨rfl, Nat.le_of_ble_eq_true rfl, Nat.le_of_ble_eq_true rfl⟩ rfl (jc.deep (r_two_x hI_M hH_M hS_M  (by omega) (by omega)  (fun r1 z1 w1_0 => ?_)) (Nat.le_of_ble_eq_true rfl))
    refine jr.i2l rfl (by omega) ?_
    exact jr.lreturn rfl rfl (q _ (by omega) (fun z => by have hw := w1_0; (try simp only [Int.reduceMul, Int.add_zero] at hw); simp only [vof_8_0, nbs_1, nbs_2t, Int.add_zero, rf_a]; omega))
  · refine jc_of (m := xm_274) rfl (Nat.le_of_ble_eq_true rfl) rfl ?_
    refine jr.iload_n rfl rfl ?_
    refine jr.tsw_k 1 rfl rfl rfl ?_
    refine jr.aload_n rfl rfl ?_
    refine jr.iload_n rfl rfl ?_
    refine jr.iload_n rfl rfl ?_
    refine jr.iconst rfl ?_
    refine jr.iload_n rfl rfl ?_
    refine jr.imul rfl ?_
    refine jr.iadd rfl ?_
    refine jr_v rfl rfl (Or.inl rfl) rfl rfl (nlt rfl) rfl ⟨rfl, Nat.le_of_ble_eq_true rfl, Nat.le_of_ble_eq_true rfl⟩ rfl (jc.deep (r_two_x hI_M hH_M hS_M  (by omega) (by omega)  (fun r1 z1 w1_0 => ?_)) (Nat.le_of_ble_eq_true rfl))
    refine jr.i2l rfl (by omega) ?_
    exact jr.lreturn rfl rfl (q _ (by omega) (fun z => by have hw := w1_0; (try simp only [Int.reduceMul, Int.add_zero] at hw); simp only [vof_8_1, nbs_1, nbs_2t, Int.add_zero, rf_a]; omega))
  · refine jc_of (m := xm_274) rfl (Nat.le_of_ble_eq_true rfl) rfl ?_
    refine jr.iload_n rfl rfl ?_
    refine jr.tsw_k 2 rfl rfl rfl ?_
    refine jr.aload_n rfl rfl ?_
    refine jr.iload_n rfl rfl ?_
    refine jr.iload_n rfl rfl ?_
    refine jr.iconst rfl ?_
    refine jr.iload_n rfl rfl ?_
    refine jr.imul rfl ?_
    refine jr.iadd rfl ?_
    refine jr.iconst rfl ?_
    refine jr.isub rfl ?_
    refine jr_v rfl rfl (Or.inl rfl) rfl rfl (nlt rfl) rfl ⟨rfl, Nat.le_of_ble_eq_true rfl, Nat.le_of_ble_eq_true rfl⟩ rfl (jc.deep (r_four_x hI_M hH_M hS_M  (by omega) (by omega)  (fun r1 z1 w1_0 => ?_)) (Nat.le_of_ble_eq_true rfl))
    exact jr.lreturn rfl rfl (q _ (by omega) (fun z => by have hw := w1_0; rw [show a + 4 * 2 - 4 = a + 4 from by omega] at hw; (try simp only [Int.reduceMul, Int.add_zero] at hw); simp only [vof_8_2, nbs_1, nbs_2t, Int.add_zero, rf_a]; omega))
  · refine jc_of (m := xm_274) rfl (Nat.le_of_ble_eq_true rfl) rfl ?_
    refine jr.iload_n rfl rfl ?_
    refine jr.tsw_k 3 rfl rfl rfl ?_
    refine jr.aload_n rfl rfl ?_
    refine jr.iload_n rfl rfl ?_
    refine jr.iload_n rfl rfl ?_
    refine jr.iconst rfl ?_
    refine jr.iload_n rfl rfl ?_
    refine jr.imul rfl ?_
    refine jr.iadd rfl ?_
    refine jr.iconst rfl ?_
    refine jr.isub rfl ?_
    refine jr_v rfl rfl (Or.inl rfl) rfl rfl (nlt rfl) rfl ⟨rfl, Nat.le_of_ble_eq_true rfl, Nat.le_of_ble_eq_true rfl⟩ rfl (jc.deep (r_four_x hI_M hH_M hS_M  (by omega) (by omega)  (fun r1 z1 w1_0 => ?_)) (Nat.le_of_ble_eq_true rfl))
    exact jr.lreturn rfl rfl (q _ (by omega) (fun z => by have hw := w1_0; rw [show a + 4 * 3 - 4 = a + 8 from by omega] at hw; (try simp only [Int.reduceMul, Int.add_zero] at hw); simp only [vof_8_3, nbs_1, nbs_2t, Int.add_zero, rf_a]; omega))
  · refine jc_of (m := xm_274) rfl (Nat.le_of_ble_eq_true rfl) rfl ?_
    refine jr.iload_n rfl rfl ?_
    refine jr.tsw_k 4 rfl rfl rfl ?_
    refine jr.aload_n rfl rfl ?_
    refine jr.iload_n rfl rfl ?_
    refine jr.iload_n rfl rfl ?_
    refine jr.bipush rfl (jbp _ (nlt rfl)) ?_
    refine jr.iadd rfl ?_
    refine jr_v rfl rfl (Or.inl rfl) rfl rfl (nlt rfl) rfl ⟨rfl, Nat.le_of_ble_eq_true rfl, Nat.le_of_ble_eq_true rfl⟩ rfl (jc.deep (r_one hI_M hH_M hS_M (Kp.rfl _) (by omega) (by omega)  (fun r1 z1 w1_0 => ?_)) (Nat.le_of_ble_eq_true rfl))
    refine jr.iconst rfl ?_
    refine jr.ishr rfl ?_
    have b2 : j_shr r1 4 = r1 / 16 := j_shr_ex 4 (by decide) (by omega) (by omega)
    generalize j_shr r1 4 = v2 at b2 ⊢
    refine jr.i2l rfl (by omega) ?_
    exact jr.lreturn rfl rfl (q _ (by omega) (fun z => by have hw := w1_0; (try simp only [Int.reduceMul, Int.add_zero] at hw); simp only [vof_8_4, nbs_1, nbs_2t, Int.add_zero, rf_a]; omega))
  · refine jc_of (m := xm_274) rfl (Nat.le_of_ble_eq_true rfl) rfl ?_
    refine jr.iload_n rfl rfl ?_
    refine jr.tsw_k 5 rfl rfl rfl ?_
    refine jr.aload_n rfl rfl ?_
    refine jr.iload_n rfl rfl ?_
    refine jr.iload_n rfl rfl ?_
    refine jr.bipush rfl (jbp _ (nlt rfl)) ?_
    refine jr.iadd rfl ?_
    refine jr_v rfl rfl (Or.inl rfl) rfl rfl (nlt rfl) rfl ⟨rfl, Nat.le_of_ble_eq_true rfl, Nat.le_of_ble_eq_true rfl⟩ rfl (jc.deep (r_one hI_M hH_M hS_M (Kp.rfl _) (by omega) (by omega)  (fun r1 z1 w1_0 => ?_)) (Nat.le_of_ble_eq_true rfl))
    refine jr.i2l rfl (by omega) ?_
    exact jr.lreturn rfl rfl (q _ (by omega) (fun z => by have hw := w1_0; (try simp only [Int.reduceMul, Int.add_zero] at hw); simp only [vof_8_5, nbs_1, nbs_2t, Int.add_zero, rf_a]; omega))
  · refine jc_of (m := xm_274) rfl (Nat.le_of_ble_eq_true rfl) rfl ?_
    refine jr.iload_n rfl rfl ?_
    refine jr.tsw_d rfl (by decide) (by decide) rfl ?_
    refine jr.aload_n rfl rfl ?_
    refine jr.iload_n rfl rfl ?_
    refine jr.iload_n rfl rfl ?_
    refine jr.bipush rfl (jbp _ (nlt rfl)) ?_
    refine jr.icmp_ne rfl rfl (by first | exact rgl rfl | omega) (rgl rfl) (fun h => absurd h (by decide)) (fun _ => ?_)
    refine jr.iload_n rfl rfl ?_
    refine jr.bipush rfl (jbp _ (nlt rfl)) ?_
    refine jr.iadd rfl ?_
    refine jr.goto rfl rfl ?_
    refine jr_v rfl rfl (Or.inl rfl) rfl rfl (nlt rfl) rfl ⟨rfl, Nat.le_of_ble_eq_true rfl, Nat.le_of_ble_eq_true rfl⟩ rfl (jc.deep (r_two_x hI_M hH_M hS_M  (by omega) (by omega)  (fun r1 z1 w1_0 => ?_)) (Nat.le_of_ble_eq_true rfl))
    refine jr.i2l rfl (by omega) ?_
    exact jr.lreturn rfl rfl (q _ (by omega) (fun z => by have hw := w1_0; (try simp only [Int.reduceMul, Int.add_zero] at hw); simp only [vof_8_6, nbs_1, nbs_2t, Int.add_zero, rf_a]; omega))
  · refine jc_of (m := xm_274) rfl (Nat.le_of_ble_eq_true rfl) rfl ?_
    refine jr.iload_n rfl rfl ?_
    refine jr.tsw_d rfl (by decide) (by decide) rfl ?_
    refine jr.aload_n rfl rfl ?_
    refine jr.iload_n rfl rfl ?_
    refine jr.iload_n rfl rfl ?_
    refine jr.bipush rfl (jbp _ (nlt rfl)) ?_
    refine jr.icmp_ne rfl rfl (by first | exact rgl rfl | omega) (rgl rfl) (fun _ => ?_) (fun h => absurd (by decide) h)
    refine jr.iload_n rfl rfl ?_
    refine jr.bipush rfl (jbp _ (nlt rfl)) ?_
    refine jr.iadd rfl ?_
    refine jr_v rfl rfl (Or.inl rfl) rfl rfl (nlt rfl) rfl ⟨rfl, Nat.le_of_ble_eq_true rfl, Nat.le_of_ble_eq_true rfl⟩ rfl (jc.deep (r_two_x hI_M hH_M hS_M  (by omega) (by omega)  (fun r1 z1 w1_0 => ?_)) (Nat.le_of_ble_eq_true rfl))
    refine jr.i2l rfl (by omega) ?_
    exact jr.lreturn rfl rfl (q _ (by omega) (fun z => by have hw := w1_0; (try simp only [Int.reduceMul, Int.add_zero] at hw); simp only [vof_8_7, nbs_1, nbs_2t, Int.add_zero, rf_a]; omega))
theorem r_valueOf_x {A : Nat → Option (Nat × (Nat → Int32))} {Q : Option Value → jm → Prop} {M : jm} (hI_M : RI M) (hH_M : RH M) (hS_M : RF M) {x : Int} (h_x : 0 ≤ x ∧ x ≤ 23) {k : Int} (h_k : 0 ≤ k ∧ k ≤ 11) {a : Int} (h_a : 0 ≤ a ∧ a ≤ 400) {m : Int} (h_m : 0 ≤ m ∧ m ≤ 400) {f : Int} (h_f : 0 ≤ f ∧ f ≤ 10) (p0 : a + lst k ≤ 400) (p1 : f < xcv_2 k) (q : ∀ (r : Int), (-9223372036854775808) ≤ r ∧ r ≤ 9223372036854775807 → r = vof (rf M x) m k a f → Q (some (.long (Int64.ofInt r))) M) : jc A 6 275 [.ref (598), .int (Int32.ofInt (x)), .int (Int32.ofInt (k)), .int (Int32.ofInt (a)), .int (Int32.ofInt (m)), .int (Int32.ofInt (f))] M Q := by
  rcases (show k = 0 ∨ k = 1 ∨ k = 2 ∨ k = 3 ∨ k = 4 ∨ k = 5 ∨ k = 6 ∨ k = 7 ∨ k = 8 ∨ k = 9 ∨ k = 10 ∨ k = 11 by omega) with rfl | rfl | rfl | rfl | rfl | rfl | rfl | rfl | rfl | rfl | rfl | rfl
  · have lk : lst 0 = 4 := rfl
    have fk : xcv_2 0 = 3 := (by decide +kernel)
    refine jc_of (m := xm_275) rfl (Nat.le_of_ble_eq_true rfl) rfl ?_
    refine jr.iload_n rfl rfl ?_
    refine jr.tsw_k 0 rfl rfl rfl ?_
    refine jr.iload rfl rfl ?_
    refine jr.iconst rfl ?_
    refine jr.icmp_ne rfl rfl (by first | (refine rgb (by assumption) ?_; exact rfl) | omega) (rgl rfl) (fun h63 => ?_) (fun h63 => ?_)
    · refine jr.aload_n rfl rfl ?_
      refine jr.iload_n rfl rfl ?_
      refine jr.iload_n rfl rfl ?_
      refine jr.iload rfl rfl ?_
      refine jr.iadd rfl ?_
      refine jr_v rfl rfl (Or.inl rfl) rfl rfl (nlt rfl) rfl ⟨rfl, Nat.le_of_ble_eq_true rfl, Nat.le_of_ble_eq_true rfl⟩ rfl (jc.deep (r_one hI_M hH_M hS_M (Kp.rfl _) (by omega) (by omega)  (fun r1 z1 w1_0 => ?_)) (Nat.le_of_ble_eq_true rfl))
      refine jr.i2l rfl (by omega) ?_
      exact jr.lreturn rfl rfl (q _ (by omega) (by rcases (show f = 0 ∨ f = 1 ∨ f = 2 by omega) with rfl | rfl | rfl <;> first | (exfalso; omega) | (have hw := w1_0; (try simp only [Int.reduceMul, Int.add_zero] at hw); simp only [vof_0_0, vof_0_1, vof_0_2, nbs_1, nbs_2t, Int.add_zero, rf_a]; omega)))
    · refine jr.aload_n rfl rfl ?_
      refine jr.iload_n rfl rfl ?_
      refine jr.iload_n rfl rfl ?_
      refine jr.iconst rfl ?_
      refine jr.iadd rfl ?_
      refine jr_v rfl rfl (Or.inl rfl) rfl rfl (nlt rfl) rfl ⟨rfl, Nat.le_of_ble_eq_true rfl, Nat.le_of_ble_eq_true rfl⟩ rfl (jc.deep (r_two_x hI_M hH_M hS_M  (by omega) (by omega)  (fun r2 z2 w2_0 => ?_)) (Nat.le_of_ble_eq_true rfl))
      refine jr.i2l rfl (by omega) ?_
      refine jr.goto rfl rfl ?_
      exact jr.lreturn rfl rfl (q _ (by omega) (by rcases (show f = 0 ∨ f = 1 ∨ f = 2 by omega) with rfl | rfl | rfl <;> first | (exfalso; omega) | (have hw := w2_0; (try simp only [Int.reduceMul, Int.add_zero] at hw); simp only [vof_0_0, vof_0_1, vof_0_2, nbs_1, nbs_2t, Int.add_zero, rf_a]; omega)))
  · have lk : lst 1 = 4 := rfl
    have fk : xcv_2 1 = 3 := (by decide +kernel)
    refine jc_of (m := xm_275) rfl (Nat.le_of_ble_eq_true rfl) rfl ?_
    refine jr.iload_n rfl rfl ?_
    refine jr.tsw_k 1 rfl rfl rfl ?_
    refine jr.iload rfl rfl ?_
    refine jr.if_ne rfl rfl (by first | (refine rgb (by assumption) ?_; exact rfl) | omega) (fun h91 => ?_) (fun h91 => ?_)
    · have sx91 : (1 : Int) ≤ f := by omega
      clear h91
      refine jr.iload rfl rfl ?_
      refine jr.iconst rfl ?_
      refine jr.icmp_ne rfl rfl (by first | (refine rgb (by assumption) ?_; exact rfl) | omega) (rgl rfl) (fun h110 => ?_) (fun h110 => ?_)
      · have sx110 : (2 : Int) ≤ f := by omega
        clear h110
        refine jr.aload_n rfl rfl ?_
        refine jr.iload_n rfl rfl ?_
        refine jr.iload_n rfl rfl ?_
        refine jr.iconst rfl ?_
        refine jr.iadd rfl ?_
        refine jr_v rfl rfl (Or.inl rfl) rfl rfl (nlt rfl) rfl ⟨rfl, Nat.le_of_ble_eq_true rfl, Nat.le_of_ble_eq_true rfl⟩ rfl (jc.deep (r_two_x hI_M hH_M hS_M  (by omega) (by omega)  (fun r1 z1 w1_0 => ?_)) (Nat.le_of_ble_eq_true rfl))
        refine jr.i2l rfl (by omega) ?_
        exact jr.lreturn rfl rfl (q _ (by omega) (by rcases (show f = 0 ∨ f = 1 ∨ f = 2 by omega) with rfl | rfl | rfl <;> first | (exfalso; omega) | (have hw := w1_0; (try simp only [Int.reduceMul, Int.add_zero] at hw); simp only [vof_1_0, vof_1_1, vof_1_2, nbs_1, nbs_2t, Int.add_zero, rf_a]; omega)))
      · refine jr.aload_n rfl rfl ?_
        refine jr.iload_n rfl rfl ?_
        refine jr.iload_n rfl rfl ?_
        refine jr_v rfl rfl (Or.inl rfl) rfl rfl (nlt rfl) rfl ⟨rfl, Nat.le_of_ble_eq_true rfl, Nat.le_of_ble_eq_true rfl⟩ rfl (jc.deep (r_two_x hI_M hH_M hS_M  (by omega) (by omega)  (fun r2 z2 w2_0 => ?_)) (Nat.le_of_ble_eq_true rfl))
        refine jr.sipush rfl (by decide) ?_
        refine jr.iand rfl ?_
        have b3 : j_and r2 4095 = r2 % 4096 := j_and_m 12 (by decide) _
        generalize j_and r2 4095 = v3 at b3 ⊢
        refine jr.i2l rfl (by omega) ?_
        refine jr.goto rfl rfl ?_
        exact jr.lreturn rfl rfl (q _ (by omega) (by rcases (show f = 0 ∨ f = 1 ∨ f = 2 by omega) with rfl | rfl | rfl <;> first | (exfalso; omega) | (have hw := w2_0; (try simp only [Int.reduceMul, Int.add_zero] at hw); simp only [vof_1_0, vof_1_1, vof_1_2, nbs_1, nbs_2t, Int.add_zero, rf_a]; omega)))
    · refine jr.aload_n rfl rfl ?_
      refine jr.iload_n rfl rfl ?_
      refine jr.iload_n rfl rfl ?_
      refine jr_v rfl rfl (Or.inl rfl) rfl rfl (nlt rfl) rfl ⟨rfl, Nat.le_of_ble_eq_true rfl, Nat.le_of_ble_eq_true rfl⟩ rfl (jc.deep (r_two_x hI_M hH_M hS_M  (by omega) (by omega)  (fun r4 z4 w4_0 => ?_)) (Nat.le_of_ble_eq_true rfl))
      refine jr.bipush rfl (jbp _ (nlt rfl)) ?_
      refine jr.ishr rfl ?_
      have b5 : j_shr r4 12 = r4 / 4096 := j_shr_ex 12 (by decide) (by omega) (by omega)
      generalize j_shr r4 12 = v5 at b5 ⊢
      refine jr.i2l rfl (by omega) ?_
      refine jr.goto rfl rfl ?_
      exact jr.lreturn rfl rfl (q _ (by omega) (by rcases (show f = 0 ∨ f = 1 ∨ f = 2 by omega) with rfl | rfl | rfl <;> first | (exfalso; omega) | (have hw := w4_0; (try simp only [Int.reduceMul, Int.add_zero] at hw); simp only [vof_1_0, vof_1_1, vof_1_2, nbs_1, nbs_2t, Int.add_zero, rf_a]; omega)))
  · have lk : lst 2 = 20 := rfl
    have fk : xcv_2 2 = 11 := (by decide +kernel)
    refine jc_of (m := xm_275) rfl (Nat.le_of_ble_eq_true rfl) rfl ?_
    refine jr.iload_n rfl rfl ?_
    refine jr.tsw_k 2 rfl rfl rfl ?_
    refine jr.aload_n rfl rfl ?_
    refine jr.iload_n rfl rfl ?_
    refine jr.iload_n rfl rfl ?_
    refine jr.iload rfl rfl ?_
    refine jr_v rfl rfl (Or.inl rfl) rfl rfl (nlt rfl) rfl ⟨rfl, Nat.le_of_ble_eq_true rfl, Nat.le_of_ble_eq_true rfl⟩ rfl (jc.deep (r_ofFour_x hI_M hH_M hS_M  (by omega) (by omega) (by omega)  (fun r1 z1 w1_0 => ?_)) (Nat.le_of_ble_eq_true rfl))
    exact jr.lreturn rfl rfl (q _ (by omega) (w1_0 m))
  · have lk : lst 3 = 24 := rfl
    have fk : xcv_2 3 = 7 := (by decide +kernel)
    refine jc_of (m := xm_275) rfl (Nat.le_of_ble_eq_true rfl) rfl ?_
    refine jr.iload_n rfl rfl ?_
    refine jr.tsw_k 3 rfl rfl rfl ?_
    refine jr.aload_n rfl rfl ?_
    refine jr.iload_n rfl rfl ?_
    refine jr.iload_n rfl rfl ?_
    refine jr.iload rfl rfl ?_
    refine jr_v rfl rfl (Or.inl rfl) rfl rfl (nlt rfl) rfl ⟨rfl, Nat.le_of_ble_eq_true rfl, Nat.le_of_ble_eq_true rfl⟩ rfl (jc.deep (r_ofSix_x hI_M hH_M hS_M  (by omega) (by omega) (by omega)  (fun r1 z1 w1_0 => ?_)) (Nat.le_of_ble_eq_true rfl))
    exact jr.lreturn rfl rfl (q _ (by omega) (w1_0 m))
  · have lk : lst 4 = 8 := rfl
    have fk : xcv_2 4 = 2 := (by decide +kernel)
    refine jc_of (m := xm_275) rfl (Nat.le_of_ble_eq_true rfl) rfl ?_
    refine jr.iload_n rfl rfl ?_
    refine jr.tsw_k 4 rfl rfl rfl ?_
    refine jr.aload_n rfl rfl ?_
    refine jr.iload_n rfl rfl ?_
    refine jr.iload_n rfl rfl ?_
    refine jr.iload rfl rfl ?_
    refine jr.iadd rfl ?_
    refine jr_v rfl rfl (Or.inl rfl) rfl rfl (nlt rfl) rfl ⟨rfl, Nat.le_of_ble_eq_true rfl, Nat.le_of_ble_eq_true rfl⟩ rfl (jc.deep (r_one hI_M hH_M hS_M (Kp.rfl _) (by omega) (by omega)  (fun r1 z1 w1_0 => ?_)) (Nat.le_of_ble_eq_true rfl))
    refine jr.i2l rfl (by omega) ?_
    exact jr.lreturn rfl rfl (q _ (by omega) (by rcases (show f = 0 ∨ f = 1 by omega) with rfl | rfl <;> first | (exfalso; omega) | (have hw := w1_0; (try simp only [Int.reduceMul, Int.add_zero] at hw); simp only [vof_4_0, vof_4_1, nbs_1, nbs_2t, Int.add_zero, rf_a]; omega)))
  · have lk : lst 5 = 8 := rfl
    have fk : xcv_2 5 = 3 := (by decide +kernel)
    refine jc_of (m := xm_275) rfl (Nat.le_of_ble_eq_true rfl) rfl ?_
    refine jr.iload_n rfl rfl ?_
    refine jr.tsw_k 5 rfl rfl rfl ?_
    refine jr.aload_n rfl rfl ?_
    refine jr.iload_n rfl rfl ?_
    refine jr.iload_n rfl rfl ?_
    refine jr.iload rfl rfl ?_
    refine jr.iadd rfl ?_
    refine jr_v rfl rfl (Or.inl rfl) rfl rfl (nlt rfl) rfl ⟨rfl, Nat.le_of_ble_eq_true rfl, Nat.le_of_ble_eq_true rfl⟩ rfl (jc.deep (r_one hI_M hH_M hS_M (Kp.rfl _) (by omega) (by omega)  (fun r1 z1 w1_0 => ?_)) (Nat.le_of_ble_eq_true rfl))
    refine jr.i2l rfl (by omega) ?_
    exact jr.lreturn rfl rfl (q _ (by omega) (by rcases (show f = 0 ∨ f = 1 ∨ f = 2 by omega) with rfl | rfl | rfl <;> first | (exfalso; omega) | (have hw := w1_0; (try simp only [Int.reduceMul, Int.add_zero] at hw); simp only [vof_5_0, vof_5_1, vof_5_2, nbs_1, nbs_2t, Int.add_zero, rf_a]; omega)))
  · have lk : lst 6 = 8 := rfl
    have fk : xcv_2 6 = 4 := (by decide +kernel)
    refine jc_of (m := xm_275) rfl (Nat.le_of_ble_eq_true rfl) rfl ?_
    refine jr.iload_n rfl rfl ?_
    refine jr.tsw_k 6 rfl rfl rfl ?_
    refine jr.iload rfl rfl ?_
    refine jr.if_ne rfl rfl (by first | (refine rgb (by assumption) ?_; exact rfl) | omega) (fun h168 => ?_) (fun h168 => ?_)
    · have sx168 : (1 : Int) ≤ f := by omega
      clear h168
      refine jr.iload rfl rfl ?_
      refine jr.iconst rfl ?_
      refine jr.icmp_ne rfl rfl (by first | (refine rgb (by assumption) ?_; exact rfl) | omega) (rgl rfl) (fun h184 => ?_) (fun h184 => ?_)
      · have sx184 : (2 : Int) ≤ f := by omega
        clear h184
        refine jr.iload rfl rfl ?_
        refine jr.iconst rfl ?_
        refine jr.icmp_ne rfl rfl (by first | (refine rgb (by assumption) ?_; exact rfl) | omega) (rgl rfl) (fun h204 => ?_) (fun h204 => ?_)
        · have sx204 : (3 : Int) ≤ f := by omega
          clear h204
          refine jr.aload_n rfl rfl ?_
          refine jr.iload_n rfl rfl ?_
          refine jr.iload_n rfl rfl ?_
          refine jr.iconst rfl ?_
          refine jr.iadd rfl ?_
          refine jr_v rfl rfl (Or.inl rfl) rfl rfl (nlt rfl) rfl ⟨rfl, Nat.le_of_ble_eq_true rfl, Nat.le_of_ble_eq_true rfl⟩ rfl (jc.deep (r_four_x hI_M hH_M hS_M  (by omega) (by omega)  (fun r1 z1 w1_0 => ?_)) (Nat.le_of_ble_eq_true rfl))
          exact jr.lreturn rfl rfl (q _ (by omega) (by rcases (show f = 0 ∨ f = 1 ∨ f = 2 ∨ f = 3 by omega) with rfl | rfl | rfl | rfl <;> first | (exfalso; omega) | (have hw := w1_0; (try simp only [Int.reduceMul, Int.add_zero] at hw); simp only [vof_6_0, vof_6_1, vof_6_2, vof_6_3, nbs_1, nbs_2t, Int.add_zero, rf_a]; omega)))
        · refine jr.aload_n rfl rfl ?_
          refine jr.iload_n rfl rfl ?_
          refine jr.iload_n rfl rfl ?_
          refine jr.iconst rfl ?_
          refine jr.iadd rfl ?_
          refine jr_v rfl rfl (Or.inl rfl) rfl rfl (nlt rfl) rfl ⟨rfl, Nat.le_of_ble_eq_true rfl, Nat.le_of_ble_eq_true rfl⟩ rfl (jc.deep (r_two_x hI_M hH_M hS_M  (by omega) (by omega)  (fun r2 z2 w2_0 => ?_)) (Nat.le_of_ble_eq_true rfl))
          refine jr.iconst rfl ?_
          refine jr.iand rfl ?_
          have b3 : j_and r2 1 = r2 % 2 := j_and_m 1 (by decide) _
          generalize j_and r2 1 = v3 at b3 ⊢
          refine jr.i2l rfl (by omega) ?_
          refine jr.goto rfl rfl ?_
          exact jr.lreturn rfl rfl (q _ (by omega) (by rcases (show f = 0 ∨ f = 1 ∨ f = 2 ∨ f = 3 by omega) with rfl | rfl | rfl | rfl <;> first | (exfalso; omega) | (have hw := w2_0; (try simp only [Int.reduceMul, Int.add_zero] at hw); simp only [vof_6_0, vof_6_1, vof_6_2, vof_6_3, nbs_1, nbs_2t, Int.add_zero, rf_a]; omega)))
      · refine jr.aload_n rfl rfl ?_
        refine jr.iload_n rfl rfl ?_
        refine jr.iload_n rfl rfl ?_
        refine jr.iconst rfl ?_
        refine jr.iadd rfl ?_
        refine jr_v rfl rfl (Or.inl rfl) rfl rfl (nlt rfl) rfl ⟨rfl, Nat.le_of_ble_eq_true rfl, Nat.le_of_ble_eq_true rfl⟩ rfl (jc.deep (r_two_x hI_M hH_M hS_M  (by omega) (by omega)  (fun r4 z4 w4_0 => ?_)) (Nat.le_of_ble_eq_true rfl))
        refine jr.iconst rfl ?_
        refine jr.ishr rfl ?_
        have b5 : j_shr r4 3 = r4 / 8 := j_shr_ex 3 (by decide) (by omega) (by omega)
        generalize j_shr r4 3 = v5 at b5 ⊢
        refine jr.i2l rfl (by omega) ?_
        refine jr.goto rfl rfl ?_
        exact jr.lreturn rfl rfl (q _ (by omega) (by rcases (show f = 0 ∨ f = 1 ∨ f = 2 ∨ f = 3 by omega) with rfl | rfl | rfl | rfl <;> first | (exfalso; omega) | (have hw := w4_0; (try simp only [Int.reduceMul, Int.add_zero] at hw); simp only [vof_6_0, vof_6_1, vof_6_2, vof_6_3, nbs_1, nbs_2t, Int.add_zero, rf_a]; omega)))
    · refine jr.aload_n rfl rfl ?_
      refine jr.iload_n rfl rfl ?_
      refine jr.iload_n rfl rfl ?_
      refine jr_v rfl rfl (Or.inl rfl) rfl rfl (nlt rfl) rfl ⟨rfl, Nat.le_of_ble_eq_true rfl, Nat.le_of_ble_eq_true rfl⟩ rfl (jc.deep (r_one hI_M hH_M hS_M (Kp.rfl _) (by omega) (by omega)  (fun r6 z6 w6_0 => ?_)) (Nat.le_of_ble_eq_true rfl))
      refine jr.i2l rfl (by omega) ?_
      refine jr.goto rfl rfl ?_
      exact jr.lreturn rfl rfl (q _ (by omega) (by rcases (show f = 0 ∨ f = 1 ∨ f = 2 ∨ f = 3 by omega) with rfl | rfl | rfl | rfl <;> first | (exfalso; omega) | (have hw := w6_0; (try simp only [Int.reduceMul, Int.add_zero] at hw); simp only [vof_6_0, vof_6_1, vof_6_2, vof_6_3, nbs_1, nbs_2t, Int.add_zero, rf_a]; omega)))
  · have lk : lst 7 = 8 := rfl
    have fk : xcv_2 7 = 4 := (by decide +kernel)
    refine jc_of (m := xm_275) rfl (Nat.le_of_ble_eq_true rfl) rfl ?_
    refine jr.iload_n rfl rfl ?_
    refine jr.tsw_k 7 rfl rfl rfl ?_
    refine jr.iload rfl rfl ?_
    refine jr.iconst rfl ?_
    refine jr.icmp_ge rfl rfl (by first | (refine rgb (by assumption) ?_; exact rfl) | omega) (rgl rfl) (fun h233 => ?_) (fun h233 => ?_)
    · refine jr.iload rfl rfl ?_
      refine jr.iconst rfl ?_
      refine jr.icmp_ne rfl rfl (by first | (refine rgb (by assumption) ?_; exact rfl) | omega) (rgl rfl) (fun h252 => ?_) (fun h252 => ?_)
      · have sx252 : (3 : Int) ≤ f := by omega
        clear h252
        refine jr.aload_n rfl rfl ?_
        refine jr.iload_n rfl rfl ?_
        refine jr.iload_n rfl rfl ?_
        refine jr.iconst rfl ?_
        refine jr.iadd rfl ?_
        refine jr_v rfl rfl (Or.inl rfl) rfl rfl (nlt rfl) rfl ⟨rfl, Nat.le_of_ble_eq_true rfl, Nat.le_of_ble_eq_true rfl⟩ rfl (jc.deep (r_four_x hI_M hH_M hS_M  (by omega) (by omega)  (fun r1 z1 w1_0 => ?_)) (Nat.le_of_ble_eq_true rfl))
        exact jr.lreturn rfl rfl (q _ (by omega) (by rcases (show f = 0 ∨ f = 1 ∨ f = 2 ∨ f = 3 by omega) with rfl | rfl | rfl | rfl <;> first | (exfalso; omega) | (have hw := w1_0; (try simp only [Int.reduceMul, Int.add_zero] at hw); simp only [vof_7_0, vof_7_1, vof_7_2, vof_7_3, nbs_1, nbs_2t, Int.add_zero, rf_a]; omega)))
      · refine jr.aload_n rfl rfl ?_
        refine jr.iload_n rfl rfl ?_
        refine jr.iload_n rfl rfl ?_
        refine jr.iconst rfl ?_
        refine jr.iadd rfl ?_
        refine jr_v rfl rfl (Or.inl rfl) rfl rfl (nlt rfl) rfl ⟨rfl, Nat.le_of_ble_eq_true rfl, Nat.le_of_ble_eq_true rfl⟩ rfl (jc.deep (r_two_x hI_M hH_M hS_M  (by omega) (by omega)  (fun r2 z2 w2_0 => ?_)) (Nat.le_of_ble_eq_true rfl))
        refine jr.i2l rfl (by omega) ?_
        refine jr.goto rfl rfl ?_
        exact jr.lreturn rfl rfl (q _ (by omega) (by rcases (show f = 0 ∨ f = 1 ∨ f = 2 ∨ f = 3 by omega) with rfl | rfl | rfl | rfl <;> first | (exfalso; omega) | (have hw := w2_0; (try simp only [Int.reduceMul, Int.add_zero] at hw); simp only [vof_7_0, vof_7_1, vof_7_2, vof_7_3, nbs_1, nbs_2t, Int.add_zero, rf_a]; omega)))
    · refine jr.aload_n rfl rfl ?_
      refine jr.iload_n rfl rfl ?_
      refine jr.iload_n rfl rfl ?_
      refine jr.iload rfl rfl ?_
      refine jr.iadd rfl ?_
      refine jr_v rfl rfl (Or.inl rfl) rfl rfl (nlt rfl) rfl ⟨rfl, Nat.le_of_ble_eq_true rfl, Nat.le_of_ble_eq_true rfl⟩ rfl (jc.deep (r_one hI_M hH_M hS_M (Kp.rfl _) (by omega) (by omega)  (fun r3 z3 w3_0 => ?_)) (Nat.le_of_ble_eq_true rfl))
      refine jr.i2l rfl (by omega) ?_
      refine jr.goto rfl rfl ?_
      exact jr.lreturn rfl rfl (q _ (by omega) (by rcases (show f = 0 ∨ f = 1 ∨ f = 2 ∨ f = 3 by omega) with rfl | rfl | rfl | rfl <;> first | (exfalso; omega) | (have hw := w3_0; (try simp only [Int.reduceMul, Int.add_zero] at hw); simp only [vof_7_0, vof_7_1, vof_7_2, vof_7_3, nbs_1, nbs_2t, Int.add_zero, rf_a]; omega)))
  · have lk : lst 8 = 20 := rfl
    have fk : xcv_2 8 = 8 := (by decide +kernel)
    refine jc_of (m := xm_275) rfl (Nat.le_of_ble_eq_true rfl) rfl ?_
    refine jr.iload_n rfl rfl ?_
    refine jr.tsw_k 8 rfl rfl rfl ?_
    refine jr.aload_n rfl rfl ?_
    refine jr.iload_n rfl rfl ?_
    refine jr.iload_n rfl rfl ?_
    refine jr.iload rfl rfl ?_
    refine jr_v rfl rfl (Or.inl rfl) rfl rfl (nlt rfl) rfl ⟨rfl, Nat.le_of_ble_eq_true rfl, Nat.le_of_ble_eq_true rfl⟩ rfl (jc.deep (r_ofStream_x hI_M hH_M hS_M  (by omega) (by omega) (by omega)  (fun r1 z1 w1_0 => ?_)) (Nat.le_of_ble_eq_true rfl))
    exact jr.lreturn rfl rfl (q _ (by omega) (w1_0 m))
  · have lk : lst 9 = 8 := rfl
    have fk : xcv_2 9 = 4 := (by decide +kernel)
    refine jc_of (m := xm_275) rfl (Nat.le_of_ble_eq_true rfl) rfl ?_
    refine jr.iload_n rfl rfl ?_
    refine jr.tsw_k 9 rfl rfl rfl ?_
    refine jr.aload_n rfl rfl ?_
    refine jr.iload_n rfl rfl ?_
    refine jr.iload_n rfl rfl ?_
    refine jr.iconst rfl ?_
    refine jr.iload rfl rfl ?_
    refine jr.imul rfl ?_
    refine jr.iadd rfl ?_
    refine jr_v rfl rfl (Or.inl rfl) rfl rfl (nlt rfl) rfl ⟨rfl, Nat.le_of_ble_eq_true rfl, Nat.le_of_ble_eq_true rfl⟩ rfl (jc.deep (r_two_x hI_M hH_M hS_M  (by omega) (by omega)  (fun r1 z1 w1_0 => ?_)) (Nat.le_of_ble_eq_true rfl))
    refine jr.i2l rfl (by omega) ?_
    exact jr.lreturn rfl rfl (q _ (by omega) (by rcases (show f = 0 ∨ f = 1 ∨ f = 2 ∨ f = 3 by omega) with rfl | rfl | rfl | rfl <;> first | (exfalso; omega) | (have hw := w1_0; (try simp only [Int.reduceMul, Int.add_zero] at hw); simp only [vof_9_0, vof_9_1, vof_9_2, vof_9_3, nbs_1, nbs_2t, Int.add_zero, rf_a]; omega)))
  · have lk : lst 10 = 4 := rfl
    have fk : xcv_2 10 = 2 := (by decide +kernel)
    refine jc_of (m := xm_275) rfl (Nat.le_of_ble_eq_true rfl) rfl ?_
    refine jr.iload_n rfl rfl ?_
    refine jr.tsw_k 10 rfl rfl rfl ?_
    refine jr.aload_n rfl rfl ?_
    refine jr.iload_n rfl rfl ?_
    refine jr.iload_n rfl rfl ?_
    refine jr.iconst rfl ?_
    refine jr.iload rfl rfl ?_
    refine jr.imul rfl ?_
    refine jr.iadd rfl ?_
    refine jr_v rfl rfl (Or.inl rfl) rfl rfl (nlt rfl) rfl ⟨rfl, Nat.le_of_ble_eq_true rfl, Nat.le_of_ble_eq_true rfl⟩ rfl (jc.deep (r_two_x hI_M hH_M hS_M  (by omega) (by omega)  (fun r1 z1 w1_0 => ?_)) (Nat.le_of_ble_eq_true rfl))
    refine jr.i2l rfl (by omega) ?_
    exact jr.lreturn rfl rfl (q _ (by omega) (by rcases (show f = 0 ∨ f = 1 by omega) with rfl | rfl <;> first | (exfalso; omega) | (have hw := w1_0; (try simp only [Int.reduceMul, Int.add_zero] at hw); simp only [vof_10_0, vof_10_1, nbs_1, nbs_2t, Int.add_zero, rf_a]; omega)))
  · have lk : lst 11 = 0 := rfl
    have fk : xcv_2 11 = 1 := (by decide +kernel)
    refine jc_of (m := xm_275) rfl (Nat.le_of_ble_eq_true rfl) rfl ?_
    refine jr.iload_n rfl rfl ?_
    refine jr.tsw_d rfl (by decide) (by decide) rfl ?_
    refine jr.iload rfl rfl ?_
    refine jr.i2l rfl (by omega) ?_
    exact jr.lreturn rfl rfl (q _ (by omega) rfl)
theorem r_kind_x {A : Nat → Option (Nat × (Nat → Int32))} {Q : Option Value → jm → Prop} {M : jm} (hI_M : RI M) (hH_M : RH M) (hS_M : RF M) {x : Int} (h_x : (-2147483648) ≤ x ∧ x ≤ 2147483647) {h : Int} (h_h : (-2147483648) ≤ h ∧ h ≤ 2147483647) (q : ∀ (r : Int) (M' : jm), RI M' → RH M' → RF M' → (-2) ≤ r ∧ r ≤ 11 → (((x < 0 ∨ 23 < x ∨ M 600 x = -1) ∧ r = -2) ∨ (((0 ≤ x ∧ x ≤ 23) ∧ M 600 x ≠ -1) ∧ ∃ C : Int, HE (rf M x) (M 600 x) C ∧ r = kA (rf M x) (M 600 x) C h)) → (∀ (a : Nat) (i : Int), a ≠ 598 → a ≠ 603 → a ≠ 604 → a ≠ 605 → M' a i = M a i) → (∀ (i : Int), i ≠ 6 → i ≠ 10 → i ≠ 11 → i ≠ 12 → M' 598 i = M 598 i) → Q (some (.int (Int32.ofInt r))) M') : jc A 5 269 [.ref (598), .int (Int32.ofInt (x)), .int (Int32.ofInt (h))] M Q := by
  refine jc_of (m := xm_269) rfl (Nat.le_of_ble_eq_true rfl) rfl ?_
  refine jr.aload_n rfl rfl ?_
  refine jr.iload_n rfl rfl ?_
  refine jr_v rfl rfl (Or.inl rfl) rfl rfl (nlt rfl) rfl ⟨rfl, Nat.le_of_ble_eq_true rfl, Nat.le_of_ble_eq_true rfl⟩ rfl (jc.deep (c_isThere hI_M (by omega) (fun l2 u2 t2 => ?_) (fun n2 => ?_)) (Nat.le_of_ble_eq_true rfl))
  · refine jr.if_ne rfl rfl (by first | exact rgl rfl | omega) (fun _ => ?_) (fun h => absurd (by decide) h)
    refine jr.aload_n rfl rfl ?_
    refine jr.iload_n rfl rfl ?_
    obtain ⟨v2, e2⟩ : ∃ z, M 600 x = z := ⟨_, rfl⟩
    have b2 : (-1) ≤ v2 ∧ v2 ≤ 400 := by rw [← e2]; exact (by have q := hI_M 600 x (Nat.le_of_ble_eq_true rfl); rw [xri_row rfl rfl] at q; exact q)
    refine jr_v rfl rfl (Or.inl rfl) rfl rfl (nlt rfl) rfl ⟨rfl, Nat.le_of_ble_eq_true rfl, Nat.le_of_ble_eq_true rfl⟩ rfl (jc.deep (r_look_x hI_M hH_M hS_M  (by omega) (by rw [e2]; omega) (fun M1 hI_M1 hH_M1 hS_M1  w1_0 w1_1 w1_2 w1_3 => ?_)) (Nat.le_of_ble_eq_true rfl))
    refine jr.iload_n rfl rfl ?_
    refine jr.i2l rfl (by omega) ?_
    refine jr.lconst (x := 0) rfl (by decide) ?_
    refine jr.aload_n rfl rfl ?_
    obtain ⟨v3, e3⟩ : ∃ z, M1 598 6 = z := ⟨_, rfl⟩
    have b3 : 0 ≤ v3 ∧ v3 ≤ 12 := by rw [← e3]; exact hI_M1 598 6 (Nat.le_of_ble_eq_true rfl)
    refine jr.getf (i := 6) (x := v3) (v := .int (Int32.ofInt (v3))) rfl rfl (nlt rfl) rfl (nlt rfl) rfl rfl e3 rfl ?_
    refine jr.iconst rfl ?_
    refine jr.isub rfl ?_
    refine jr.i2l rfl (by omega) ?_
    refine jr_s rfl rfl (Or.inl rfl) ⟨Nat.le_of_ble_eq_true rfl, Nat.le_of_ble_eq_true rfl⟩ rfl rfl (jc.deep (c_within (by omega) (by omega) (by omega) (fun l26 u26 => ?_) (fun n26 => ?_)) (Nat.le_of_ble_eq_true rfl))
    · refine jr.if_eq rfl rfl (by first | exact rgl rfl | omega) (fun h => absurd h (by decide)) (fun _ => ?_)
      refine jr.aload_n rfl rfl ?_
      refine jr.getf (i := 7) (v := .ref 603) rfl rfl (nlt rfl) rfl (nlt rfl) rfl rfl rfl rfl ?_
      refine jr.iload_n rfl rfl ?_
      obtain ⟨v4, e4⟩ : ∃ z, M1 603 h = z := ⟨_, rfl⟩
      have b4 : 0 ≤ v4 ∧ v4 ≤ 11 := by rw [← e4]; exact (by have q := hI_M1 603 h (Nat.le_of_ble_eq_true rfl); rw [xri_row rfl rfl] at q; exact q)
      refine jr.iald (i := h) (x := v4) rfl (nlt rfl) rfl (Nat.le_of_ble_eq_true rfl) (by omega) (by omega) e4 ?_
      refine jr.goto rfl rfl ?_
      exact jr.ireturn rfl rfl rfl (q _ _ hI_M1 hH_M1 hS_M1  (by omega) (Or.inr ⟨by omega, M1 598 6, HQ6.e w1_1, (by have hr := w1_1.2.1 h (by omega) (by omega); have h1 : M1 603 h = _ := hr.2.1; have h2 : M1 604 h = _ := hr.2.2.1; unfold kA; rw [if_pos ⟨by omega, by omega⟩]; omega)⟩) (fun a i f598 f603 f604 f605 => ((w1_2 a i f598 f603 f604 f605).trans rfl)) (fun i g6 g10 g11 g12 => ((w1_3 i g6 g10 g11 g12).trans rfl)))
    · refine jr.if_eq rfl rfl (by first | exact rgl rfl | omega) (fun _ => ?_) (fun h => absurd (by decide) h)
      refine jr.iconst rfl ?_
      exact jr.ireturn rfl rfl rfl (q _ _ hI_M1 hH_M1 hS_M1  (by first | exact rgq rfl | omega) (Or.inr ⟨by omega, M1 598 6, HQ6.e w1_1, (by unfold kA; rw [if_neg (by omega)])⟩) (fun a i f598 f603 f604 f605 => ((w1_2 a i f598 f603 f604 f605).trans rfl)) (fun i g6 g10 g11 g12 => ((w1_3 i g6 g10 g11 g12).trans rfl)))
  · refine jr.if_ne rfl rfl (by first | exact rgl rfl | omega) (fun h => absurd h (by decide)) (fun _ => ?_)
    refine jr.bipush rfl (by decide) ?_
    exact jr.ireturn rfl rfl rfl (q _ _ hI_M hH_M hS_M  (by first | exact rgq rfl | omega) (Or.inl ⟨by omega, by omega⟩) (fun a i f598 f603 f604 f605 => rfl) (fun i g6 g10 g11 g12 => rfl))
theorem r_place_x {A : Nat → Option (Nat × (Nat → Int32))} {Q : Option Value → jm → Prop} {M : jm} (hI_M : RI M) (hH_M : RH M) (hS_M : RF M) {x : Int} (h_x : (-2147483648) ≤ x ∧ x ≤ 2147483647) {h : Int} (h_h : (-2147483648) ≤ h ∧ h ≤ 2147483647) (q : ∀ (r : Int) (M' : jm), RI M' → RH M' → RF M' → (-2) ≤ r ∧ r ≤ 400 → (((x < 0 ∨ 23 < x ∨ M 600 x = -1) ∧ r = -2) ∨ (((0 ≤ x ∧ x ≤ 23) ∧ M 600 x ≠ -1) ∧ ∃ C : Int, HE (rf M x) (M 600 x) C ∧ r = pA (rf M x) (M 600 x) C h)) → (∀ (a : Nat) (i : Int), a ≠ 598 → a ≠ 603 → a ≠ 604 → a ≠ 605 → M' a i = M a i) → (∀ (i : Int), i ≠ 6 → i ≠ 10 → i ≠ 11 → i ≠ 12 → M' 598 i = M 598 i) → Q (some (.int (Int32.ofInt r))) M') : jc A 5 270 [.ref (598), .int (Int32.ofInt (x)), .int (Int32.ofInt (h))] M Q := by
  refine jc_of (m := xm_270) rfl (Nat.le_of_ble_eq_true rfl) rfl ?_
  refine jr.aload_n rfl rfl ?_
  refine jr.iload_n rfl rfl ?_
  refine jr_v rfl rfl (Or.inl rfl) rfl rfl (nlt rfl) rfl ⟨rfl, Nat.le_of_ble_eq_true rfl, Nat.le_of_ble_eq_true rfl⟩ rfl (jc.deep (c_isThere hI_M (by omega) (fun l2 u2 t2 => ?_) (fun n2 => ?_)) (Nat.le_of_ble_eq_true rfl))
  · refine jr.if_ne rfl rfl (by first | exact rgl rfl | omega) (fun _ => ?_) (fun h => absurd (by decide) h)
    refine jr.aload_n rfl rfl ?_
    refine jr.iload_n rfl rfl ?_
    obtain ⟨v2, e2⟩ : ∃ z, M 600 x = z := ⟨_, rfl⟩
    have b2 : (-1) ≤ v2 ∧ v2 ≤ 400 := by rw [← e2]; exact (by have q := hI_M 600 x (Nat.le_of_ble_eq_true rfl); rw [xri_row rfl rfl] at q; exact q)
    refine jr_v rfl rfl (Or.inl rfl) rfl rfl (nlt rfl) rfl ⟨rfl, Nat.le_of_ble_eq_true rfl, Nat.le_of_ble_eq_true rfl⟩ rfl (jc.deep (r_look_x hI_M hH_M hS_M  (by omega) (by rw [e2]; omega) (fun M1 hI_M1 hH_M1 hS_M1  w1_0 w1_1 w1_2 w1_3 => ?_)) (Nat.le_of_ble_eq_true rfl))
    refine jr.iload_n rfl rfl ?_
    refine jr.i2l rfl (by omega) ?_
    refine jr.lconst (x := 0) rfl (by decide) ?_
    refine jr.aload_n rfl rfl ?_
    obtain ⟨v3, e3⟩ : ∃ z, M1 598 6 = z := ⟨_, rfl⟩
    have b3 : 0 ≤ v3 ∧ v3 ≤ 12 := by rw [← e3]; exact hI_M1 598 6 (Nat.le_of_ble_eq_true rfl)
    refine jr.getf (i := 6) (x := v3) (v := .int (Int32.ofInt (v3))) rfl rfl (nlt rfl) rfl (nlt rfl) rfl rfl e3 rfl ?_
    refine jr.iconst rfl ?_
    refine jr.isub rfl ?_
    refine jr.i2l rfl (by omega) ?_
    refine jr_s rfl rfl (Or.inl rfl) ⟨Nat.le_of_ble_eq_true rfl, Nat.le_of_ble_eq_true rfl⟩ rfl rfl (jc.deep (c_within (by omega) (by omega) (by omega) (fun l26 u26 => ?_) (fun n26 => ?_)) (Nat.le_of_ble_eq_true rfl))
    · refine jr.if_eq rfl rfl (by first | exact rgl rfl | omega) (fun h => absurd h (by decide)) (fun _ => ?_)
      refine jr.aload_n rfl rfl ?_
      refine jr.getf (i := 8) (v := .ref 604) rfl rfl (nlt rfl) rfl (nlt rfl) rfl rfl rfl rfl ?_
      refine jr.iload_n rfl rfl ?_
      obtain ⟨v4, e4⟩ : ∃ z, M1 604 h = z := ⟨_, rfl⟩
      have b4 : 0 ≤ v4 ∧ v4 ≤ 400 := by rw [← e4]; exact (by have q := hI_M1 604 h (Nat.le_of_ble_eq_true rfl); rw [xri_row rfl rfl] at q; exact q)
      refine jr.iald (i := h) (x := v4) rfl (nlt rfl) rfl (Nat.le_of_ble_eq_true rfl) (by omega) (by omega) e4 ?_
      refine jr.goto rfl rfl ?_
      exact jr.ireturn rfl rfl rfl (q _ _ hI_M1 hH_M1 hS_M1  (by omega) (Or.inr ⟨by omega, M1 598 6, HQ6.e w1_1, (by have hr := w1_1.2.1 h (by omega) (by omega); have h1 : M1 603 h = _ := hr.2.1; have h2 : M1 604 h = _ := hr.2.2.1; unfold pA; rw [if_pos ⟨by omega, by omega⟩]; omega)⟩) (fun a i f598 f603 f604 f605 => ((w1_2 a i f598 f603 f604 f605).trans rfl)) (fun i g6 g10 g11 g12 => ((w1_3 i g6 g10 g11 g12).trans rfl)))
    · refine jr.if_eq rfl rfl (by first | exact rgl rfl | omega) (fun _ => ?_) (fun h => absurd (by decide) h)
      refine jr.iconst rfl ?_
      exact jr.ireturn rfl rfl rfl (q _ _ hI_M1 hH_M1 hS_M1  (by first | exact rgq rfl | omega) (Or.inr ⟨by omega, M1 598 6, HQ6.e w1_1, (by unfold pA; rw [if_neg (by omega)])⟩) (fun a i f598 f603 f604 f605 => ((w1_2 a i f598 f603 f604 f605).trans rfl)) (fun i g6 g10 g11 g12 => ((w1_3 i g6 g10 g11 g12).trans rfl)))
  · refine jr.if_ne rfl rfl (by first | exact rgl rfl | omega) (fun h => absurd h (by decide)) (fun _ => ?_)
    refine jr.bipush rfl (by decide) ?_
    exact jr.ireturn rfl rfl rfl (q _ _ hI_M hH_M hS_M  (by first | exact rgq rfl | omega) (Or.inl ⟨by omega, by omega⟩) (fun a i f598 f603 f604 f605 => rfl) (fun i g6 g10 g11 g12 => rfl))
end
section
/-! ===== the reference: field, read, carried, sums, repair ===== -/
theorem r_field_x {A : Nat → Option (Nat × (Nat → Int32))} {Q : Option Value → jm → Prop} {M : jm} (hI_M : RI M) (hH_M : RH M) (hS_M : RF M) {x : Int} (h_x : (-2147483648) ≤ x ∧ x ≤ 2147483647) {h : Int} (h_h : (-2147483648) ≤ h ∧ h ≤ 2147483647) {j : Int} (h_j : (-2147483648) ≤ j ∧ j ≤ 2147483647) (q : ∀ (r : Int) (M' : jm), RI M' → RH M' → RF M' → (-9223372036854775808) ≤ r ∧ r ≤ 9223372036854775807 → (((x < 0 ∨ 23 < x ∨ M 600 x = -1) ∧ r = -2) ∨ (((0 ≤ x ∧ x ≤ 23) ∧ M 600 x ≠ -1) ∧ ∃ C : Int, HE (rf M x) (M 600 x) C ∧ r = vA (rf M x) (M 600 x) C h j)) → (∀ (a : Nat) (i : Int), a ≠ 598 → a ≠ 603 → a ≠ 604 → a ≠ 605 → M' a i = M a i) → (∀ (i : Int), i ≠ 6 → i ≠ 10 → i ≠ 11 → i ≠ 12 → M' 598 i = M 598 i) → Q (some (.long (Int64.ofInt r))) M') : jc A 7 276 [.ref (598), .int (Int32.ofInt (x)), .int (Int32.ofInt (h)), .int (Int32.ofInt (j))] M Q := by
  refine jc_of (m := xm_276) rfl (Nat.le_of_ble_eq_true rfl) rfl ?_
  refine jr.aload_n rfl rfl ?_
  refine jr.iload_n rfl rfl ?_
  refine jr_v rfl rfl (Or.inl rfl) rfl rfl (nlt rfl) rfl ⟨rfl, Nat.le_of_ble_eq_true rfl, Nat.le_of_ble_eq_true rfl⟩ rfl (jc.deep (c_isThere hI_M (by omega) (fun l2 u2 t2 => ?_) (fun n2 => ?_)) (Nat.le_of_ble_eq_true rfl))
  · refine jr.if_ne rfl rfl (by first | exact rgl rfl | omega) (fun _ => ?_) (fun h => absurd (by decide) h)
    refine jr.aload_n rfl rfl ?_
    refine jr.iload_n rfl rfl ?_
    obtain ⟨v2, e2⟩ : ∃ z, M 600 x = z := ⟨_, rfl⟩
    have b2 : (-1) ≤ v2 ∧ v2 ≤ 400 := by rw [← e2]; exact (by have q := hI_M 600 x (Nat.le_of_ble_eq_true rfl); rw [xri_row rfl rfl] at q; exact q)
    refine jr_v rfl rfl (Or.inl rfl) rfl rfl (nlt rfl) rfl ⟨rfl, Nat.le_of_ble_eq_true rfl, Nat.le_of_ble_eq_true rfl⟩ rfl (jc.deep (r_look_x hI_M hH_M hS_M  (by omega) (by rw [e2]; omega) (fun M1 hI_M1 hH_M1 hS_M1  w1_0 w1_1 w1_2 w1_3 => ?_)) (Nat.le_of_ble_eq_true rfl))
    refine jr.iload_n rfl rfl ?_
    refine jr.i2l rfl (by omega) ?_
    refine jr.lconst (x := 0) rfl (by decide) ?_
    refine jr.aload_n rfl rfl ?_
    obtain ⟨v3, e3⟩ : ∃ z, M1 598 6 = z := ⟨_, rfl⟩
    have b3 : 0 ≤ v3 ∧ v3 ≤ 12 := by rw [← e3]; exact hI_M1 598 6 (Nat.le_of_ble_eq_true rfl)
    refine jr.getf (i := 6) (x := v3) (v := .int (Int32.ofInt (v3))) rfl rfl (nlt rfl) rfl (nlt rfl) rfl rfl e3 rfl ?_
    refine jr.iconst rfl ?_
    refine jr.isub rfl ?_
    refine jr.i2l rfl (by omega) ?_
    refine jr_s rfl rfl (Or.inl rfl) ⟨Nat.le_of_ble_eq_true rfl, Nat.le_of_ble_eq_true rfl⟩ rfl rfl (jc.deep (c_within (by omega) (by omega) (by omega) (fun l27 u27 => ?_) (fun n27 => ?_)) (Nat.le_of_ble_eq_true rfl))
    · refine jr.if_eq rfl rfl (by first | exact rgl rfl | omega) (fun h => absurd h (by decide)) (fun _ => ?_)
      refine jr.iload_n rfl rfl ?_
      refine jr.i2l rfl (by omega) ?_
      refine jr.lconst (x := 0) rfl (by decide) ?_
      refine jr.aload_n rfl rfl ?_
      refine jr.getf (i := 7) (v := .ref 603) rfl rfl (nlt rfl) rfl (nlt rfl) rfl rfl rfl rfl ?_
      refine jr.iload_n rfl rfl ?_
      obtain ⟨v4, e4⟩ : ∃ z, M1 603 h = z := ⟨_, rfl⟩
      have b4 : 0 ≤ v4 ∧ v4 ≤ 11 := by rw [← e4]; exact (by have q := hI_M1 603 h (Nat.le_of_ble_eq_true rfl); rw [xri_row rfl rfl] at q; exact q)
      refine jr.iald (i := h) (x := v4) rfl (nlt rfl) rfl (Nat.le_of_ble_eq_true rfl) (by omega) (by omega) e4 ?_
      refine jr_s rfl rfl (Or.inl rfl) ⟨Nat.le_of_ble_eq_true rfl, Nat.le_of_ble_eq_true rfl⟩ rfl rfl (jc.deep (r_fields_x hI_M1 hH_M1 hS_M1  (by omega)  (fun r5 z5 w5_0 => ?_)) (Nat.le_of_ble_eq_true rfl))
      refine jr.iconst rfl ?_
      refine jr.isub rfl ?_
      refine jr.i2l rfl (by omega) ?_
      refine jr_s rfl rfl (Or.inl rfl) ⟨Nat.le_of_ble_eq_true rfl, Nat.le_of_ble_eq_true rfl⟩ rfl rfl (jc.deep (c_within (by omega) (by omega) (by omega) (fun l48 u48 => ?_) (fun n48 => ?_)) (Nat.le_of_ble_eq_true rfl))
      · refine jr.if_ne rfl rfl (by first | exact rgl rfl | omega) (fun _ => ?_) (fun h => absurd (by decide) h)
        refine jr.aload_n rfl rfl ?_
        refine jr.iload_n rfl rfl ?_
        refine jr.aload_n rfl rfl ?_
        refine jr.getf (i := 7) (v := .ref 603) rfl rfl (nlt rfl) rfl (nlt rfl) rfl rfl rfl rfl ?_
        refine jr.iload_n rfl rfl ?_
        refine jr.iald (i := h) (x := v4) rfl (nlt rfl) rfl (Nat.le_of_ble_eq_true rfl) (by omega) (by omega) e4 ?_
        refine jr.aload_n rfl rfl ?_
        refine jr.getf (i := 8) (v := .ref 604) rfl rfl (nlt rfl) rfl (nlt rfl) rfl rfl rfl rfl ?_
        refine jr.iload_n rfl rfl ?_
        obtain ⟨v6, e6⟩ : ∃ z, M1 604 h = z := ⟨_, rfl⟩
        have b6 : 0 ≤ v6 ∧ v6 ≤ 400 := by rw [← e6]; exact (by have q := hI_M1 604 h (Nat.le_of_ble_eq_true rfl); rw [xri_row rfl rfl] at q; exact q)
        refine jr.iald (i := h) (x := v6) rfl (nlt rfl) rfl (Nat.le_of_ble_eq_true rfl) (by omega) (by omega) e6 ?_
        refine jr.aload_n rfl rfl ?_
        refine jr.getf (i := 9) (v := .ref 605) rfl rfl (nlt rfl) rfl (nlt rfl) rfl rfl rfl rfl ?_
        refine jr.iload_n rfl rfl ?_
        obtain ⟨v7, e7⟩ : ∃ z, M1 605 h = z := ⟨_, rfl⟩
        have b7 : 0 ≤ v7 ∧ v7 ≤ 400 := by rw [← e7]; exact (by have q := hI_M1 605 h (Nat.le_of_ble_eq_true rfl); rw [xri_row rfl rfl] at q; exact q)
        refine jr.iald (i := h) (x := v7) rfl (nlt rfl) rfl (Nat.le_of_ble_eq_true rfl) (by omega) (by omega) e7 ?_
        refine jr.iload_n rfl rfl ?_
        refine jr_v rfl rfl (Or.inl rfl) rfl rfl (nlt rfl) rfl ⟨rfl, Nat.le_of_ble_eq_true rfl, Nat.le_of_ble_eq_true rfl⟩ rfl (jc.deep (r_valueOf_x hI_M1 hH_M1 hS_M1  (by omega) (by omega) (by omega) (by omega) (by omega) (by have q := (hH_M1 h).1; rw [e6, e4] at q; exact q) (by omega) (fun r8 z8 w8_0 => ?_)) (Nat.le_of_ble_eq_true rfl))
        exact jr.lreturn rfl rfl (q _ _ hI_M1 hH_M1 hS_M1  (by omega) (Or.inr ⟨by omega, M1 598 6, HQ6.e w1_1, (by have hr := w1_1.2.1 h (by omega) (by omega); have hk : M1 603 h = _ := hr.2.1; rw [e4] at hk; have h2 : M1 604 h = _ := hr.2.2.1; have h3 : M1 605 h = _ := hr.2.2.2; rw [e6] at h2; rw [e7] at h3; refine vA_in ⟨by omega, by omega⟩ hk.symm h2.symm ⟨by omega, by omega⟩ ?_; have hw := w8_0; rw [h3, rf_e (M := M) (fun i => w1_2 601 i (nne rfl) (nne rfl) (nne rfl) (nne rfl))] at hw; exact hw)⟩) (fun a i f598 f603 f604 f605 => ((w1_2 a i f598 f603 f604 f605).trans rfl)) (fun i g6 g10 g11 g12 => ((w1_3 i g6 g10 g11 g12).trans rfl)))
      · refine jr.if_ne rfl rfl (by first | exact rgl rfl | omega) (fun h => absurd h (by decide)) (fun _ => ?_)
        refine jr.ldc2 (x := (-1)) rfl rfl (by decide) ?_
        exact jr.lreturn rfl rfl (q _ _ hI_M1 hH_M1 hS_M1  (by omega) (Or.inr ⟨by omega, M1 598 6, HQ6.e w1_1, (by have hr := w1_1.2.1 h (by omega) (by omega); have hk : M1 603 h = _ := hr.2.1; rw [e4] at hk; exact vA_out (Or.inr (by rw [← hk]; omega)))⟩) (fun a i f598 f603 f604 f605 => ((w1_2 a i f598 f603 f604 f605).trans rfl)) (fun i g6 g10 g11 g12 => ((w1_3 i g6 g10 g11 g12).trans rfl)))
    · refine jr.if_eq rfl rfl (by first | exact rgl rfl | omega) (fun _ => ?_) (fun h => absurd (by decide) h)
      refine jr.ldc2 (x := (-1)) rfl rfl (by decide) ?_
      exact jr.lreturn rfl rfl (q _ _ hI_M1 hH_M1 hS_M1  (by omega) (Or.inr ⟨by omega, M1 598 6, HQ6.e w1_1, (vA_out (Or.inl (by omega)))⟩) (fun a i f598 f603 f604 f605 => ((w1_2 a i f598 f603 f604 f605).trans rfl)) (fun i g6 g10 g11 g12 => ((w1_3 i g6 g10 g11 g12).trans rfl)))
  · refine jr.if_ne rfl rfl (by first | exact rgl rfl | omega) (fun h => absurd h (by decide)) (fun _ => ?_)
    refine jr.ldc2 (x := (-2)) rfl rfl (by decide) ?_
    exact jr.lreturn rfl rfl (q _ _ hI_M hH_M hS_M  (by omega) (Or.inl ⟨by omega, by omega⟩) (fun a i f598 f603 f604 f605 => rfl) (fun i g6 g10 g11 g12 => rfl))
theorem r_read_x {A : Nat → Option (Nat × (Nat → Int32))} {Q : Option Value → jm → Prop} {M : jm} (hI_M : RI M) (hH_M : RH M) (hS_M : RF M) {x : Int} (h_x : (-2147483648) ≤ x ∧ x ≤ 2147483647) (q : ∀ (r : Int) (M' : jm), RI M' → RH M' → RF M' → (-20) ≤ r ∧ r ≤ 12 → (((x < 0 ∨ 23 < x) ∧ r = -3 ∧ M' = M) ∨ (((0 ≤ x ∧ x ≤ 23) ∧ M 600 x = -1) ∧ (M' 598 13 = 2 ∧ M' 598 14 = 0 ∧ M' 598 15 = -1 ∧ M' 598 16 = -1) ∧ r = -12) ∨ (((0 ≤ x ∧ x ≤ 23) ∧ M 600 x ≠ -1) ∧ ∃ C : Int, HE (rf M x) (M 600 x) C ∧ RDF (rf M x) (M 600 x) C (M' 598 13) (M' 598 14) (M' 598 15) (M' 598 16) r)) → (∀ (a : Nat) (i : Int), a ≠ 598 → a ≠ 603 → a ≠ 604 → a ≠ 605 → M' a i = M a i) → (∀ (i : Int), i ≠ 6 → i ≠ 10 → i ≠ 11 → i ≠ 12 → i ≠ 13 → i ≠ 14 → i ≠ 15 → i ≠ 16 → M' 598 i = M 598 i) → Q (some (.int (Int32.ofInt r))) M') : jc A 5 267 [.ref (598), .int (Int32.ofInt (x))] M Q := by
  refine jc_of (m := xm_267) rfl (Nat.le_of_ble_eq_true rfl) rfl ?_
  refine jr.iload_n rfl rfl ?_
  refine jr_s rfl rfl (Or.inl rfl) ⟨Nat.le_of_ble_eq_true rfl, Nat.le_of_ble_eq_true rfl⟩ rfl rfl (jc.deep (c_isPN (by omega) (fun l1 u1 => ?_) (fun n1 => ?_)) (Nat.le_of_ble_eq_true rfl))
  · refine jr.if_ne rfl rfl (by first | exact rgl rfl | omega) (fun _ => ?_) (fun h => absurd (by decide) h)
    refine jr.aload_n rfl rfl ?_
    refine jr.getf (i := 3) (v := .ref 600) rfl rfl (nlt rfl) rfl (nlt rfl) rfl rfl rfl rfl ?_
    refine jr.iload_n rfl rfl ?_
    obtain ⟨v1, e1⟩ : ∃ z, M 600 x = z := ⟨_, rfl⟩
    have b1 : (-1) ≤ v1 ∧ v1 ≤ 400 := by rw [← e1]; exact (by have q := hI_M 600 x (Nat.le_of_ble_eq_true rfl); rw [xri_row rfl rfl] at q; exact q)
    refine jr.iald (i := x) (x := v1) rfl (nlt rfl) rfl (Nat.le_of_ble_eq_true rfl) (by omega) (by omega) e1 ?_
    refine jr.iconst rfl ?_
    refine jr.icmp_ne rfl rfl (by first | (refine rgb (by assumption) ?_; exact rfl) | omega) (rgl rfl) (fun h17 => ?_) (fun h17 => ?_)
    · have sx17 : (0 : Int) ≤ v1 := by omega
      clear h17
      refine jr.aload_n rfl rfl ?_
      refine jr.iload_n rfl rfl ?_
      refine jr_v rfl rfl (Or.inl rfl) rfl rfl (nlt rfl) rfl ⟨rfl, Nat.le_of_ble_eq_true rfl, Nat.le_of_ble_eq_true rfl⟩ rfl (jc.deep (r_look_x hI_M hH_M hS_M  (by omega) (by rw [e1]; omega) (fun M2 hI_M2 hH_M2 hS_M2  w2_0 w2_1 w2_2 w2_3 => ?_)) (Nat.le_of_ble_eq_true rfl))
      refine jr.aload_n rfl rfl ?_
      refine jr.aload_n rfl rfl ?_
      obtain ⟨v3, e3⟩ : ∃ z, M2 598 10 = z := ⟨_, rfl⟩
      have b3 : 0 ≤ v3 ∧ v3 ≤ 6 := by rw [← e3]; exact hI_M2 598 10 (Nat.le_of_ble_eq_true rfl)
      refine jr.getf (i := 10) (x := v3) (v := .int (Int32.ofInt (v3))) rfl rfl (nlt rfl) rfl (nlt rfl) rfl rfl e3 rfl ?_
      refine jr.putf (i := 13) (x := v3) rfl rfl (nlt rfl) rfl (nlt rfl) rfl rfl rfl rfl rfl ?_
      refine jr.aload_n rfl rfl ?_
      refine jr.aload_n rfl rfl ?_
      obtain ⟨v4, e4⟩ : ∃ z, M2 598 6 = z := ⟨_, rfl⟩
      have b4 : 0 ≤ v4 ∧ v4 ≤ 12 := by rw [← e4]; exact hI_M2 598 6 (Nat.le_of_ble_eq_true rfl)
      refine jr.getf (i := 6) (x := v4) (v := .int (Int32.ofInt (v4))) rfl rfl (nlt rfl) rfl (nlt rfl) rfl rfl ((ju_i _ _ (zne (by decide))).trans e4) rfl ?_
      refine jr.putf (i := 14) (x := v4) rfl rfl (nlt rfl) rfl (nlt rfl) rfl rfl rfl rfl rfl ?_
      refine jr.aload_n rfl rfl ?_
      refine jr.aload_n rfl rfl ?_
      refine jr.getf (i := 10) (x := v3) (v := .int (Int32.ofInt (v3))) rfl rfl (nlt rfl) rfl (nlt rfl) rfl rfl ((ju_i _ _ (zne (by decide))).trans ((ju_i _ _ (zne (by decide))).trans e3)) rfl ?_
      refine jr.if_ne rfl rfl (by first | (refine rgb (by assumption) ?_; exact rfl) | omega) (fun h61 => ?_) (fun h61 => ?_)
      · have sx61 : (1 : Int) ≤ v3 := by omega
        clear h61
        refine jr.aload_n rfl rfl ?_
        obtain ⟨v5, e5⟩ : ∃ z, M2 598 11 = z := ⟨_, rfl⟩
        have b5 : (-1) ≤ v5 ∧ v5 ≤ 400 := by rw [← e5]; exact hI_M2 598 11 (Nat.le_of_ble_eq_true rfl)
        refine jr.getf (i := 11) (x := v5) (v := .int (Int32.ofInt (v5))) rfl rfl (nlt rfl) rfl (nlt rfl) rfl rfl ((ju_i _ _ (zne (by decide))).trans ((ju_i _ _ (zne (by decide))).trans e5)) rfl ?_
        refine jr.putf (i := 15) (x := v5) rfl rfl (nlt rfl) rfl (nlt rfl) rfl rfl rfl rfl rfl ?_
        refine jr.aload_n rfl rfl ?_
        refine jr.aload_n rfl rfl ?_
        refine jr.getf (i := 10) (x := v3) (v := .int (Int32.ofInt (v3))) rfl rfl (nlt rfl) rfl (nlt rfl) rfl rfl ((ju_i _ _ (zne (by decide))).trans ((ju_i _ _ (zne (by decide))).trans ((ju_i _ _ (zne (by decide))).trans e3))) rfl ?_
        refine jr.if_ne rfl rfl (by first | (refine rgb (by assumption) ?_; exact rfl) | omega) (fun h80 => ?_) (fun h80 => ?_)
        · refine jr.aload_n rfl rfl ?_
          obtain ⟨v6, e6⟩ : ∃ z, M2 598 12 = z := ⟨_, rfl⟩
          have b6 : (-1) ≤ v6 ∧ v6 ≤ 11 := by rw [← e6]; exact hI_M2 598 12 (Nat.le_of_ble_eq_true rfl)
          refine jr.getf (i := 12) (x := v6) (v := .int (Int32.ofInt (v6))) rfl rfl (nlt rfl) rfl (nlt rfl) rfl rfl ((ju_i _ _ (zne (by decide))).trans ((ju_i _ _ (zne (by decide))).trans ((ju_i _ _ (zne (by decide))).trans e6))) rfl ?_
          refine jr.putf (i := 16) (x := v6) rfl rfl (nlt rfl) rfl (nlt rfl) rfl rfl rfl rfl rfl ?_
          refine jr.aload_n rfl rfl ?_
          refine jr.getf (i := 10) (x := v3) (v := .int (Int32.ofInt (v3))) rfl rfl (nlt rfl) rfl (nlt rfl) rfl rfl ((ju_i _ _ (zne (by decide))).trans ((ju_i _ _ (zne (by decide))).trans ((ju_i _ _ (zne (by decide))).trans ((ju_i _ _ (zne (by decide))).trans e3)))) rfl ?_
          refine jr.if_ne rfl rfl (by first | (refine rgb (by assumption) ?_; exact rfl) | omega) (fun h98 => ?_) (fun h98 => ?_)
          · refine jr.bipush rfl (by decide) ?_
            refine jr.aload_n rfl rfl ?_
            refine jr.getf (i := 10) (x := v3) (v := .int (Int32.ofInt (v3))) rfl rfl (nlt rfl) rfl (nlt rfl) rfl rfl ((ju_i _ _ (zne (by decide))).trans ((ju_i _ _ (zne (by decide))).trans ((ju_i _ _ (zne (by decide))).trans ((ju_i _ _ (zne (by decide))).trans e3)))) rfl ?_
            refine jr.isub rfl ?_
            exact jr.ireturn rfl rfl rfl (q _ _ (RI.u (RI.u (RI.u (RI.u hI_M2 (a := 598) (i := 13) (show (-1 : Int) ≤ _ ∧ _ ≤ (6 : Int) from by omega)) (a := 598) (i := 14) (show (-1 : Int) ≤ _ ∧ _ ≤ (12 : Int) from by omega)) (a := 598) (i := 15) (show (-1 : Int) ≤ _ ∧ _ ≤ (400 : Int) from by omega)) (a := 598) (i := 16) (show (-1 : Int) ≤ _ ∧ _ ≤ (11 : Int) from by omega)) (RH.o (RH.o (RH.o (RH.o hH_M2 (by decide) (by decide) (by decide)) (by decide) (by decide) (by decide)) (by decide) (by decide) (by decide)) (by decide) (by decide) (by decide)) (RF.o (RF.o (RF.o (RF.o hS_M2 (by decide) (by decide)) (by decide) (by decide)) (by decide) (by decide)) (by decide) (by decide))  (by omega) (by have q0 : (ju (ju (ju (ju M2 598 13 v3) 598 14 v4) 598 15 v5) 598 16 v6) 598 13 = v3 := ((ju_i _ _ (zne (by decide))).trans ((ju_i _ _ (zne (by decide))).trans ((ju_i _ _ (zne (by decide))).trans (ju_same _ _ _ _)))); have q1 : (ju (ju (ju (ju M2 598 13 v3) 598 14 v4) 598 15 v5) 598 16 v6) 598 14 = v4 := ((ju_i _ _ (zne (by decide))).trans ((ju_i _ _ (zne (by decide))).trans (ju_same _ _ _ _))); have q2 : (ju (ju (ju (ju M2 598 13 v3) 598 14 v4) 598 15 v5) 598 16 v6) 598 15 = v5 := ((ju_i _ _ (zne (by decide))).trans (ju_same _ _ _ _)); have q3 : (ju (ju (ju (ju M2 598 13 v3) 598 14 v4) 598 15 v5) 598 16 v6) 598 16 = v6 := (ju_same _ _ _ _); have r6 : M2 598 6 = v4 := e4; have r10 : M2 598 10 = v3 := e3; have r11 : M2 598 11 = v5 := e5; have r12 : M2 598 12 = v6 := e6; have h9 := w2_1; exact Or.inr (Or.inr ⟨by omega, M2 598 6, HQ6.e h9, ⟨by omega, Or.elim h9.2.2 (fun u => Or.inl ⟨u.1, by omega, by omega, by omega, by omega⟩) (fun u => Or.inr ⟨u.1, u.2.1, by omega, by omega, by omega, by omega⟩)⟩⟩)) (fun a i f598 f603 f604 f605 => ((ju_c _ _ f598).trans ((ju_c _ _ f598).trans ((ju_c _ _ f598).trans ((ju_c _ _ f598).trans ((w2_2 a i f598 f603 f604 f605).trans rfl)))))) (fun i g6 g10 g11 g12 g13 g14 g15 g16 => ((ju_i _ _ g16).trans ((ju_i _ _ g15).trans ((ju_i _ _ g14).trans ((ju_i _ _ g13).trans ((w2_3 i g6 g10 g11 g12).trans rfl)))))))
          · exact absurd (by omega) h98
        · exact absurd (by omega) h80
      · refine jr.iconst rfl ?_
        refine jr.goto rfl rfl ?_
        refine jr.putf (i := 15) (x := (-1)) rfl rfl (nlt rfl) rfl (nlt rfl) rfl rfl rfl rfl rfl ?_
        refine jr.aload_n rfl rfl ?_
        refine jr.aload_n rfl rfl ?_
        refine jr.getf (i := 10) (x := v3) (v := .int (Int32.ofInt (v3))) rfl rfl (nlt rfl) rfl (nlt rfl) rfl rfl ((ju_i _ _ (zne (by decide))).trans ((ju_i _ _ (zne (by decide))).trans ((ju_i _ _ (zne (by decide))).trans e3))) rfl ?_
        refine jr.if_ne rfl rfl (by first | (refine rgb (by assumption) ?_; exact rfl) | omega) (fun h80 => ?_) (fun h80 => ?_)
        · exact absurd h80 (by omega)
        · refine jr.iconst rfl ?_
          refine jr.goto rfl rfl ?_
          refine jr.putf (i := 16) (x := (-1)) rfl rfl (nlt rfl) rfl (nlt rfl) rfl rfl rfl rfl rfl ?_
          refine jr.aload_n rfl rfl ?_
          refine jr.getf (i := 10) (x := v3) (v := .int (Int32.ofInt (v3))) rfl rfl (nlt rfl) rfl (nlt rfl) rfl rfl ((ju_i _ _ (zne (by decide))).trans ((ju_i _ _ (zne (by decide))).trans ((ju_i _ _ (zne (by decide))).trans ((ju_i _ _ (zne (by decide))).trans e3)))) rfl ?_
          refine jr.if_ne rfl rfl (by first | (refine rgb (by assumption) ?_; exact rfl) | omega) (fun h98 => ?_) (fun h98 => ?_)
          · exact absurd h98 (by omega)
          · refine jr.aload_n rfl rfl ?_
            refine jr.getf (i := 6) (x := v4) (v := .int (Int32.ofInt (v4))) rfl rfl (nlt rfl) rfl (nlt rfl) rfl rfl ((ju_i _ _ (zne (by decide))).trans ((ju_i _ _ (zne (by decide))).trans ((ju_i _ _ (zne (by decide))).trans ((ju_i _ _ (zne (by decide))).trans e4)))) rfl ?_
            refine jr.goto rfl rfl ?_
            obtain ⟨v7, e7⟩ : ∃ z, M2 598 11 = z := ⟨_, rfl⟩
            have b7 : (-1) ≤ v7 ∧ v7 ≤ 400 := by rw [← e7]; exact hI_M2 598 11 (Nat.le_of_ble_eq_true rfl)
            obtain ⟨v8, e8⟩ : ∃ z, M2 598 12 = z := ⟨_, rfl⟩
            have b8 : (-1) ≤ v8 ∧ v8 ≤ 11 := by rw [← e8]; exact hI_M2 598 12 (Nat.le_of_ble_eq_true rfl)
            exact jr.ireturn rfl rfl rfl (q _ _ (RI.u (RI.u (RI.u (RI.u hI_M2 (a := 598) (i := 13) (show (-1 : Int) ≤ _ ∧ _ ≤ (6 : Int) from by omega)) (a := 598) (i := 14) (show (-1 : Int) ≤ _ ∧ _ ≤ (12 : Int) from by omega)) (a := 598) (i := 15) (show (-1 : Int) ≤ _ ∧ _ ≤ (400 : Int) from by omega)) (a := 598) (i := 16) (show (-1 : Int) ≤ _ ∧ _ ≤ (11 : Int) from by omega)) (RH.o (RH.o (RH.o (RH.o hH_M2 (by decide) (by decide) (by decide)) (by decide) (by decide) (by decide)) (by decide) (by decide) (by decide)) (by decide) (by decide) (by decide)) (RF.o (RF.o (RF.o (RF.o hS_M2 (by decide) (by decide)) (by decide) (by decide)) (by decide) (by decide)) (by decide) (by decide))  (by omega) (by have q0 : (ju (ju (ju (ju M2 598 13 v3) 598 14 v4) 598 15 (-1)) 598 16 (-1)) 598 13 = v3 := ((ju_i _ _ (zne (by decide))).trans ((ju_i _ _ (zne (by decide))).trans ((ju_i _ _ (zne (by decide))).trans (ju_same _ _ _ _)))); have q1 : (ju (ju (ju (ju M2 598 13 v3) 598 14 v4) 598 15 (-1)) 598 16 (-1)) 598 14 = v4 := ((ju_i _ _ (zne (by decide))).trans ((ju_i _ _ (zne (by decide))).trans (ju_same _ _ _ _))); have q2 : (ju (ju (ju (ju M2 598 13 v3) 598 14 v4) 598 15 (-1)) 598 16 (-1)) 598 15 = -1 := ((ju_i _ _ (zne (by decide))).trans (ju_same _ _ _ _)); have q3 : (ju (ju (ju (ju M2 598 13 v3) 598 14 v4) 598 15 (-1)) 598 16 (-1)) 598 16 = -1 := (ju_same _ _ _ _); have r6 : M2 598 6 = v4 := e4; have r10 : M2 598 10 = v3 := e3; have r11 : M2 598 11 = v7 := e7; have r12 : M2 598 12 = v8 := e8; have h9 := w2_1; exact Or.inr (Or.inr ⟨by omega, M2 598 6, HQ6.e h9, ⟨by omega, Or.elim h9.2.2 (fun u => Or.inl ⟨u.1, by omega, by omega, by omega, by omega⟩) (fun u => Or.inr ⟨u.1, u.2.1, by omega, by omega, by omega, by omega⟩)⟩⟩)) (fun a i f598 f603 f604 f605 => ((ju_c _ _ f598).trans ((ju_c _ _ f598).trans ((ju_c _ _ f598).trans ((ju_c _ _ f598).trans ((w2_2 a i f598 f603 f604 f605).trans rfl)))))) (fun i g6 g10 g11 g12 g13 g14 g15 g16 => ((ju_i _ _ g16).trans ((ju_i _ _ g15).trans ((ju_i _ _ g14).trans ((ju_i _ _ g13).trans ((w2_3 i g6 g10 g11 g12).trans rfl)))))))
    · refine jr.aload_n rfl rfl ?_
      refine jr.iconst rfl ?_
      refine jr.putf (i := 6) (x := 0) rfl rfl (nlt rfl) rfl (nlt rfl) rfl rfl rfl rfl rfl ?_
      refine jr.aload_n rfl rfl ?_
      refine jr.iconst rfl ?_
      refine jr.iconst rfl ?_
      refine jr.iconst rfl ?_
      refine jr_v rfl rfl (Or.inl rfl) rfl rfl (nlt rfl) rfl ⟨rfl, Nat.le_of_ble_eq_true rfl, Nat.le_of_ble_eq_true rfl⟩ rfl (jc.deep (r_finds_x (RI.u hI_M (a := 598) (i := 6) (show (0 : Int) ≤ _ ∧ _ ≤ (12 : Int) from by omega)) (RH.o hH_M (by decide) (by decide) (by decide)) (RF.o hS_M (by decide) (by decide))  (by omega) (by omega) (by omega)  (fun M9 hI_M9 hH_M9 hS_M9  w9_0 w9_1 w9_2 => ?_)) (Nat.le_of_ble_eq_true rfl))
      refine jr.goto rfl rfl ?_
      refine jr.aload_n rfl rfl ?_
      refine jr.aload_n rfl rfl ?_
      obtain ⟨v10, e10⟩ : ∃ z, M9 598 10 = z := ⟨_, rfl⟩
      have b10 : 0 ≤ v10 ∧ v10 ≤ 6 := by rw [← e10]; exact hI_M9 598 10 (Nat.le_of_ble_eq_true rfl)
      refine jr.getf (i := 10) (x := v10) (v := .int (Int32.ofInt (v10))) rfl rfl (nlt rfl) rfl (nlt rfl) rfl rfl e10 rfl ?_
      refine jr.putf (i := 13) (x := v10) rfl rfl (nlt rfl) rfl (nlt rfl) rfl rfl rfl rfl rfl ?_
      refine jr.aload_n rfl rfl ?_
      refine jr.aload_n rfl rfl ?_
      have e11 : M9 598 6 = 0 := ((w9_2 6 (zne rfl) (zne rfl) (zne rfl)).trans (ju_same _ _ _ _))
      refine jr.getf (i := 6) (x := 0) (v := .int (Int32.ofInt (0))) rfl rfl (nlt rfl) rfl (nlt rfl) rfl rfl ((ju_i _ _ (zne (by decide))).trans e11) rfl ?_
      refine jr.putf (i := 14) (x := 0) rfl rfl (nlt rfl) rfl (nlt rfl) rfl rfl rfl rfl rfl ?_
      refine jr.aload_n rfl rfl ?_
      refine jr.aload_n rfl rfl ?_
      refine jr.getf (i := 10) (x := v10) (v := .int (Int32.ofInt (v10))) rfl rfl (nlt rfl) rfl (nlt rfl) rfl rfl ((ju_i _ _ (zne (by decide))).trans ((ju_i _ _ (zne (by decide))).trans e10)) rfl ?_
      refine jr.if_ne rfl rfl (by first | (refine rgb (by assumption) ?_; exact rfl) | omega) (fun h61 => ?_) (fun h61 => ?_)
      · have sx61 : (1 : Int) ≤ v10 := by omega
        clear h61
        refine jr.aload_n rfl rfl ?_
        obtain ⟨v12, e12⟩ : ∃ z, M9 598 11 = z := ⟨_, rfl⟩
        have b12 : (-1) ≤ v12 ∧ v12 ≤ 400 := by rw [← e12]; exact hI_M9 598 11 (Nat.le_of_ble_eq_true rfl)
        refine jr.getf (i := 11) (x := v12) (v := .int (Int32.ofInt (v12))) rfl rfl (nlt rfl) rfl (nlt rfl) rfl rfl ((ju_i _ _ (zne (by decide))).trans ((ju_i _ _ (zne (by decide))).trans e12)) rfl ?_
        refine jr.putf (i := 15) (x := v12) rfl rfl (nlt rfl) rfl (nlt rfl) rfl rfl rfl rfl rfl ?_
        refine jr.aload_n rfl rfl ?_
        refine jr.aload_n rfl rfl ?_
        refine jr.getf (i := 10) (x := v10) (v := .int (Int32.ofInt (v10))) rfl rfl (nlt rfl) rfl (nlt rfl) rfl rfl ((ju_i _ _ (zne (by decide))).trans ((ju_i _ _ (zne (by decide))).trans ((ju_i _ _ (zne (by decide))).trans e10))) rfl ?_
        refine jr.if_ne rfl rfl (by first | (refine rgb (by assumption) ?_; exact rfl) | omega) (fun h80 => ?_) (fun h80 => ?_)
        · refine jr.aload_n rfl rfl ?_
          obtain ⟨v13, e13⟩ : ∃ z, M9 598 12 = z := ⟨_, rfl⟩
          have b13 : (-1) ≤ v13 ∧ v13 ≤ 11 := by rw [← e13]; exact hI_M9 598 12 (Nat.le_of_ble_eq_true rfl)
          refine jr.getf (i := 12) (x := v13) (v := .int (Int32.ofInt (v13))) rfl rfl (nlt rfl) rfl (nlt rfl) rfl rfl ((ju_i _ _ (zne (by decide))).trans ((ju_i _ _ (zne (by decide))).trans ((ju_i _ _ (zne (by decide))).trans e13))) rfl ?_
          refine jr.putf (i := 16) (x := v13) rfl rfl (nlt rfl) rfl (nlt rfl) rfl rfl rfl rfl rfl ?_
          refine jr.aload_n rfl rfl ?_
          refine jr.getf (i := 10) (x := v10) (v := .int (Int32.ofInt (v10))) rfl rfl (nlt rfl) rfl (nlt rfl) rfl rfl ((ju_i _ _ (zne (by decide))).trans ((ju_i _ _ (zne (by decide))).trans ((ju_i _ _ (zne (by decide))).trans ((ju_i _ _ (zne (by decide))).trans e10)))) rfl ?_
          refine jr.if_ne rfl rfl (by first | (refine rgb (by assumption) ?_; exact rfl) | omega) (fun h98 => ?_) (fun h98 => ?_)
          · refine jr.bipush rfl (by decide) ?_
            refine jr.aload_n rfl rfl ?_
            refine jr.getf (i := 10) (x := v10) (v := .int (Int32.ofInt (v10))) rfl rfl (nlt rfl) rfl (nlt rfl) rfl rfl ((ju_i _ _ (zne (by decide))).trans ((ju_i _ _ (zne (by decide))).trans ((ju_i _ _ (zne (by decide))).trans ((ju_i _ _ (zne (by decide))).trans e10)))) rfl ?_
            refine jr.isub rfl ?_
            exact jr.ireturn rfl rfl rfl (q _ _ (RI.u (RI.u (RI.u (RI.u hI_M9 (a := 598) (i := 13) (show (-1 : Int) ≤ _ ∧ _ ≤ (6 : Int) from by omega)) (a := 598) (i := 14) (show (-1 : Int) ≤ _ ∧ _ ≤ (12 : Int) from by omega)) (a := 598) (i := 15) (show (-1 : Int) ≤ _ ∧ _ ≤ (400 : Int) from by omega)) (a := 598) (i := 16) (show (-1 : Int) ≤ _ ∧ _ ≤ (11 : Int) from by omega)) (RH.o (RH.o (RH.o (RH.o hH_M9 (by decide) (by decide) (by decide)) (by decide) (by decide) (by decide)) (by decide) (by decide) (by decide)) (by decide) (by decide) (by decide)) (RF.o (RF.o (RF.o (RF.o hS_M9 (by decide) (by decide)) (by decide) (by decide)) (by decide) (by decide)) (by decide) (by decide))  (by omega) (by have q0 : (ju (ju (ju (ju M9 598 13 v10) 598 14 0) 598 15 v12) 598 16 v13) 598 13 = v10 := ((ju_i _ _ (zne (by decide))).trans ((ju_i _ _ (zne (by decide))).trans ((ju_i _ _ (zne (by decide))).trans (ju_same _ _ _ _)))); have q1 : (ju (ju (ju (ju M9 598 13 v10) 598 14 0) 598 15 v12) 598 16 v13) 598 14 = 0 := ((ju_i _ _ (zne (by decide))).trans ((ju_i _ _ (zne (by decide))).trans (ju_same _ _ _ _))); have q2 : (ju (ju (ju (ju M9 598 13 v10) 598 14 0) 598 15 v12) 598 16 v13) 598 15 = v12 := ((ju_i _ _ (zne (by decide))).trans (ju_same _ _ _ _)); have q3 : (ju (ju (ju (ju M9 598 13 v10) 598 14 0) 598 15 v12) 598 16 v13) 598 16 = v13 := (ju_same _ _ _ _); have r6 : M9 598 6 = 0 := e11; have r10 : M9 598 10 = v10 := e10; have r11 : M9 598 11 = v12 := e12; have r12 : M9 598 12 = v13 := e13; have h9 := w9_0; exact Or.inr (Or.inl ⟨by omega, by omega, by omega⟩)) (fun a i f598 f603 f604 f605 => ((ju_c _ _ f598).trans ((ju_c _ _ f598).trans ((ju_c _ _ f598).trans ((ju_c _ _ f598).trans ((w9_1 a i f598).trans ((ju_c _ _ f598).trans rfl))))))) (fun i g6 g10 g11 g12 g13 g14 g15 g16 => ((ju_i _ _ g16).trans ((ju_i _ _ g15).trans ((ju_i _ _ g14).trans ((ju_i _ _ g13).trans ((w9_2 i g10 g11 g12).trans ((ju_i _ _ g6).trans rfl))))))))
          · exact absurd (by omega) h98
        · exact absurd (by omega) h80
      · refine jr.iconst rfl ?_
        refine jr.goto rfl rfl ?_
        refine jr.putf (i := 15) (x := (-1)) rfl rfl (nlt rfl) rfl (nlt rfl) rfl rfl rfl rfl rfl ?_
        refine jr.aload_n rfl rfl ?_
        refine jr.aload_n rfl rfl ?_
        refine jr.getf (i := 10) (x := v10) (v := .int (Int32.ofInt (v10))) rfl rfl (nlt rfl) rfl (nlt rfl) rfl rfl ((ju_i _ _ (zne (by decide))).trans ((ju_i _ _ (zne (by decide))).trans ((ju_i _ _ (zne (by decide))).trans e10))) rfl ?_
        refine jr.if_ne rfl rfl (by first | (refine rgb (by assumption) ?_; exact rfl) | omega) (fun h80 => ?_) (fun h80 => ?_)
        · exact absurd h80 (by omega)
        · refine jr.iconst rfl ?_
          refine jr.goto rfl rfl ?_
          refine jr.putf (i := 16) (x := (-1)) rfl rfl (nlt rfl) rfl (nlt rfl) rfl rfl rfl rfl rfl ?_
          refine jr.aload_n rfl rfl ?_
          refine jr.getf (i := 10) (x := v10) (v := .int (Int32.ofInt (v10))) rfl rfl (nlt rfl) rfl (nlt rfl) rfl rfl ((ju_i _ _ (zne (by decide))).trans ((ju_i _ _ (zne (by decide))).trans ((ju_i _ _ (zne (by decide))).trans ((ju_i _ _ (zne (by decide))).trans e10)))) rfl ?_
          refine jr.if_ne rfl rfl (by first | (refine rgb (by assumption) ?_; exact rfl) | omega) (fun h98 => ?_) (fun h98 => ?_)
          · exact absurd h98 (by omega)
          · refine jr.aload_n rfl rfl ?_
            refine jr.getf (i := 6) (x := 0) (v := .int (Int32.ofInt (0))) rfl rfl (nlt rfl) rfl (nlt rfl) rfl rfl ((ju_i _ _ (zne (by decide))).trans ((ju_i _ _ (zne (by decide))).trans ((ju_i _ _ (zne (by decide))).trans ((ju_i _ _ (zne (by decide))).trans e11)))) rfl ?_
            refine jr.goto rfl rfl ?_
            obtain ⟨v14, e14⟩ : ∃ z, M9 598 11 = z := ⟨_, rfl⟩
            have b14 : (-1) ≤ v14 ∧ v14 ≤ 400 := by rw [← e14]; exact hI_M9 598 11 (Nat.le_of_ble_eq_true rfl)
            obtain ⟨v15, e15⟩ : ∃ z, M9 598 12 = z := ⟨_, rfl⟩
            have b15 : (-1) ≤ v15 ∧ v15 ≤ 11 := by rw [← e15]; exact hI_M9 598 12 (Nat.le_of_ble_eq_true rfl)
            exact jr.ireturn rfl rfl rfl (q _ _ (RI.u (RI.u (RI.u (RI.u hI_M9 (a := 598) (i := 13) (show (-1 : Int) ≤ _ ∧ _ ≤ (6 : Int) from by omega)) (a := 598) (i := 14) (show (-1 : Int) ≤ _ ∧ _ ≤ (12 : Int) from by omega)) (a := 598) (i := 15) (show (-1 : Int) ≤ _ ∧ _ ≤ (400 : Int) from by omega)) (a := 598) (i := 16) (show (-1 : Int) ≤ _ ∧ _ ≤ (11 : Int) from by omega)) (RH.o (RH.o (RH.o (RH.o hH_M9 (by decide) (by decide) (by decide)) (by decide) (by decide) (by decide)) (by decide) (by decide) (by decide)) (by decide) (by decide) (by decide)) (RF.o (RF.o (RF.o (RF.o hS_M9 (by decide) (by decide)) (by decide) (by decide)) (by decide) (by decide)) (by decide) (by decide))  (by omega) (by have q0 : (ju (ju (ju (ju M9 598 13 v10) 598 14 0) 598 15 (-1)) 598 16 (-1)) 598 13 = v10 := ((ju_i _ _ (zne (by decide))).trans ((ju_i _ _ (zne (by decide))).trans ((ju_i _ _ (zne (by decide))).trans (ju_same _ _ _ _)))); have q1 : (ju (ju (ju (ju M9 598 13 v10) 598 14 0) 598 15 (-1)) 598 16 (-1)) 598 14 = 0 := ((ju_i _ _ (zne (by decide))).trans ((ju_i _ _ (zne (by decide))).trans (ju_same _ _ _ _))); have q2 : (ju (ju (ju (ju M9 598 13 v10) 598 14 0) 598 15 (-1)) 598 16 (-1)) 598 15 = -1 := ((ju_i _ _ (zne (by decide))).trans (ju_same _ _ _ _)); have q3 : (ju (ju (ju (ju M9 598 13 v10) 598 14 0) 598 15 (-1)) 598 16 (-1)) 598 16 = -1 := (ju_same _ _ _ _); have r6 : M9 598 6 = 0 := e11; have r10 : M9 598 10 = v10 := e10; have r11 : M9 598 11 = v14 := e14; have r12 : M9 598 12 = v15 := e15; have h9 := w9_0; exact Or.inr (Or.inl ⟨by omega, by omega, by omega⟩)) (fun a i f598 f603 f604 f605 => ((ju_c _ _ f598).trans ((ju_c _ _ f598).trans ((ju_c _ _ f598).trans ((ju_c _ _ f598).trans ((w9_1 a i f598).trans ((ju_c _ _ f598).trans rfl))))))) (fun i g6 g10 g11 g12 g13 g14 g15 g16 => ((ju_i _ _ g16).trans ((ju_i _ _ g15).trans ((ju_i _ _ g14).trans ((ju_i _ _ g13).trans ((w9_2 i g10 g11 g12).trans ((ju_i _ _ g6).trans rfl))))))))
  · refine jr.if_ne rfl rfl (by first | exact rgl rfl | omega) (fun h => absurd h (by decide)) (fun _ => ?_)
    refine jr.bipush rfl (by decide) ?_
    exact jr.ireturn rfl rfl rfl (q _ _ hI_M hH_M hS_M  (by first | exact rgq rfl | omega) (Or.inl ⟨by omega, by omega, rfl⟩) (fun a i f598 f603 f604 f605 => rfl) (fun i g6 g10 g11 g12 g13 g14 g15 g16 => rfl))
theorem r_finding_x {A : Nat → Option (Nat × (Nat → Int32))} {Q : Option Value → jm → Prop} {M : jm} (hI_M : RI M) (hH_M : RH M) (hS_M : RF M) {w : Int} (h_w : (-2147483648) ≤ w ∧ w ≤ 2147483647) (q : ∀ (r : Int) (M' : jm), RI M' → RH M' → RF M' → (-3) ≤ r ∧ r ≤ 400 → ((w = 0 ∧ ((M 598 13 = -1 ∧ r = 0) ∨ (M 598 13 ≠ -1 ∧ r = M 598 13))) ∨ (w = 1 ∧ r = M 598 14) ∨ (w = 2 ∧ r = M 598 15) ∨ (w = 3 ∧ r = M 598 16) ∨ ((w < 0 ∨ 3 < w) ∧ r = -3)) → M' = M → (∀ (a : Nat) (i : Int), a ≠ 598 → M' a i = M a i) → (∀ (i : Int), i ≠ 1 → M' 598 i = M 598 i) → Q (some (.int (Int32.ofInt r))) M') : jc A 1 268 [.ref (598), .int (Int32.ofInt (w))] M Q := by
  refine jc_of (m := xm_268) rfl (Nat.le_of_ble_eq_true rfl) rfl ?_
  refine jr.iload_n rfl rfl ?_
  rcases (show w = 0 ∨ w = 1 ∨ w = 2 ∨ (w ≠ 0 ∧ w ≠ 1 ∧ w ≠ 2) by omega) with h1 | h1 | h1 | h1
  · refine jr.tsw_k 0 rfl h1 rfl ?_
    refine jr.aload_n rfl rfl ?_
    obtain ⟨v1, e1⟩ : ∃ z, M 598 13 = z := ⟨_, rfl⟩
    have b1 : (-1) ≤ v1 ∧ v1 ≤ 6 := by rw [← e1]; exact hI_M 598 13 (Nat.le_of_ble_eq_true rfl)
    refine jr.getf (i := 13) (x := v1) (v := .int (Int32.ofInt (v1))) rfl rfl (nlt rfl) rfl (nlt rfl) rfl rfl e1 rfl ?_
    refine jr.iconst rfl ?_
    refine jr.icmp_ne rfl rfl (by first | (refine rgb (by assumption) ?_; exact rfl) | omega) (rgl rfl) (fun h33 => ?_) (fun h33 => ?_)
    · have sx33 : (0 : Int) ≤ v1 := by omega
      clear h33
      refine jr.aload_n rfl rfl ?_
      refine jr.getf (i := 13) (x := v1) (v := .int (Int32.ofInt (v1))) rfl rfl (nlt rfl) rfl (nlt rfl) rfl rfl e1 rfl ?_
      exact jr.ireturn rfl rfl rfl (q _ _ hI_M hH_M hS_M  (by omega) (by omega) rfl (fun a i f598 => rfl) (fun i g1 => rfl))
    · refine jr.iconst rfl ?_
      refine jr.goto rfl rfl ?_
      exact jr.ireturn rfl rfl rfl (q _ _ hI_M hH_M hS_M  (by first | exact rgq rfl | omega) (by omega) rfl (fun a i f598 => rfl) (fun i g1 => rfl))
  · refine jr.tsw_k 1 rfl h1 rfl ?_
    refine jr.aload_n rfl rfl ?_
    obtain ⟨v2, e2⟩ : ∃ z, M 598 14 = z := ⟨_, rfl⟩
    have b2 : (-1) ≤ v2 ∧ v2 ≤ 12 := by rw [← e2]; exact hI_M 598 14 (Nat.le_of_ble_eq_true rfl)
    refine jr.getf (i := 14) (x := v2) (v := .int (Int32.ofInt (v2))) rfl rfl (nlt rfl) rfl (nlt rfl) rfl rfl e2 rfl ?_
    exact jr.ireturn rfl rfl rfl (q _ _ hI_M hH_M hS_M  (by omega) (by omega) rfl (fun a i f598 => rfl) (fun i g1 => rfl))
  · refine jr.tsw_k 2 rfl h1 rfl ?_
    refine jr.aload_n rfl rfl ?_
    obtain ⟨v3, e3⟩ : ∃ z, M 598 15 = z := ⟨_, rfl⟩
    have b3 : (-1) ≤ v3 ∧ v3 ≤ 400 := by rw [← e3]; exact hI_M 598 15 (Nat.le_of_ble_eq_true rfl)
    refine jr.getf (i := 15) (x := v3) (v := .int (Int32.ofInt (v3))) rfl rfl (nlt rfl) rfl (nlt rfl) rfl rfl e3 rfl ?_
    exact jr.ireturn rfl rfl rfl (q _ _ hI_M hH_M hS_M  (by omega) (by omega) rfl (fun a i f598 => rfl) (fun i g1 => rfl))
  · refine jr.tsw_d rfl (by omega) (by omega) rfl ?_
    refine jr.iload_n rfl rfl ?_
    refine jr.iconst rfl ?_
    refine jr.icmp_ne rfl rfl (by first | (refine rgb (by assumption) ?_; exact rfl) | omega) (rgl rfl) (fun h57 => ?_) (fun h57 => ?_)
    · refine jr.bipush rfl (by decide) ?_
      exact jr.ireturn rfl rfl rfl (q _ _ hI_M hH_M hS_M  (by first | exact rgq rfl | omega) (by omega) rfl (fun a i f598 => rfl) (fun i g1 => rfl))
    · refine jr.aload_n rfl rfl ?_
      obtain ⟨v4, e4⟩ : ∃ z, M 598 16 = z := ⟨_, rfl⟩
      have b4 : (-1) ≤ v4 ∧ v4 ≤ 11 := by rw [← e4]; exact hI_M 598 16 (Nat.le_of_ble_eq_true rfl)
      refine jr.getf (i := 16) (x := v4) (v := .int (Int32.ofInt (v4))) rfl rfl (nlt rfl) rfl (nlt rfl) rfl rfl e4 rfl ?_
      refine jr.goto rfl rfl ?_
      exact jr.ireturn rfl rfl rfl (q _ _ hI_M hH_M hS_M  (by omega) (by omega) rfl (fun a i f598 => rfl) (fun i g1 => rfl))
end
