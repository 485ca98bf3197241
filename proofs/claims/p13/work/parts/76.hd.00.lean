section
/-! ===== the class: the calls on headers ===== -/
noncomputable def crr (f : Int → Int) (N : Int) : Nat → Int → Int
  | 0, _ => 0
  | n + 1, i => if 7 ≤ hX f N i ∧ hX f N i ≤ 9 then 1 + crr f N n (i + 1) else 0
theorem cr_s {f : Int → Int} {N n i : Int} (h : 0 < n) : crr f N n.toNat i = if 7 ≤ hX f N i ∧ hX f N i ≤ 9 then 1 + crr f N (n - 1).toNat (i + 1) else 0 := by
  obtain ⟨m, hm⟩ : ∃ m : Nat, n = m + 1 := ⟨(n - 1).toNat, by omega⟩
  subst hm
  rw [show ((m : Int) + 1).toNat = m + 1 by omega, show ((m : Int) + 1 - 1).toNat = m by omega]
  rfl
theorem cr_0 {f : Int → Int} {N n i : Int} (h : n ≤ 0) : crr f N n.toNat i = 0 := by
  rw [show n.toNat = 0 by omega]
  rfl
noncomputable def RDF (f : Int → Int) (N C a b c d r : Int) : Prop := b = C ∧ ((hX f N C = -1 ∧ a = 0 ∧ c = -1 ∧ d = -1 ∧ r = C) ∨ (hX f N C ≠ -1 ∧ hF f N C ≠ 0 ∧ a = hF f N C ∧ c = hW f N C ∧ d = hX f N C ∧ r = -10 - a))
/-- bytes and answer of repair: headers below n are mended, the last first -/
noncomputable def rpF (f : Int → Int) (N C : Int) : Nat → (Int → Int) → (Int → Int)
  | 0, g => g
  | n + 1, g => rpF f N C n (mdF f N C (n : Int) g)
noncomputable def rpN (f : Int → Int) (N C : Int) : Nat → (Int → Int) → Int
  | 0, _ => 0
  | n + 1, g => mdR f N C (n : Int) g + rpN f N C n (mdF f N C (n : Int) g)
theorem rp_s {f : Int → Int} {N C i : Int} {g : Int → Int} (h : 0 ≤ i) : rpF f N C (i + 1).toNat g = rpF f N C i.toNat (mdF f N C i g) ∧ rpN f N C (i + 1).toNat g = mdR f N C i g + rpN f N C i.toNat (mdF f N C i g) := by
  obtain ⟨m, rfl⟩ := Int.eq_ofNat_of_zero_le h
  rw [show ((m : Int) + 1).toNat = m + 1 by omega, show ((m : Int)).toNat = m by omega]
  exact ⟨rfl, rfl⟩
theorem rp_0 {f : Int → Int} {N C i : Int} {g : Int → Int} (h : i < 0) : rpF f N C (i + 1).toNat g = g ∧ rpN f N C (i + 1).toNat g = 0 := by
  rw [show (i + 1).toNat = 0 by omega]
  exact ⟨rfl, rfl⟩
noncomputable def W_c_PacketWall_kind_x : List (Nat × Nat) := [(18, 3), (18, 4), (18, 5), (18, 6), (18, 7), (19, 1000), (20, 1000), (21, 1000)]
theorem c_PacketWall_kind_x {A : Nat → Option (Nat × (Nat → Int32))} {Q : Option Value → jm → Prop} {f : Int → Int} {T : jm} {M : jm} (hC_M : CI M) (ht_M : FR W_c_PacketWall_kind_x T M) {x : Int} (h_x : (-2147483648) ≤ x ∧ x ≤ 2147483647) {y : Int} (h_y : (-2147483648) ≤ y ∧ y ≤ 2147483647) (p0 : T = M) (p1 : ((0 ≤ x ∧ x ≤ 23) → BY8 M ((xe 2 x) + 1) f)) (q : ∀ (r : Int) (M' : jm), CI M' → FR W_c_PacketWall_kind_x T M' → (-2147483648) ≤ r ∧ r ≤ 2147483647 → (((x < 0 ∨ 23 < x ∨ T (xe 2 x) 1 = -1) ∧ r = -2) ∨ (((0 ≤ x ∧ x ≤ 23) ∧ T (xe 2 x) 1 ≠ -1) ∧ ∃ C : Int, HE f (T (xe 2 x) 1) C ∧ r = kA f (T (xe 2 x) 1) C y)) → Q (some (.int (Int32.ofInt r))) M') : jc A 6 8 [.ref (0), .int (Int32.ofInt (x)), .int (Int32.ofInt (y))] M Q := by
  refine jc_of (m := xm_8) rfl (Nat.le_of_ble_eq_true rfl) rfl ?_
  refine jr.aload_n rfl rfl ?_
  refine jr.iload_n rfl rfl ?_
  refine jr_v rfl rfl (Or.inl rfl) rfl rfl (by decide) rfl ⟨rfl, Nat.le_of_ble_eq_true rfl, Nat.le_of_ble_eq_true rfl⟩ rfl (jc.deep (c_PacketWall_isPacket_x hC_M (by omega) (fun r1 z1 w1_0 w1_1 => ?_)) (by decide))
  refine jr.if_ne rfl rfl (by omega) (fun h5 => ?_) (fun h5 => ?_)
  · have sx5 : (1 : Int) ≤ r1 := by omega
    clear h5
    refine jr.aload_n rfl rfl ?_
    refine jr.getf (i := 3) (v := .ref 3) rfl rfl (by decide) rfl (by decide) rfl rfl rfl rfl ?_
    refine jr.aload_n rfl rfl ?_
    refine jr.getf (i := 2) (v := .ref 2) rfl rfl (by decide) rfl (by decide) rfl rfl rfl rfl ?_
    refine jr.iload_n rfl rfl ?_
    have k2 := kxe_42 (a := 2) rfl (i := x) (by omega) (by omega)
    refine jr.aald (c := (xe 2 x)) rfl (by decide) rfl (by decide) (by decide) rfl (by decide) (by omega) (by omega) k2.1 ?_
    obtain ⟨v4, e4⟩ : ∃ z_, M ((xe 2 x)) 1 = z_ := ⟨_, rfl⟩
    have b4 : (-1) ≤ v4 ∧ v4 ≤ 400 := by rw [← e4]; exact (CI.r hC_M k2.2 (by decide) 1)
    refine jr_v rfl rfl (Or.inl rfl) rfl rfl (by decide) rfl ⟨rfl, Nat.le_of_ble_eq_true rfl, Nat.le_of_ble_eq_true rfl⟩ rfl (jc.deep (c_Headers_readAll_x hC_M (FR.rfl _ M) (show kd 3 = 18 from rfl) k2.2 e4 (p1 (by omega)) (fun M3 hC_M3 hf_M3 w3_0 w3_1 w3_2 => ?_)) (by decide))
    have ht_M3 : FR W_c_PacketWall_kind_x T M3 := FR.t ht_M hf_M3 (kw_sub rfl)
    refine jr.aload_n rfl rfl ?_
    refine jr.getf (i := 3) (v := .ref 3) rfl rfl (by decide) rfl (by decide) rfl rfl rfl rfl ?_
    refine jr.iload_n rfl rfl ?_
    obtain ⟨v6, e6⟩ : ∃ z_, M3 3 3 = z_ := ⟨_, rfl⟩
    have b6 : 0 ≤ v6 ∧ v6 ≤ 12 := by rw [← e6]; exact (CI.r hC_M3 (show kd 3 = 18 from rfl) (by decide) 3)
    refine jr_v rfl rfl (Or.inl rfl) rfl rfl (by decide) rfl ⟨rfl, Nat.le_of_ble_eq_true rfl, Nat.le_of_ble_eq_true rfl⟩ rfl (jc.deep (c_Headers_kindAt_x hC_M3 (show kd 3 = 18 from rfl) (by omega) e6 ((w3_1.resolve_left (fun h => by omega)).2) (fun r5 z5 w5_0 => ?_)) (by decide))
    exact jr.ireturn rfl rfl rfl (q _ _ hC_M3 ht_M3 (by omega) (Or.inr ⟨by rw [p0]; omega, by rw [p0, e4]; exact ⟨v6, (by have hq := HQ.e ((w3_1.resolve_left (fun h => by omega)).2).2.2.2; rw [e6] at hq; exact hq), w5_0⟩⟩))
  · refine jr.bipush rfl (by decide) ?_
    exact jr.ireturn rfl rfl rfl (q _ _ hC_M ht_M (by omega) (Or.inl ⟨by rw [p0]; omega, by omega⟩))
noncomputable def W_c_PacketWall_place_x : List (Nat × Nat) := [(18, 3), (18, 4), (18, 5), (18, 6), (18, 7), (19, 1000), (20, 1000), (21, 1000)]
theorem c_PacketWall_place_x {A : Nat → Option (Nat × (Nat → Int32))} {Q : Option Value → jm → Prop} {f : Int → Int} {T : jm} {M : jm} (hC_M : CI M) (ht_M : FR W_c_PacketWall_place_x T M) {x : Int} (h_x : (-2147483648) ≤ x ∧ x ≤ 2147483647) {y : Int} (h_y : (-2147483648) ≤ y ∧ y ≤ 2147483647) (p0 : T = M) (p1 : ((0 ≤ x ∧ x ≤ 23) → BY8 M ((xe 2 x) + 1) f)) (q : ∀ (r : Int) (M' : jm), CI M' → FR W_c_PacketWall_place_x T M' → (-2147483648) ≤ r ∧ r ≤ 2147483647 → (((x < 0 ∨ 23 < x ∨ T (xe 2 x) 1 = -1) ∧ r = -2) ∨ (((0 ≤ x ∧ x ≤ 23) ∧ T (xe 2 x) 1 ≠ -1) ∧ ∃ C : Int, HE f (T (xe 2 x) 1) C ∧ r = pA f (T (xe 2 x) 1) C y)) → Q (some (.int (Int32.ofInt r))) M') : jc A 6 10 [.ref (0), .int (Int32.ofInt (x)), .int (Int32.ofInt (y))] M Q := by
  refine jc_of (m := xm_10) rfl (Nat.le_of_ble_eq_true rfl) rfl ?_
  refine jr.aload_n rfl rfl ?_
  refine jr.iload_n rfl rfl ?_
  refine jr_v rfl rfl (Or.inl rfl) rfl rfl (by decide) rfl ⟨rfl, Nat.le_of_ble_eq_true rfl, Nat.le_of_ble_eq_true rfl⟩ rfl (jc.deep (c_PacketWall_isPacket_x hC_M (by omega) (fun r1 z1 w1_0 w1_1 => ?_)) (by decide))
  refine jr.if_ne rfl rfl (by omega) (fun h5 => ?_) (fun h5 => ?_)
  · have sx5 : (1 : Int) ≤ r1 := by omega
    clear h5
    refine jr.aload_n rfl rfl ?_
    refine jr.getf (i := 3) (v := .ref 3) rfl rfl (by decide) rfl (by decide) rfl rfl rfl rfl ?_
    refine jr.aload_n rfl rfl ?_
    refine jr.getf (i := 2) (v := .ref 2) rfl rfl (by decide) rfl (by decide) rfl rfl rfl rfl ?_
    refine jr.iload_n rfl rfl ?_
    have k2 := kxe_42 (a := 2) rfl (i := x) (by omega) (by omega)
    refine jr.aald (c := (xe 2 x)) rfl (by decide) rfl (by decide) (by decide) rfl (by decide) (by omega) (by omega) k2.1 ?_
    obtain ⟨v4, e4⟩ : ∃ z_, M ((xe 2 x)) 1 = z_ := ⟨_, rfl⟩
    have b4 : (-1) ≤ v4 ∧ v4 ≤ 400 := by rw [← e4]; exact (CI.r hC_M k2.2 (by decide) 1)
    refine jr_v rfl rfl (Or.inl rfl) rfl rfl (by decide) rfl ⟨rfl, Nat.le_of_ble_eq_true rfl, Nat.le_of_ble_eq_true rfl⟩ rfl (jc.deep (c_Headers_readAll_x hC_M (FR.rfl _ M) (show kd 3 = 18 from rfl) k2.2 e4 (p1 (by omega)) (fun M3 hC_M3 hf_M3 w3_0 w3_1 w3_2 => ?_)) (by decide))
    have ht_M3 : FR W_c_PacketWall_place_x T M3 := FR.t ht_M hf_M3 (kw_sub rfl)
    refine jr.aload_n rfl rfl ?_
    refine jr.getf (i := 3) (v := .ref 3) rfl rfl (by decide) rfl (by decide) rfl rfl rfl rfl ?_
    refine jr.iload_n rfl rfl ?_
    obtain ⟨v6, e6⟩ : ∃ z_, M3 3 3 = z_ := ⟨_, rfl⟩
    have b6 : 0 ≤ v6 ∧ v6 ≤ 12 := by rw [← e6]; exact (CI.r hC_M3 (show kd 3 = 18 from rfl) (by decide) 3)
    refine jr_v rfl rfl (Or.inl rfl) rfl rfl (by decide) rfl ⟨rfl, Nat.le_of_ble_eq_true rfl, Nat.le_of_ble_eq_true rfl⟩ rfl (jc.deep (c_Headers_placeAt_x hC_M3 (show kd 3 = 18 from rfl) (by omega) e6 ((w3_1.resolve_left (fun h => by omega)).2) (fun r5 z5 w5_0 => ?_)) (by decide))
    exact jr.ireturn rfl rfl rfl (q _ _ hC_M3 ht_M3 (by omega) (Or.inr ⟨by rw [p0]; omega, by rw [p0, e4]; exact ⟨v6, (by have hq := HQ.e ((w3_1.resolve_left (fun h => by omega)).2).2.2.2; rw [e6] at hq; exact hq), w5_0⟩⟩))
  · refine jr.bipush rfl (by decide) ?_
    exact jr.ireturn rfl rfl rfl (q _ _ hC_M ht_M (by omega) (Or.inl ⟨by rw [p0]; omega, by omega⟩))
noncomputable def W_c_PacketWall_field_x : List (Nat × Nat) := [(18, 3), (18, 4), (18, 5), (18, 6), (18, 7), (19, 1000), (20, 1000), (21, 1000)]
end
