section
theorem GRD.m {M : jm} {G : Nat} (h : GRD M G) : MKP M G (M (G + 2)) (M (G + 1)) (hlf (M G 1) (M G 11)) (M G 7) := by
  have q := hlf_r (K := M G 1) h.2.1.1
  exact ⟨fun k k0 k1 => ⟨rfl, h.2.2.2.2.1 k k0 (by omega)⟩, fun k k0 k1 => ⟨rfl, h.2.2.2.2.2 k k0 k1⟩⟩
noncomputable def W_c_PacketWall_putTogether_x : List (Nat × Nat) := [(15, 0), (33, 1), (33, 2), (34, 1000)]
theorem c_PacketWall_putTogether_x_L5 {A : Nat → Option (Nat × (Nat → Int32))} {Q : Option Value → jm → Prop} {F : Int → Int → Int} {T : jm} {x : Nat} (k_x : kd x = 15) {K : Int} {W : Int} {L : Int} {P : Int} {U : Int} {X : Int} (q : ∀ (r : Int) (M' : jm), CI M' → FR W_c_PacketWall_putTogether_x T M' → (-2147483648) ≤ r ∧ r ≤ 2147483647 → (PTO T M' x F r) → Q (some (.int (Int32.ofInt r))) M') : ∀ (nM : Nat) (M : jm) (f : Int) (i : Int), CI M → FR W_c_PacketWall_putTogether_x T M → (-1) ≤ f ∧ f ≤ 23 → (-1) ≤ i ∧ i ≤ 23 → M x 1 = K → M x 7 = W → M x 11 = L → M x 12 = P → M x 13 = U → M x 5 = X → (f = pF M (24 - (i + 1)).toNat (i + 1)) → (M = T) → (PBS M F) → (GRD M x) → i + 1 ≤ nM → jr A 3 xm_48 5 [(2, .int (Int32.ofInt (f))), (3, .int (Int32.ofInt (i))), (0, .ref (0)), (1, .ref (x))] [] M Q := by
  intro nM
  induction nM using Nat.strongRecOn with
  | ind nM ih =>
    intro M f i hC_M ht_M h_f h_i g_K g_W g_L g_P g_U g_X hy0 hy1 hy2 hy3 hm
    have b_K : (-2147483648) ≤ K ∧ K ≤ 2147483647 := by rw [← g_K]; exact (CI.r hC_M k_x (by decide) 1)
    have b_W : (-1) ≤ W ∧ W ≤ 70000 := by rw [← g_W]; exact (CI.r hC_M k_x (by decide) 7)
    have b_L : (-1) ≤ L ∧ L ≤ 400 := by rw [← g_L]; exact (CI.r hC_M k_x (by decide) 11)
    have b_P : (-1) ≤ P ∧ P ≤ 400 := by rw [← g_P]; exact (CI.r hC_M k_x (by decide) 12)
    have b_U : (-1) ≤ U ∧ U ≤ 404 := by rw [← g_U]; exact (CI.r hC_M k_x (by decide) 13)
    have b_X : (-9223372036854775808) ≤ X ∧ X ≤ 9223372036854775807 := by rw [← g_X]; exact (CI.r hC_M k_x (by decide) 5)
    have hG := hy3
    unfold GRD at hG
    rw [g_K, g_L, g_W, g_P] at hG
    obtain ⟨hG1, hG2, hG3, hG4, hG5, hG6⟩ := hG
    have hG7 := hlf_r (K := K) (L := L) hG2.1
    have eG : T = M := hy1.symm
    refine jr.iload_n rfl rfl ?_
    refine jr.if_lt rfl rfl (by omega) (fun h6 => ?_) (fun h6 => ?_)
    · refine jr.iload_n rfl rfl ?_
      refine jr.iconst rfl ?_
      refine jr.icmp_eq rfl rfl (by omega) (by omega) (fun h31 => ?_) (fun h31 => ?_)
      · refine jr.bipush rfl (by decide) ?_
        exact jr.ireturn rfl rfl rfl (q _ _ hC_M ht_M (by omega) (by have hpf : pF T 24 0 = f := (by have h9 := hy0; rw [show (24 - (i + 1)).toNat = 24 from by omega, show i + 1 = 0 from by omega] at h9; rw [eG]; exact h9.symm); have hT : hlf (T x 1) (T x 11) + T x 7 = hlf K L + W := (by rw [eG, g_K, g_L, g_W]); unfold PTO; rw [hpf, hT]; exact Or.inl ⟨by omega, by omega, hy1⟩))
      · refine jr.aload_n rfl rfl ?_
        refine jr_v rfl rfl (Or.inl rfl) rfl rfl (Nat.lt_trans (kx_15 k_x).1 (by decide)) (kx_15 k_x).2 ⟨rfl, Nat.le_of_ble_eq_true rfl, Nat.le_of_ble_eq_true rfl⟩ rfl (jc.deep (c_Gathering_packetLength_x hC_M k_x g_K g_L g_W (fun r1 z1 w1_0 => ?_)) (by decide))
        refine jr.sipush rfl (by decide) ?_
        refine jr.icmp_le rfl rfl (by omega) (by omega) (fun h41 => ?_) (fun h41 => ?_)
        · refine jr.aload_n rfl rfl ?_
          refine jr.aload_n rfl rfl ?_
          refine jr.getf (i := 2) (v := .ref 2) rfl rfl (by decide) rfl (by decide) rfl rfl rfl rfl ?_
          refine jr.iload_n rfl rfl ?_
          have k2 := kxe_42 (a := 2) rfl (i := f) (by omega) (by omega)
          refine jr.aald (c := (xe 2 f)) rfl (by decide) rfl (by decide) (by decide) rfl (by decide) (by omega) (by omega) k2.1 ?_
          refine jr_v rfl rfl (Or.inl rfl) rfl rfl (Nat.lt_trans (kx_15 k_x).1 (by decide)) (kx_15 k_x).2 ⟨rfl, Nat.le_of_ble_eq_true rfl, Nat.le_of_ble_eq_true rfl⟩ rfl (jc.deep (c_Gathering_makePacket_x hC_M (FR.rfl _ M) k_x k2.2 g_K g_W g_L g_P g_U g_X rfl (by have h9 := GRD.m hy3; rw [g_K, g_L, g_W] at h9; exact h9) (hy2 f (by omega) (by omega)) (by omega) (by omega) (fun M3 hC_M3 hf_M3 w3_0 => ?_)) (by decide))
          have ht_M3 : FR W_c_PacketWall_putTogether_x T M3 := FR.t ht_M hf_M3 (kw_sub rfl)
          refine jr.aload_n rfl rfl ?_
          refine jr.iconst rfl ?_
          refine jr.putf (i := 0) (x := 0) rfl rfl (Nat.lt_trans (kx_15 k_x).1 (by decide)) (kx_15 k_x).2 (by decide) rfl rfl rfl rfl rfl ?_
          refine jr.iload_n rfl rfl ?_
          exact jr.ireturn rfl rfl rfl (q _ _ (CI.u hC_M3 (i := 0) k_x (show (0 : Int) ≤ _ ∧ _ ≤ (1 : Int) from by omega) rfl) (FR.o ht_M3 k_x rfl) (by omega) (by have hpf : pF T 24 0 = f := (by have h9 := hy0; rw [show (24 - (i + 1)).toNat = 24 from by omega, show i + 1 = 0 from by omega] at h9; rw [eG]; exact h9.symm); have hT : hlf (T x 1) (T x 11) + T x 7 = hlf K L + W := (by rw [eG, g_K, g_L, g_W]); unfold PTO; rw [hpf, hT]; exact Or.inr ⟨⟨by omega, by omega⟩, rfl, M3, by unfold mkA; rw [eG, g_K, g_L, g_W, g_P, g_U, g_X]; exact w3_0, rfl⟩))
        · refine jr.bipush rfl (by decide) ?_
          exact jr.ireturn rfl rfl rfl (q _ _ hC_M ht_M (by omega) (by have hpf : pF T 24 0 = f := (by have h9 := hy0; rw [show (24 - (i + 1)).toNat = 24 from by omega, show i + 1 = 0 from by omega] at h9; rw [eG]; exact h9.symm); have hT : hlf (T x 1) (T x 11) + T x 7 = hlf K L + W := (by rw [eG, g_K, g_L, g_W]); unfold PTO; rw [hpf, hT]; exact Or.inl ⟨by omega, by omega, hy1⟩))
    · refine jr.aload_n rfl rfl ?_
      refine jr.getf (i := 2) (v := .ref 2) rfl rfl (by decide) rfl (by decide) rfl rfl rfl rfl ?_
      refine jr.iload_n rfl rfl ?_
      have k4 := kxe_42 (a := 2) rfl (i := i) (by omega) (by omega)
      refine jr.aald (c := (xe 2 i)) rfl (by decide) rfl (by decide) (by decide) rfl (by decide) (by omega) (by omega) k4.1 ?_
      refine jr_v rfl rfl (Or.inl rfl) rfl rfl (Nat.lt_trans (kx_33 k4.2).1 (by decide)) (kx_33 k4.2).2 ⟨rfl, Nat.le_of_ble_eq_true rfl, Nat.le_of_ble_eq_true rfl⟩ rfl (jc.deep (c_Packet_isThere hC_M k4.2 (fun r5 z5 w5_0 => ?_)) (by decide))
      obtain ⟨v6, e6⟩ : ∃ z_, M ((xe 2 i)) 1 = z_ := ⟨_, rfl⟩
      have b6 : (-1) ≤ v6 ∧ v6 ≤ 400 := by rw [← e6]; exact (CI.r hC_M k4.2 (by decide) 1)
      refine jr.if_ne rfl rfl (by omega) (fun h18 => ?_) (fun h18 => ?_)
      · refine jr.iinc rfl rfl (by decide) rfl ?_
        refine jr.goto rfl rfl ?_
        refine jr.pick [1, 0, 2, 3] rfl rfl ?_
        exact ih (nM - 1) (by omega) M f (i + (-1)) hC_M ht_M (by omega) (by omega) g_K g_W g_L g_P g_U g_X (by rw [show i + -1 + 1 = i from by omega, pF_s (by omega)]; first | (rw [if_pos (by omega)]; done) | (rw [if_neg (by omega)]; exact hy0)) hy1 hy2 hy3 (by omega)
      · refine jr.iload_n rfl rfl ?_
        refine jr.istore_n rfl (by decide) rfl ?_
        refine jr.iinc rfl rfl (by decide) rfl ?_
        refine jr.goto rfl rfl ?_
        refine jr.pick [1, 0, 2, 3] rfl rfl ?_
        exact ih (nM - 1) (by omega) M i (i + (-1)) hC_M ht_M (by omega) (by omega) g_K g_W g_L g_P g_U g_X (by rw [show i + -1 + 1 = i from by omega, pF_s (by omega)]; first | (rw [if_pos (by omega)]; done) | (rw [if_neg (by omega)]; exact hy0)) hy1 hy2 hy3 (by omega)
theorem c_PacketWall_putTogether_x {A : Nat → Option (Nat × (Nat → Int32))} {Q : Option Value → jm → Prop} {F : Int → Int → Int} {T : jm} {M : jm} (hC_M : CI M) (ht_M : FR W_c_PacketWall_putTogether_x T M) {x : Nat} (k_x : kd x = 15) (p0 : T = M) (p1 : PBS M F) (p2 : GRD M x) (q : ∀ (r : Int) (M' : jm), CI M' → FR W_c_PacketWall_putTogether_x T M' → (-2147483648) ≤ r ∧ r ≤ 2147483647 → (PTO T M' x F r) → Q (some (.int (Int32.ofInt r))) M') : jc A 4 48 [.ref (0), .ref (x)] M Q := by
  refine jc_of (m := xm_48) rfl (Nat.le_of_ble_eq_true rfl) rfl ?_
  refine jr.iconst rfl ?_
  refine jr.istore_n rfl (by decide) rfl ?_
  refine jr.bipush rfl (by decide) ?_
  refine jr.istore_n rfl (by decide) rfl ?_
  obtain ⟨v1, e1⟩ : ∃ z_, M x 1 = z_ := ⟨_, rfl⟩
  have b1 : (-2147483648) ≤ v1 ∧ v1 ≤ 2147483647 := by rw [← e1]; exact (CI.r hC_M k_x (by decide) 1)
  obtain ⟨v2, e2⟩ : ∃ z_, M x 7 = z_ := ⟨_, rfl⟩
  have b2 : (-1) ≤ v2 ∧ v2 ≤ 70000 := by rw [← e2]; exact (CI.r hC_M k_x (by decide) 7)
  obtain ⟨v3, e3⟩ : ∃ z_, M x 11 = z_ := ⟨_, rfl⟩
  have b3 : (-1) ≤ v3 ∧ v3 ≤ 400 := by rw [← e3]; exact (CI.r hC_M k_x (by decide) 11)
  obtain ⟨v4, e4⟩ : ∃ z_, M x 12 = z_ := ⟨_, rfl⟩
  have b4 : (-1) ≤ v4 ∧ v4 ≤ 400 := by rw [← e4]; exact (CI.r hC_M k_x (by decide) 12)
  obtain ⟨v5, e5⟩ : ∃ z_, M x 13 = z_ := ⟨_, rfl⟩
  have b5 : (-1) ≤ v5 ∧ v5 ≤ 404 := by rw [← e5]; exact (CI.r hC_M k_x (by decide) 13)
  obtain ⟨v6, e6⟩ : ∃ z_, M x 5 = z_ := ⟨_, rfl⟩
  have b6 : (-9223372036854775808) ≤ v6 ∧ v6 ≤ 9223372036854775807 := by rw [← e6]; exact (CI.r hC_M k_x (by decide) 5)
  refine jr.pick [1, 0, 2, 3] rfl rfl ?_
  exact c_PacketWall_putTogether_x_L5 k_x q 24 M (-1) 23 hC_M ht_M (by omega) (by omega) e1 e2 e3 e4 e5 e6 rfl p0.symm p1 p2 (by omega)
end
section
/-! ===== the class: gather, whole ===== -/
theorem xgn0 : ∀ n : Nat, n < 8 → xe 10 (n : Int) ≠ 11 ∧ xe 10 (n : Int) ≠ 14 ∧ xe 10 (n : Int) + 1 ≠ 14 ∧ xe 10 (n : Int) + 2 ≠ 14 := by decide +kernel
theorem xg_ {g : Int} (h : 0 ≤ g ∧ g < 8) : xe 10 g ≠ 11 ∧ xe 10 g ≠ 14 ∧ xe 10 g + 1 ≠ 14 ∧ xe 10 g + 2 ≠ 14 := by
  obtain ⟨n, rfl⟩ := Int.eq_ofNat_of_zero_le h.1
  exact xgn0 n (by omega)
theorem pcf_r {f : Int → Int} {N C : Int} (hC : 0 ≤ C) : pcf f N C = -1 ∨ ((0 ≤ pcf f N C ∧ pcf f N C < C) ∧ ((hX f N (pcf f N C) = 2 ∧ pcf f N C = ntf f N C) ∨ hX f N (pcf f N C) = 6)) := by
  have hn := ntf_r (f := f) (N := N) hC
  unfold pcf
  split
  · exact Or.inl rfl
  · rename_i h1
    have hn2 := hn.resolve_left h1
    split
    · rename_i h2
      split
      · right
        rw [kA_i hn2.1] at h2
        exact ⟨hn2.1, Or.inl ⟨h2, rfl⟩⟩
      · exact Or.inl rfl
    · split
      · rename_i h3
        right
        have hi := inf_r (f := f) (N := N) (C := C) (x := ntf f N C) (by omega)
        have hin : 0 ≤ inf f N C (ntf f N C) ∧ inf f N C (ntf f N C) < C := by
          unfold kA at h3
          split at h3
          · assumption
          · omega
        rw [kA_i hin] at h3
        exact ⟨hin, Or.inr h3⟩
      · exact Or.inl rfl
theorem gS_r (M : jm) : ∀ (n : Nat) (i : Int), 0 ≤ i → gS M n i = -1 ∨ ((i ≤ gS M n i ∧ gS M n i < i + n) ∧ M (xe 10 (gS M n i)) 0 ≠ 0 ∧ M (xe 10 (gS M n i)) 1 = M 11 1) := by
  intro n
  induction n with
  | zero => intro i _; exact Or.inl rfl
  | succ n ih =>
    intro i h0
    unfold gS
    split
    · rename_i q; exact Or.inr ⟨⟨Int.le_refl _, by omega⟩, q.1, q.2.1⟩
    · rcases ih (i + 1) (by omega) with r | r
      · exact Or.inl r
      · exact Or.inr ⟨⟨by omega, by omega⟩, r.2⟩
theorem rdy_1 {w : Int → Int} : ∀ (n : Nat) (i : Int), rdy w n i ≠ 0 → ∀ k : Int, i ≤ k → k < i + n → w k ≠ -1 := by
  intro n
  induction n with
  | zero => intro i _ k h0 h1; omega
  | succ n ih =>
    intro i h k h0 h1
    unfold rdy at h
    split at h
    · exact absurd rfl h
    · rename_i q
      by_cases e : k = i
      · rw [e]; exact q
      · exact ih (i + 1) h k (by omega) (by omega)
/-- all but headers and the name that is sought is as it was -/
noncomputable def NH (T M : jm) : Prop := ∀ (b : Nat) (k : Int), (kd b < 18 ∨ 21 < kd b) → b ≠ 11 → M b k = T b k
noncomputable def GK1 (M : jm) (G : Nat) : Prop := (M G 7 = -1 ∨ (0 ≤ M G 7 ∧ M G 7 ≤ 360)) ∧ (M G 11 = -1 ∨ ((8 ≤ M G 11 ∧ M G 11 ≤ 400) ∧ (0 ≤ M G 12 ∧ M G 12 ≤ 400) ∧ (M G 1 ≠ 2 ∨ M G 12 + 20 ≤ hlf (M G 1) (M G 11)) ∧ ∀ k : Int, 0 ≤ k → k < M G 11 → 0 ≤ M (G + 2) k ∧ M (G + 2) k ≤ 255))
noncomputable def GOK (M : jm) : Prop := ∀ g : Int, 0 ≤ g → g < 8 → M (xe 10 g) 0 ≠ 0 → GK1 M (xe 10 g)
noncomputable def fstv (M : jm) : Int := if gS M 8 0 = -1 ∨ M (xe 10 (gS M 8 0)) 7 = -1 then 1 else 0
noncomputable def GBG (M2 M3 : jm) (g Z : Int) : Prop := (gS M2 8 0 ≠ -1 ∧ g = gS M2 8 0 ∧ M3 = M2) ∨ (gS M2 8 0 = -1 ∧ g = gF M2 8 0 ∧ g ≠ -1 ∧ BGA M2 M3 (xe 10 g) 11 (Z + 30))
noncomputable def NRD (M : jm) (G : Nat) : Prop := M G 7 = -1 ∨ M G 11 = -1 ∨ rdy (M (G + 1)) (lpf (M G 7)).toNat 0 = 0
noncomputable def NM5 (M : jm) (f : Int → Int) (N C y : Int) : Prop := M 11 1 = kA f N C y ∧ M 11 2 = adf f N C (ntf f N C) 0 ∧ M 11 3 = adf f N C (ntf f N C) 1 ∧ M 11 4 = vA f N C y 3 ∧ M 11 5 = vA f N C y (if kA f N C y = 2 then 7 else 0)
noncomputable def GAK (M2 M : jm) (f : Int → Int) (N C Z : Int) (F : Int → Int → Int) (r : Int) : Prop := (rfq f N C (pcf f N C) (fstv M2) ∧ r = -4 ∧ M = M2) ∨ (¬ rfq f N C (pcf f N C) (fstv M2) ∧ gS M2 8 0 = -1 ∧ gF M2 8 0 = -1 ∧ r = -5 ∧ M = M2) ∨ (¬ rfq f N C (pcf f N C) (fstv M2) ∧ ∃ (g : Int) (M3 M4 : jm), GBG M2 M3 g Z ∧ TKI M3 M4 (xe 10 g) f N C (pcf f N C) ∧ ((NRD M4 (xe 10 g) ∧ r = -1 ∧ M = M4) ∨ (¬ NRD M4 (xe 10 g) ∧ PTO M4 M (xe 10 g) F r)))
noncomputable def GAQ (T M : jm) (f : Int → Int) (N C Z : Int) (F : Int → Int → Int) (r : Int) : Prop := ((hX f N C ≠ -1 ∨ pcf f N C = -1) ∧ r = -4 ∧ NH T M) ∨ (hX f N C = -1 ∧ pcf f N C ≠ -1 ∧ ∃ M2 : jm, NH T M2 ∧ NM5 M2 f N C (pcf f N C) ∧ GAK M2 M f N C Z F r)
theorem kw_hd {W : List (Nat × Nat)} (h1 : W.all (fun w => Nat.ble 18 w.1 && Nat.ble w.1 21) = true) {K : Nat} {i : Int} (hk : K < 18 ∨ 21 < K) : kw W K i = false := by
  induction W with
  | nil => rfl
  | cons w r ih =>
    rw [List.all_cons, Bool.and_eq_true] at h1
    unfold kw
    rw [ih h1.2, Bool.or_false]
    unfold kh
    have q2 := h1.1
    rw [Bool.and_eq_true] at q2
    have a := Nat.le_of_ble_eq_true q2.1
    have b := Nat.le_of_ble_eq_true q2.2
    cases e : Nat.beq w.1 K with
    | false => rfl
    | true => have q := Nat.eq_of_beq_eq_true e; omega
theorem NH.f {W : List (Nat × Nat)} {T M : jm} (h : FR W T M) (h1 : W.all (fun w => Nat.ble 18 w.1 && Nat.ble w.1 21) = true) : NH T M := fun b k hb _ => h b k (kw_hd h1 hb)
theorem NH.t {T M M2 : jm} (h : NH T M) (h2 : ∀ (b : Nat) (k : Int), b ≠ 11 → M2 b k = M b k) : NH T M2 := fun b k hb h0 => (h2 b k h0).trans (h b k hb h0)
theorem nxN_m {f : Int → Int} {N : Int} : ∀ (n : Nat) (i j : Int), i ≤ j → j < i + n → (hX f N j = 2 ∨ hX f N j = 3) → nxN f N n i ≠ -1 ∨ i < 0 := by
  intro n
  induction n with
  | zero => intro i j h0 h1 _; omega
  | succ n ih =>
    intro i j h0 h1 h2
    unfold nxN
    by_cases q : hX f N i = 2 ∨ hX f N i = 3
    · rw [if_pos q]; omega
    · rw [if_neg q]
      have e : i ≠ j := fun e => q (by rw [e]; exact h2)
      rcases ih (i + 1) j (by omega) (by omega) h2 with u | u
      · exact Or.inl u
      · right; omega
theorem hX_n0 {M : jm} {f : Int → Int} {N C y : Int} (hs : HS M 3 f N) (hC : M 3 3 = C) (hy : 0 ≤ y ∧ y < C) (h4 : 4 ≤ hX f N y ∧ hX f N y ≤ 9) : ntf f N C ≠ -1 := by
  have q := hX_n f N y.toNat (by rw [Int.toNat_of_nonneg hy.1]; exact h4)
  have r := (nxD_r f N y.toNat).resolve_left q
  have u := nxN_m (f := f) (N := N) C.toNat 0 (nxD f N y.toNat) r.1 (by omega) r.2.2
  unfold ntf
  omega
theorem GRD.t {M0 M3 M4 : jm} {G : Nat} {f : Int → Int} {N C y : Int} (hs : HS M0 3 f N) (hC : M0 3 3 = C) (hy : 0 ≤ y ∧ y < C) (hk2 : (hX f N y = 2 ∧ y = ntf f N C) ∨ hX f N y = 6) (hK : GK1 M3 G) (hn : M3 G 1 = kA f N C y) (ht : TKI M3 M4 G f N C y) (hf : wh1 f N C y (M3 G 7) = M3 G 7 ∨ (0 ≤ wh1 f N C y (M3 G 7) ∧ wh1 f N C y (M3 G 7) ≤ 360)) (hC4 : CI M4) (kG : kd G = 15) (h7 : M4 G 7 ≠ -1) (h11 : M4 G 11 ≠ -1) (hr : rdy (M4 (G + 1)) (lpf (M4 G 7)).toNat 0 ≠ 0) : GRD M4 G := by
  obtain ⟨⟨⟨e7, e8⟩, eo, ek, _⟩, _, _⟩ := ht
  have hN := hs.2.2.1
  have q := HS.y hs hC hy
  have hen := enf_i (f := f) (N := N) (C := C) hy
  have e1 : M4 G 1 = M3 G 1 := eo 1 (by decide) (by decide) (by decide) (by decide) (by decide)
  have hW : 0 ≤ M4 G 7 ∧ M4 G 7 ≤ 360 := by
    rw [e7] at h7 ⊢
    rcases hf with hf | hf
    · rw [hf] at h7 ⊢
      exact hK.1.resolve_left h7
    · exact hf
  have hlp : lpf (M4 G 7) = M4 G 7 := lpf_w hW
  have hrow : ∀ k : Int, 0 ≤ k → k < M4 G 7 → 0 ≤ M4 (G + 1) k ∧ M4 (G + 1) k ≤ 255 := fun k k0 k1 => by
    have a := rdy_1 _ _ hr k k0 (by rw [hlp]; omega)
    have b : (-1 : Int) ≤ M4 (G + 1) k ∧ M4 (G + 1) k ≤ (255 : Int) := CI.r hC4 (kf_15_9 kG).2 (by decide) k
    omega
  have h8 : 8 ≤ enf f N C y := by rw [hen]; omega
  rcases ek with ⟨z1, z2, ⟨z3, z4, z5⟩, z6⟩ | ⟨z1, ⟨z3, z4, z5⟩, z6⟩
  · have hnt : pA f N C (ntf f N C) = -1 ∨ (0 ≤ pA f N C (ntf f N C) ∧ pA f N C (ntf f N C) ≤ 400) := by
      unfold pA
      split
      · rename_i hh
        have := HS.y hs hC hh
        have l := hls_r (hX f N (ntf f N C))
        right
        omega
      · exact Or.inl rfl
    have hnr := ntf_r (f := f) (N := N) (C := C) (by omega)
    have hn0 : 0 ≤ ntf f N C ∧ ntf f N C < C := by
      rcases hk2 with h | h
      · rw [← h.2]; exact hy
      · rcases hnr with u | u
        · exfalso
          have hh := hX_n0 hs hC hy (by omega)
          exact hh u
        · exact u.1
    have hnt2 : pA f N C (ntf f N C) = hY f N (ntf f N C) := by unfold pA; rw [if_pos hn0]
    have qn := HS.y hs hC hn0
    refine ⟨hW, ⟨by rw [z3]; omega, by rw [z3, hen]; omega⟩, ?_, ⟨by rw [z4, hnt2]; omega, by rw [z4, hnt2]; omega⟩, fun k k0 k1 => ?_, hrow⟩
    · rcases hk2 with h | h
      · right
        rw [e1, hn, kA_i hy, h.1, z4, hnt2, z3, hen, ← h.2]
        show hY f N y + 20 ≤ hY f N y + hZ f N y
        omega
      · left
        rw [e1, hn, kA_i hy, h]
        decide
    · rw [z3] at k1
      rw [z6 k k0 k1]
      exact (hs.1 k k0 (by omega)).2
  · rw [z3] at h11
    obtain ⟨g1, g2, g3, g4⟩ := hK.2.resolve_left h11
    refine ⟨hW, by rw [z3]; exact g1, by rw [e1, z4, z3]; exact g3, by rw [z4]; exact g2, fun k k0 k1 => ?_, hrow⟩
    rw [z6 k]
    exact g4 k k0 (by rw [← z3]; exact k1)
end
section
/-! ===== the class: gather, the walk ===== -/
theorem PBS.fr {W : List (Nat × Nat)} {T M : jm} {F : Int → Int → Int} (h : PBS T F) (g : FR W T M) (h1 : ksep W [(34, 1000)] = true) : PBS M F := fun p h0 h2 => BY8.fr (h p h0 h2) (kf_33_0 (kxe_42 (show kd 2 = 42 from rfl) h0 h2).2).2 g h1
theorem GK1.e {T M : jm} {G : Nat} (h : GK1 T G) (e : ∀ k : Int, M G k = T G k) (e2 : ∀ k : Int, M (G + 2) k = T (G + 2) k) : GK1 M G := by
  unfold GK1 at h ⊢
  simp only [e, e2]
  exact h
theorem wh1_b {f : Int → Int} {N C y W s : Int} (h : ¬ rfq f N C y s) (hs : W = -1 → s = 1) (ho : 0 ≤ ofs f N C y) : wh1 f N C y W = W ∨ (0 ≤ wh1 f N C y W ∧ wh1 f N C y W ≤ 360) := by
  unfold rfq at h
  unfold wh1
  split
  · rename_i q
    have := hs q.1
    right
    omega
  · exact Or.inl rfl
theorem rfq_d {f : Int → Int} {N C y s : Int} (h : ¬ rfq f N C y s) : 1 ≤ N - enf f N C y := by
  unfold rfq at h
  omega
theorem hxc_z {M : jm} {t : Nat} {f : Int → Int} {N C : Int} (h : HS M t f N) (hC : M t 3 = C) (h0 : M t 4 = 0) : hX f N C = -1 := by
  subst hC
  rcases h.2.2.2.2.2 with g | g
  · exact g.1
  · exact absurd (g.2.2.1.symm.trans h0) g.2.1
theorem hxc_n {M : jm} {t : Nat} {f : Int → Int} {N C : Int} (h : HS M t f N) (hC : M t 3 = C) (h0 : M t 4 ≠ 0) : hX f N C ≠ -1 := by
  subst hC
  rcases h.2.2.2.2.2 with g | g
  · exact absurd g.2.1 h0
  · exact g.1
noncomputable def W_c_PacketWall_gather_x : List (Nat × Nat) := [(15, 0), (15, 1), (15, 2), (15, 3), (15, 4), (15, 5), (15, 6), (15, 7), (15, 8), (15, 11), (15, 12), (15, 13), (16, 1000), (17, 1000), (18, 3), (18, 4), (18, 5), (18, 6), (18, 7), (19, 1000), (20, 1000), (21, 1000), (33, 1), (33, 2), (34, 1000), (41, 1000)]
end
