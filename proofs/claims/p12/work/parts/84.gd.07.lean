section
/-! ===== the class: gather ===== -/
noncomputable def pF (M : jm) : Nat → Int → Int
  | 0, _ => -1
  | n + 1, i => if M (xe 2 i) 1 = -1 then i else pF M n (i + 1)
theorem pF_s {M : jm} {i : Int} (h : i < 24) : pF M (24 - i).toNat i = if M (xe 2 i) 1 = -1 then i else pF M (24 - (i + 1)).toNat (i + 1) := by
  obtain ⟨n, hn⟩ : ∃ n : Nat, i = 23 - n := ⟨(23 - i).toNat, by omega⟩
  subst hn
  rw [show (24 - (23 - (n : Int))).toNat = n + 1 by omega, show (24 - (23 - (n : Int) + 1)).toNat = n by omega]
  rfl
theorem pF_r (M : jm) : ∀ (n : Nat) (i : Int), 0 ≤ i → pF M n i = -1 ∨ (i ≤ pF M n i ∧ pF M n i < i + n ∧ M (xe 2 (pF M n i)) 1 = -1) := by
  intro n
  induction n with
  | zero => intro i _; exact Or.inl rfl
  | succ n ih =>
    intro i h0
    unfold pF
    by_cases q : M (xe 2 i) 1 = -1
    · rw [if_pos q]; exact Or.inr ⟨Int.le_refl _, by omega, q⟩
    · rw [if_neg q]
      rcases ih (i + 1) (by omega) with r | r
      · exact Or.inl r
      · exact Or.inr ⟨by omega, by omega, r.2.2⟩
/-- the bytes of all packets -/
noncomputable def PBS (M : jm) (F : Int → Int → Int) : Prop := ∀ p : Int, 0 ≤ p → p < 24 → BY8 M (xe 2 p + 1) (F p)
noncomputable def mkA (M : jm) (G : Nat) (f : Int → Int) : Int → Int := mkF (mk0 (M (G + 2)) (M (G + 1)) f (hlf (M G 1) (M G 11)) (M G 7)) (M G 1) (hlf (M G 1) (M G 11)) (M G 7) (M G 12) (M G 13) (M G 5)
noncomputable def PTO (T M : jm) (G : Nat) (F : Int → Int → Int) (r : Int) : Prop := ((pF T 24 0 = -1 ∨ 400 < hlf (T G 1) (T G 11) + T G 7) ∧ r = -5 ∧ M = T) ∨ ((pF T 24 0 ≠ -1 ∧ hlf (T G 1) (T G 11) + T G 7 ≤ 400) ∧ r = pF T 24 0 ∧ ∃ M1 : jm, MKD T M1 (xe 2 (pF T 24 0)) (mkA T G (F (pF T 24 0))) (hlf (T G 1) (T G 11) + T G 7) ∧ M = ju M1 G 0 0)
/-- a gathering that is ready can be made a packet -/
noncomputable def GRD (M : jm) (G : Nat) : Prop := (0 ≤ M G 7 ∧ M G 7 ≤ 360) ∧ (8 ≤ M G 11 ∧ M G 11 ≤ 400) ∧ (M G 1 ≠ 2 ∨ M G 12 + 20 ≤ hlf (M G 1) (M G 11)) ∧ (0 ≤ M G 12 ∧ M G 12 ≤ 400) ∧ (∀ k : Int, 0 ≤ k → k < M G 11 → 0 ≤ M (G + 2) k ∧ M (G + 2) k ≤ 255) ∧ ∀ k : Int, 0 ≤ k → k < M G 7 → 0 ≤ M (G + 1) k ∧ M (G + 1) k ≤ 255
theorem hlf_r {K L : Int} (h : 8 ≤ L) : 0 ≤ hlf K L ∧ hlf K L ≤ L := by
  unfold hlf
  split <;> omega
theorem GRD.m {M : jm} {G : Nat} (h : GRD M G) : MKP M G (M (G + 2)) (M (G + 1)) (hlf (M G 1) (M G 11)) (M G 7) := by
  have q := hlf_r (K := M G 1) h.2.1.1
  exact ⟨fun k k0 k1 => ⟨rfl, h.2.2.2.2.1 k k0 (by omega)⟩, fun k k0 k1 => ⟨rfl, h.2.2.2.2.2 k k0 k1⟩⟩
noncomputable def W_c_PacketWall_putTogether_x : List (Nat × Nat) := [(15, 0), (33, 1), (33, 2), (34, 1000)]
theorem c_PacketWall_putTogether_x_L5 {A : Nat → Option (Nat × (Nat → Int32))} {Q : Option Value → jm → Prop} {F : Int → Int → Int} {T : jm} {x : Nat} (k_x : kd x = 15) {K : Int} {W : Int} {L : Int} {P : Int} {U : Int} {X : Int} (q : ∀ (r : Int) (M' : jm), CI M' → FR W_c_PacketWall_putTogether_x T M' → (-2147483648) ≤ r ∧ r ≤ 2147483647 → (PTO T M' x F r) → Q (some (.int (Int32.ofInt r))) M') : ∀ (nM : Nat) (M : jm) (f : Int) (i : Int), CI M → FR W_c_PacketWall_putTogether_x T M → (-1) ≤ f ∧ f ≤ 23 → (-1) ≤ i ∧ i ≤ 23 → M x 1 = K → M x 7 = W → M x 11 = L → M x 12 = P → M x 13 = U → M x 5 = X → (f = pF M (24 - (i + 1)).toNat (i + 1)) → (M = T) → (PBS M F) → (GRD M x) → i + 1 ≤ nM → jr A 3 xm_48 5 [(2, .int (Int32.ofInt (f))), (3, .int (Int32.ofInt (i))), (0, .ref (0)), (1, .ref (x))] [] M Q := by
  intro nM
  induction nM using Nat.strongRecOn with
  | ind nM ih =>
    intro M f i hC_M ht_M h_f h_i g_K g_W g_L g_P g_U g_X hy0 hy1 hy2 hy3 hm
    have b_K : (-2147483648) ≤ K ∧ K ≤ 2147483647 := by rw [← g_K]; exact (CI.r hC_M k_x (by decide) 1)
    have b_W : (-1) ≤ W ∧ W ≤ 70000 := by rw [← g_W]; exact (CI.r hC_M k_x (by decide) 7)
    have b_L : (-1) ≤ L ∧ L ≤ 400 := by rw [← g_L]; exact (CI.r hC_M k_x (by decide) 11)
    have b_P : (-1) ≤ P ∧ P ≤ 400 := by rw [← g_P]; exact (CI.r hC_M k_x (by decide) 12)
    have b_U : (-1) ≤ U ∧ U ≤ 404 := by rw [← g_U]; exact (CI.r hC_M k_x (by decide) 13)
    have b_X : (-9223372036854775808) ≤ X ∧ X ≤ 9223372036854775807 := by rw [← g_X]; exact (CI.r hC_M k_x (by decide) 5)
    have hG := hy3
    unfold GRD at hG
    rw [g_K, g_L, g_W, g_P] at hG
    obtain ⟨hG1, hG2, hG3, hG4, hG5, hG6⟩ := hG
    have hG7 := hlf_r (K := K) (L := L) hG2.1
    have eG : T = M := hy1.symm
    refine jr.iload_n rfl rfl ?_
    refine jr.if_lt rfl rfl (by omega) (fun h6 => ?_) (fun h6 => ?_)
    · refine jr.iload_n rfl rfl ?_
      refine jr.iconst rfl ?_
      refine jr.icmp_eq rfl rfl (by omega) (by omega) (fun h31 => ?_) (fun h31 => ?_)
      · refine jr.bipush rfl (by decide) ?_
        exact jr.ireturn rfl rfl rfl (q _ _ hC_M ht_M (by omega) (by have hpf : pF T 24 0 = f := (by have h9 := hy0; rw [show (24 - (i + 1)).toNat = 24 from by omega, show i + 1 = 0 from by omega] at h9; rw [eG]; exact h9.symm); have hT : hlf (T x 1) (T x 11) + T x 7 = hlf K L + W := (by rw [eG, g_K, g_L, g_W]); unfold PTO; rw [hpf, hT]; exact Or.inl ⟨by omega, by omega, hy1⟩))
      · have sx31 : (0 : Int) ≤ f := by omega
        clear h31
        refine jr.aload_n rfl rfl ?_
        refine jr_v rfl rfl (Or.inl rfl) rfl rfl (Nat.lt_trans (kx_15 k_x).1 (by decide)) (kx_15 k_x).2 ⟨rfl, Nat.le_of_ble_eq_true rfl, Nat.le_of_ble_eq_true rfl⟩ rfl (jc.deep (c_Gathering_packetLength_x hC_M k_x g_K g_L g_W (fun r1 z1 w1_0 => ?_)) (by decide))
        refine jr.sipush rfl (by decide) ?_
        refine jr.icmp_le rfl rfl (by omega) (by omega) (fun h41 => ?_) (fun h41 => ?_)
        · refine jr.aload_n rfl rfl ?_
          refine jr.aload_n rfl rfl ?_
          refine jr.getf (i := 2) (v := .ref 2) rfl rfl (by decide) rfl (by decide) rfl rfl rfl rfl ?_
          refine jr.iload_n rfl rfl ?_
          have k2 := kxe_42 (a := 2) rfl (i := f) (by omega) (by omega)
          refine jr.aald (c := (xe 2 f)) rfl (by decide) rfl (by decide) (by decide) rfl (by decide) (by omega) (by omega) k2.1 ?_
          refine jr_v rfl rfl (Or.inl rfl) rfl rfl (Nat.lt_trans (kx_15 k_x).1 (by decide)) (kx_15 k_x).2 ⟨rfl, Nat.le_of_ble_eq_true rfl, Nat.le_of_ble_eq_true rfl⟩ rfl (jc.deep (c_Gathering_makePacket_x hC_M (FR.rfl _ M) k_x k2.2 g_K g_W g_L g_P g_U g_X rfl (by have h9 := GRD.m hy3; rw [g_K, g_L, g_W] at h9; exact h9) (hy2 f (by omega) (by omega)) (by omega) (by omega) (fun M3 hC_M3 hf_M3 w3_0 => ?_)) (by decide))
          have ht_M3 : FR W_c_PacketWall_putTogether_x T M3 := FR.t ht_M hf_M3 (kw_sub rfl)
          refine jr.aload_n rfl rfl ?_
          refine jr.iconst rfl ?_
          refine jr.putf (i := 0) (x := 0) rfl rfl (Nat.lt_trans (kx_15 k_x).1 (by decide)) (kx_15 k_x).2 (by decide) rfl rfl rfl rfl rfl ?_
          refine jr.iload_n rfl rfl ?_
          exact jr.ireturn rfl rfl rfl (q _ _ (CI.u hC_M3 (i := 0) k_x (show (0 : Int) ≤ _ ∧ _ ≤ (1 : Int) from by omega) rfl) (FR.o ht_M3 k_x rfl) (by omega) (by have hpf : pF T 24 0 = f := (by have h9 := hy0; rw [show (24 - (i + 1)).toNat = 24 from by omega, show i + 1 = 0 from by omega] at h9; rw [eG]; exact h9.symm); have hT : hlf (T x 1) (T x 11) + T x 7 = hlf K L + W := (by rw [eG, g_K, g_L, g_W]); unfold PTO; rw [hpf, hT]; exact Or.inr ⟨⟨by omega, by omega⟩, rfl, M3, by unfold mkA; rw [eG, g_K, g_L, g_W, g_P, g_U, g_X]; exact w3_0, rfl⟩))
        · refine jr.bipush rfl (by decide) ?_
          exact jr.ireturn rfl rfl rfl (q _ _ hC_M ht_M (by omega) (by have hpf : pF T 24 0 = f := (by have h9 := hy0; rw [show (24 - (i + 1)).toNat = 24 from by omega, show i + 1 = 0 from by omega] at h9; rw [eG]; exact h9.symm); have hT : hlf (T x 1) (T x 11) + T x 7 = hlf K L + W := (by rw [eG, g_K, g_L, g_W]); unfold PTO; rw [hpf, hT]; exact Or.inl ⟨by omega, by omega, hy1⟩))
    · refine jr.aload_n rfl rfl ?_
      refine jr.getf (i := 2) (v := .ref 2) rfl rfl (by decide) rfl (by decide) rfl rfl rfl rfl ?_
      refine jr.iload_n rfl rfl ?_
      have k4 := kxe_42 (a := 2) rfl (i := i) (by omega) (by omega)
      refine jr.aald (c := (xe 2 i)) rfl (by decide) rfl (by decide) (by decide) rfl (by decide) (by omega) (by omega) k4.1 ?_
      refine jr_v rfl rfl (Or.inl rfl) rfl rfl (Nat.lt_trans (kx_33 k4.2).1 (by decide)) (kx_33 k4.2).2 ⟨rfl, Nat.le_of_ble_eq_true rfl, Nat.le_of_ble_eq_true rfl⟩ rfl (jc.deep (c_Packet_isThere hC_M k4.2 (fun r5 z5 w5_0 => ?_)) (by decide))
      obtain ⟨v6, e6⟩ : ∃ z_, M ((xe 2 i)) 1 = z_ := ⟨_, rfl⟩
      have b6 : (-1) ≤ v6 ∧ v6 ≤ 400 := by rw [← e6]; exact (CI.r hC_M k4.2 (by decide) 1)
      refine jr.if_ne rfl rfl (by omega) (fun h18 => ?_) (fun h18 => ?_)
      · have sx18 : (1 : Int) ≤ r5 := by omega
        clear h18
        refine jr.iinc (ls' := [_, _, _, _]) rfl rfl (by decide) rfl ?_
        refine jr.goto rfl rfl ?_
        refine jr.pick (ls := [_, _, _, _]) [1, 0, 2, 3] rfl rfl ?_
        exact ih (nM - 1) (by omega) M f (i + (-1)) hC_M ht_M (by omega) (by omega) g_K g_W g_L g_P g_U g_X (by rw [show i + -1 + 1 = i from by omega, pF_s (by omega)]; first | (rw [if_pos (by omega)]; done) | (rw [if_neg (by omega)]; exact hy0)) hy1 hy2 hy3 (by omega)
      · refine jr.iload_n rfl rfl ?_
        refine jr.istore_n (ls' := [_, _, _, _]) rfl (by decide) rfl ?_
        refine jr.iinc (ls' := [_, _, _, _]) rfl rfl (by decide) rfl ?_
        refine jr.goto rfl rfl ?_
        refine jr.pick (ls := [_, _, _, _]) [1, 0, 2, 3] rfl rfl ?_
        exact ih (nM - 1) (by omega) M i (i + (-1)) hC_M ht_M (by omega) (by omega) g_K g_W g_L g_P g_U g_X (by rw [show i + -1 + 1 = i from by omega, pF_s (by omega)]; first | (rw [if_pos (by omega)]; done) | (rw [if_neg (by omega)]; exact hy0)) hy1 hy2 hy3 (by omega)
theorem c_PacketWall_putTogether_x {A : Nat → Option (Nat × (Nat → Int32))} {Q : Option Value → jm → Prop} {F : Int → Int → Int} {T : jm} {M : jm} (hC_M : CI M) (ht_M : FR W_c_PacketWall_putTogether_x T M) {x : Nat} (k_x : kd x = 15) (p0 : T = M) (p1 : PBS M F) (p2 : GRD M x) (q : ∀ (r : Int) (M' : jm), CI M' → FR W_c_PacketWall_putTogether_x T M' → (-2147483648) ≤ r ∧ r ≤ 2147483647 → (PTO T M' x F r) → Q (some (.int (Int32.ofInt r))) M') : jc A 4 48 [.ref (0), .ref (x)] M Q := by
  refine jc_of (m := xm_48) rfl (Nat.le_of_ble_eq_true rfl) rfl ?_
  refine jr.iconst rfl ?_
  refine jr.istore_n (ls' := [_, _, _]) rfl (by decide) rfl ?_
  refine jr.bipush rfl (by decide) ?_
  refine jr.istore_n (ls' := [_, _, _, _]) rfl (by decide) rfl ?_
  obtain ⟨v1, e1⟩ : ∃ z_, M x 1 = z_ := ⟨_, rfl⟩
  have b1 : (-2147483648) ≤ v1 ∧ v1 ≤ 2147483647 := by rw [← e1]; exact (CI.r hC_M k_x (by decide) 1)
  obtain ⟨v2, e2⟩ : ∃ z_, M x 7 = z_ := ⟨_, rfl⟩
  have b2 : (-1) ≤ v2 ∧ v2 ≤ 70000 := by rw [← e2]; exact (CI.r hC_M k_x (by decide) 7)
  obtain ⟨v3, e3⟩ : ∃ z_, M x 11 = z_ := ⟨_, rfl⟩
  have b3 : (-1) ≤ v3 ∧ v3 ≤ 400 := by rw [← e3]; exact (CI.r hC_M k_x (by decide) 11)
  obtain ⟨v4, e4⟩ : ∃ z_, M x 12 = z_ := ⟨_, rfl⟩
  have b4 : (-1) ≤ v4 ∧ v4 ≤ 400 := by rw [← e4]; exact (CI.r hC_M k_x (by decide) 12)
  obtain ⟨v5, e5⟩ : ∃ z_, M x 13 = z_ := ⟨_, rfl⟩
  have b5 : (-1) ≤ v5 ∧ v5 ≤ 404 := by rw [← e5]; exact (CI.r hC_M k_x (by decide) 13)
  obtain ⟨v6, e6⟩ : ∃ z_, M x 5 = z_ := ⟨_, rfl⟩
  have b6 : (-9223372036854775808) ≤ v6 ∧ v6 ≤ 9223372036854775807 := by rw [← e6]; exact (CI.r hC_M k_x (by decide) 5)
  refine jr.pick (ls := [_, _, _, _]) [1, 0, 2, 3] rfl rfl ?_
  exact c_PacketWall_putTogether_x_L5 k_x q 24 M (-1) 23 hC_M ht_M (by omega) (by omega) e1 e2 e3 e4 e5 e6 rfl p0.symm p1 p2 (by omega)
end
section
/-! ===== the class: gather, whole ===== -/
theorem xgn0 : ∀ n : Nat, n < 8 → xe 10 (n : Int) ≠ 11 ∧ xe 10 (n : Int) ≠ 14 ∧ xe 10 (n : Int) + 1 ≠ 14 ∧ xe 10 (n : Int) + 2 ≠ 14 := by decide +kernel
theorem xg_ {g : Int} (h : 0 ≤ g ∧ g < 8) : xe 10 g ≠ 11 ∧ xe 10 g ≠ 14 ∧ xe 10 g + 1 ≠ 14 ∧ xe 10 g + 2 ≠ 14 := by
  obtain ⟨n, rfl⟩ := Int.eq_ofNat_of_zero_le h.1
  exact xgn0 n (by omega)
end
