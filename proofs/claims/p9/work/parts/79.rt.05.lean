section
theorem c_PacketWall_soughtGathering_x_L2 {A : Nat → Option (Nat × (Nat → Int32))} {Q : Option Value → jm → Prop} {M : jm} (hC_M : CI M) (q : ∀ (r : Int), (-1) ≤ r ∧ r ≤ 7 → (r = gS M 8 0) → Q (some (.int (Int32.ofInt r))) M) : ∀ (nM : Nat) (i : Int), 0 ≤ i ∧ i ≤ 8 → (gS M 8 0 = gS M (8 - i).toNat i) → 8 - i ≤ nM → jr A 1 xm_45 2 [(1, .int (Int32.ofInt (i))), (0, .ref (0))] [] M Q := by
  intro nM
  induction nM using Nat.strongRecOn with
  | ind nM ih =>
    intro i h_i hy0 hm
    refine jr.iload_n rfl rfl ?_
    refine jr.bipush rfl (by decide) ?_
    refine jr.icmp_ge rfl rfl (by omega) (by omega) (fun h5 => ?_) (fun h5 => ?_)
    · refine jr.iconst rfl ?_
      exact jr.ireturn rfl rfl rfl (q _ (by omega) (by rw [hy0, show (8 - i).toNat = 0 from by omega]; rfl))
    · refine jr.aload_n rfl rfl ?_
      refine jr.getf (i := 5) (v := .ref 10) rfl rfl (by decide) rfl (by decide) rfl rfl rfl rfl ?_
      refine jr.iload_n rfl rfl ?_
      have k1 := kxe_40 (a := 10) rfl (i := i) (by omega) (by omega)
      refine jr.aald (c := (xe 10 i)) rfl (by decide) rfl (by decide) (by decide) rfl (by decide) (by omega) (by omega) k1.1 ?_
      obtain ⟨v2, e2⟩ : ∃ z_, M ((xe 10 i)) 0 = z_ := ⟨_, rfl⟩
      have b2 : 0 ≤ v2 ∧ v2 ≤ 1 := by rw [← e2]; exact (CI.r hC_M k1.2 (by decide) 0)
      refine jr.getf (i := 0) (x := v2) (v := .int (Int32.ofInt (v2))) rfl rfl (Nat.lt_trans (kx_15 k1.2).1 (by decide)) (kx_15 k1.2).2 (by decide) rfl rfl e2 rfl ?_
      refine jr.if_eq rfl rfl (by omega) (fun h17 => ?_) (fun h17 => ?_)
      · refine jr.iinc rfl rfl (by decide) rfl ?_
        refine jr.goto rfl rfl ?_
        refine jr.pick [0, 1] rfl rfl ?_
        exact ih (nM - 1) (by omega) (i + 1) (by omega) (by rw [hy0, gS_s (by omega), if_neg (by omega)]) (by omega)
      · refine jr.aload_n rfl rfl ?_
        refine jr.getf (i := 5) (v := .ref 10) rfl rfl (by decide) rfl (by decide) rfl rfl rfl rfl ?_
        refine jr.iload_n rfl rfl ?_
        have k3 := kxe_40 (a := 10) rfl (i := i) (by omega) (by omega)
        refine jr.aald (c := (xe 10 i)) rfl (by decide) rfl (by decide) (by decide) rfl (by decide) (by omega) (by omega) k3.1 ?_
        refine jr.aload_n rfl rfl ?_
        refine jr.getf (i := 6) (v := .ref 11) rfl rfl (by decide) rfl (by decide) rfl rfl rfl rfl ?_
        refine jr_v rfl rfl (Or.inl rfl) rfl rfl (Nat.lt_trans (kx_15 k3.2).1 (by decide)) (kx_15 k3.2).2 ⟨rfl, Nat.le_of_ble_eq_true rfl, Nat.le_of_ble_eq_true rfl⟩ rfl (jc.deep (c_Gathering_isNamedLike_x hC_M k3.2 (show kd 11 = 15 from rfl) (fun r4 z4 w4_0 => ?_)) (by decide))
        refine jr.if_eq rfl rfl (by omega) (fun h33 => ?_) (fun h33 => ?_)
        · refine jr.iinc rfl rfl (by decide) rfl ?_
          refine jr.goto rfl rfl ?_
          refine jr.pick [0, 1] rfl rfl ?_
          exact ih (nM - 1) (by omega) (i + 1) (by omega) (by rw [hy0, gS_s (by omega), if_neg (by omega)]) (by omega)
        · refine jr.iload_n rfl rfl ?_
          exact jr.ireturn rfl rfl rfl (q _ (by omega) (by rw [hy0, gS_s (by omega), if_pos (by omega)]))
theorem c_PacketWall_soughtGathering_x {A : Nat → Option (Nat × (Nat → Int32))} {Q : Option Value → jm → Prop} {M : jm} (hC_M : CI M) (q : ∀ (r : Int), (-1) ≤ r ∧ r ≤ 7 → (r = gS M 8 0) → Q (some (.int (Int32.ofInt r))) M) : jc A 2 45 [.ref (0)] M Q := by
  refine jc_of (m := xm_45) rfl (Nat.le_of_ble_eq_true rfl) rfl ?_
  refine jr.iconst rfl ?_
  refine jr.istore_n rfl (by decide) rfl ?_
  refine jr.pick [0, 1] rfl rfl ?_
  exact c_PacketWall_soughtGathering_x_L2 hC_M  q 8 0 (by omega) rfl (by omega)
theorem c_PacketWall_freeGathering_x_L2 {A : Nat → Option (Nat × (Nat → Int32))} {Q : Option Value → jm → Prop} {M : jm} (hC_M : CI M) (q : ∀ (r : Int), (-1) ≤ r ∧ r ≤ 7 → (r = gF M 8 0) → Q (some (.int (Int32.ofInt r))) M) : ∀ (nM : Nat) (i : Int), 0 ≤ i ∧ i ≤ 8 → (gF M 8 0 = gF M (8 - i).toNat i) → 8 - i ≤ nM → jr A 0 xm_46 2 [(1, .int (Int32.ofInt (i))), (0, .ref (0))] [] M Q := by
  intro nM
  induction nM using Nat.strongRecOn with
  | ind nM ih =>
    intro i h_i hy0 hm
    refine jr.iload_n rfl rfl ?_
    refine jr.bipush rfl (by decide) ?_
    refine jr.icmp_ge rfl rfl (by omega) (by omega) (fun h5 => ?_) (fun h5 => ?_)
    · refine jr.iconst rfl ?_
      exact jr.ireturn rfl rfl rfl (q _ (by omega) (by rw [hy0, show (8 - i).toNat = 0 from by omega]; rfl))
    · refine jr.aload_n rfl rfl ?_
      refine jr.getf (i := 5) (v := .ref 10) rfl rfl (by decide) rfl (by decide) rfl rfl rfl rfl ?_
      refine jr.iload_n rfl rfl ?_
      have k1 := kxe_40 (a := 10) rfl (i := i) (by omega) (by omega)
      refine jr.aald (c := (xe 10 i)) rfl (by decide) rfl (by decide) (by decide) rfl (by decide) (by omega) (by omega) k1.1 ?_
      obtain ⟨v2, e2⟩ : ∃ z_, M ((xe 10 i)) 0 = z_ := ⟨_, rfl⟩
      have b2 : 0 ≤ v2 ∧ v2 ≤ 1 := by rw [← e2]; exact (CI.r hC_M k1.2 (by decide) 0)
      refine jr.getf (i := 0) (x := v2) (v := .int (Int32.ofInt (v2))) rfl rfl (Nat.lt_trans (kx_15 k1.2).1 (by decide)) (kx_15 k1.2).2 (by decide) rfl rfl e2 rfl ?_
      refine jr.if_ne rfl rfl (by omega) (fun h17 => ?_) (fun h17 => ?_)
      · refine jr.iinc rfl rfl (by decide) rfl ?_
        refine jr.goto rfl rfl ?_
        refine jr.pick [0, 1] rfl rfl ?_
        exact ih (nM - 1) (by omega) (i + 1) (by omega) (by rw [hy0, gF_s (by omega), if_neg (by omega)]) (by omega)
      · refine jr.iload_n rfl rfl ?_
        exact jr.ireturn rfl rfl rfl (q _ (by omega) (by rw [hy0, gF_s (by omega), if_pos (by omega)]))
theorem c_PacketWall_freeGathering_x {A : Nat → Option (Nat × (Nat → Int32))} {Q : Option Value → jm → Prop} {M : jm} (hC_M : CI M) (q : ∀ (r : Int), (-1) ≤ r ∧ r ≤ 7 → (r = gF M 8 0) → Q (some (.int (Int32.ofInt r))) M) : jc A 1 46 [.ref (0)] M Q := by
  refine jc_of (m := xm_46) rfl (Nat.le_of_ble_eq_true rfl) rfl ?_
  refine jr.iconst rfl ?_
  refine jr.istore_n rfl (by decide) rfl ?_
  refine jr.pick [0, 1] rfl rfl ?_
  exact c_PacketWall_freeGathering_x_L2 hC_M  q 8 0 (by omega) rfl (by omega)
theorem c_PacketWall_isRefusedPiece_x {A : Nat → Option (Nat × (Nat → Int32))} {Q : Option Value → jm → Prop} {f : Int → Int} {N : Int} {M : jm} (hC_M : CI M) {x : Int} (h_x : 0 ≤ x ∧ x ≤ 11) {y : Int} (h_y : 0 ≤ y ∧ y ≤ 1) {C : Int} (g_C : M 3 3 = C) (p0 : HS M 3 f N) (p1 : x < C) (p2 : hX f N x = 2 ∨ hX f N x = 6) (q : ∀ (r : Int), 0 ≤ r ∧ r ≤ 1 → ((r = 1 ∧ rfq f N C x y) ∨ (r = 0 ∧ ¬ rfq f N C x y)) → Q (some (.int (Int32.ofInt r))) M) : jc A 4 47 [.ref (0), .int (Int32.ofInt (x)), .int (Int32.ofInt (y))] M Q := by
  refine jc_of (m := xm_47) rfl (Nat.le_of_ble_eq_true rfl) rfl ?_
  have b_C : 0 ≤ C ∧ C ≤ 12 := by rw [← g_C]; exact (CI.r hC_M (show kd 3 = 18 from rfl) (by decide) 3)
  refine jr.aload_n rfl rfl ?_
  refine jr.getf (i := 3) (v := .ref 3) rfl rfl (by decide) rfl (by decide) rfl rfl rfl rfl ?_
  refine jr.iload_n rfl rfl ?_
  obtain ⟨v2, e2⟩ : ∃ z_, M 3 7 = z_ := ⟨_, rfl⟩
  have b2 : 0 ≤ v2 ∧ v2 ≤ 597 := by rw [← e2]; exact (CI.r hC_M (show kd 3 = 18 from rfl) (by decide) 7)
  have k1_S : kd (v2).toNat = 33 := (congrArg (fun z : Int => kd z.toNat) e2).symm.trans (CI.x hC_M (show kd 3 = 18 from rfl) 7 rfl (by decide))
  refine jr_v rfl rfl (Or.inl rfl) rfl rfl (by decide) rfl ⟨rfl, Nat.le_of_ble_eq_true rfl, Nat.le_of_ble_eq_true rfl⟩ rfl (jc.deep (c_Headers_dataBehind_x hC_M (show kd 3 = 18 from rfl) (by omega) g_C e2 p0 (fun r1 z1 w1_0 => ?_)) (by decide))
  refine jr.istore_n rfl (by decide) rfl ?_
  refine jr.iload_n rfl rfl ?_
  refine jr.if_gt rfl rfl (by omega) (fun h10 => ?_) (fun h10 => ?_)
  · refine jr.aload_n rfl rfl ?_
    refine jr.getf (i := 3) (v := .ref 3) rfl rfl (by decide) rfl (by decide) rfl rfl rfl rfl ?_
    refine jr.iload_n rfl rfl ?_
    refine jr_v rfl rfl (Or.inl rfl) rfl rfl (by decide) rfl ⟨rfl, Nat.le_of_ble_eq_true rfl, Nat.le_of_ble_eq_true rfl⟩ rfl (jc.deep (c_Headers_isMoreToCome_x hC_M (show kd 3 = 18 from rfl) (by omega) g_C p0 (fun r3 z3 w3_0 => ?_)) (by decide))
    refine jr.if_eq rfl rfl (by omega) (fun h23 => ?_) (fun h23 => ?_)
    · refine jr.iload_n rfl rfl ?_
      refine jr.if_eq rfl rfl (by omega) (fun h40 => ?_) (fun h40 => ?_)
      · refine jr.iconst rfl ?_
        exact jr.ireturn rfl rfl rfl (q _ (by omega) (by have hd : N - enf f N C x = r1 := w1_0.symm; have hm : mrf f N C x = r3 := w3_0.symm; unfold rfq; rw [hd, hm]; omega))
      · refine jr.aload_n rfl rfl ?_
        refine jr.getf (i := 3) (v := .ref 3) rfl rfl (by decide) rfl (by decide) rfl rfl rfl rfl ?_
        refine jr.iload_n rfl rfl ?_
        refine jr_v rfl rfl (Or.inl rfl) rfl rfl (by decide) rfl ⟨rfl, Nat.le_of_ble_eq_true rfl, Nat.le_of_ble_eq_true rfl⟩ rfl (jc.deep (c_Headers_offsetOf_x hC_M (show kd 3 = 18 from rfl) (by omega) g_C p0 (by omega) (by omega) (fun r4 z4 w4_0 => ?_)) (by decide))
        refine jr.iload_n rfl rfl ?_
        refine jr.iadd rfl ?_
        refine jr.sipush rfl (by decide) ?_
        refine jr.icmp_le rfl rfl (by omega) (by omega) (fun h56 => ?_) (fun h56 => ?_)
        · refine jr.iconst rfl ?_
          exact jr.ireturn rfl rfl rfl (q _ (by omega) (by have hd : N - enf f N C x = r1 := w1_0.symm; have hm : mrf f N C x = r3 := w3_0.symm; (try have ho : ofs f N C x = r4 := w4_0.symm); unfold rfq; rw [hd, hm]; omega))
        · refine jr.iconst rfl ?_
          refine jr.goto rfl rfl ?_
          exact jr.ireturn rfl rfl rfl (q _ (by omega) (by have hd : N - enf f N C x = r1 := w1_0.symm; have hm : mrf f N C x = r3 := w3_0.symm; (try have ho : ofs f N C x = r4 := w4_0.symm); unfold rfq; rw [hd, hm]; omega))
    · refine jr.iload_n rfl rfl ?_
      refine jr.bipush rfl (by decide) ?_
      refine jr.irem rfl (by decide) ?_
      have b5 : j_rem r1 8 = r1 % 8 := j_rem_ex (by omega) (by omega)
      generalize j_rem r1 8 = v5 at b5 ⊢
      refine jr.if_eq rfl rfl (by omega) (fun h30 => ?_) (fun h30 => ?_)
      · refine jr.iconst rfl ?_
        exact jr.ireturn rfl rfl rfl (q _ (by omega) (by have hd : N - enf f N C x = r1 := w1_0.symm; have hm : mrf f N C x = r3 := w3_0.symm; unfold rfq; rw [hd, hm]; omega))
      · refine jr.iconst rfl ?_
        refine jr.goto rfl rfl ?_
        exact jr.ireturn rfl rfl rfl (q _ (by omega) (by have hd : N - enf f N C x = r1 := w1_0.symm; have hm : mrf f N C x = r3 := w3_0.symm; unfold rfq; rw [hd, hm]; omega))
  · refine jr.iconst rfl ?_
    exact jr.ireturn rfl rfl rfl (q _ (by omega) (by have hd : N - enf f N C x = r1 := w1_0.symm; unfold rfq; rw [hd]; omega))
end
section
/-! ===== the class: a gathering begins, takes in, is ready ===== -/
noncomputable def BGA (T M : jm) (t : Nat) (x : Nat) (y : Int) : Prop := (M t 0 = 1 ∧ M t 1 = T x 1 ∧ M t 2 = T x 2 ∧ M t 3 = T x 3 ∧ M t 4 = T x 4 ∧ M t 5 = T x 5 ∧ M t 6 = y ∧ M t 7 = -1 ∧ M t 8 = 0 ∧ M t 11 = -1) ∧ (∀ k : Int, 0 ≤ k → k < 360 → M (t + 1) k = -1) ∧ ∀ (b : Nat) (k : Int), b ≠ t → b ≠ t + 1 → M b k = T b k
noncomputable def BGL (T M : jm) (t : Nat) (x : Nat) (y i : Int) : Prop := (M t 0 = 1 ∧ M t 1 = T x 1 ∧ M t 2 = T x 2 ∧ M t 3 = T x 3 ∧ M t 4 = T x 4 ∧ M t 5 = T x 5 ∧ M t 6 = y ∧ M t 7 = -1 ∧ M t 8 = 0 ∧ M t 11 = -1) ∧ (∀ k : Int, 0 ≤ k → k < i → M (t + 1) k = -1) ∧ ∀ (b : Nat) (k : Int), b ≠ t → b ≠ t + 1 → M b k = T b k
theorem BGL.s {T M : jm} {t x : Nat} {y i : Int} (h : BGL T M t x y i) (h0 : 0 ≤ i) : BGL T (ju M (t + 1) i (-1)) t x y (i + 1) := by
  have n : t ≠ t + 1 := by omega
  obtain ⟨h1, h2, h3⟩ := h
  refine ⟨by simp only [ju_c M _ n]; exact h1, fun k k0 k1 => ?_, fun b k b0 b1 => by rw [ju_c M _ b1]; exact h3 b k b0 b1⟩
  by_cases e : k = i
  · subst e; exact ju_same _ _ _ _
  · rw [ju_i M _ e]; exact h2 k k0 (by omega)
noncomputable def rbf (w c : Int) : Int := if w ≠ -1 then w else if c ≤ 64 then 64 else if c ≤ 128 then 128 else if c ≤ 256 then 256 else 360
noncomputable def lpf (w : Int) : Int := if w = -1 then 360 else if w ≤ 360 then w else 360
noncomputable def W_c_Gathering_beginAs_x : List (Nat × Nat) := [(15, 0), (15, 1), (15, 2), (15, 3), (15, 4), (15, 5), (15, 6), (15, 7), (15, 8), (15, 11), (17, 1000)]
theorem c_Gathering_beginAs_x_L67 {A : Nat → Option (Nat × (Nat → Int32))} {Q : Option Value → jm → Prop} {T : jm} {t : Nat} (k_t : kd t = 15) {y : Int} (q : ∀ (M' : jm), CI M' → FR W_c_Gathering_beginAs_x T M' → (BGA T M' t 11 y) → Q none M') : ∀ (nM : Nat) (M : jm) (i : Int), CI M → FR W_c_Gathering_beginAs_x T M → (-2147483648) ≤ y ∧ y ≤ 2147483647 → 0 ≤ i ∧ i ≤ 360 → (BGL T M t 11 y i) → 360 - i ≤ nM → jr A 0 xm_95 67 [(2, .int (Int32.ofInt (y))), (3, .int (Int32.ofInt (i))), (0, .ref (t)), (1, .ref (11))] [] M Q := by
  intro nM
  induction nM using Nat.strongRecOn with
  | ind nM ih =>
    intro M i hC_M ht_M h_y h_i hy0 hm
    refine jr.iload_n rfl rfl ?_
    refine jr.sipush rfl (by decide) ?_
    refine jr.icmp_ge rfl rfl (by omega) (by omega) (fun h71 => ?_) (fun h71 => ?_)
    · exact jr.vreturn rfl rfl (q _ hC_M ht_M  (by have h9 := hy0; rw [show i = 360 from by omega] at h9; exact h9))
    · refine jr.aload_n rfl rfl ?_
      have k1 := kf_15_9 k_t
      refine jr.getf (i := 9) (v := .ref (t + 1)) rfl rfl (Nat.lt_trans (kx_15 k_t).1 (by decide)) (kx_15 k_t).2 (by decide) rfl rfl rfl (jval_ref rfl k1.1) ?_
      refine jr.iload_n rfl rfl ?_
      refine jr.iconst rfl ?_
      refine jr.iast (i := i) (x := (-1)) rfl (Nat.lt_trans (kx_17 k1.2).1 (by decide)) (kx_17 k1.2).2 (by decide) (by omega) (by omega) ?_
      refine jr.iinc rfl rfl (by decide) rfl ?_
      refine jr.goto rfl rfl ?_
      refine jr.pick [1, 0, 2, 3] rfl rfl ?_
      exact ih (nM - 1) (by omega) ((ju M ((t + 1)) i (-1))) (i + 1) (CI.u hC_M (i := i) k1.2 (show (-1 : Int) ≤ _ ∧ _ ≤ (255 : Int) from by omega) rfl) (FR.o ht_M k1.2 rfl) (by omega) (by omega) (BGL.s hy0 (by omega)) (by omega)
theorem c_Gathering_beginAs_x {A : Nat → Option (Nat × (Nat → Int32))} {Q : Option Value → jm → Prop} {T : jm} {M : jm} (hC_M : CI M) (ht_M : FR W_c_Gathering_beginAs_x T M) {t : Nat} (k_t : kd t = 15) {y : Int} (h_y : (-2147483648) ≤ y ∧ y ≤ 2147483647) (p0 : T = M) (p1 : t ≠ 11) (q : ∀ (M' : jm), CI M' → FR W_c_Gathering_beginAs_x T M' → (BGA T M' t 11 y) → Q none M') : jc A 1 95 [.ref (t), .ref (11), .int (Int32.ofInt (y))] M Q := by
  refine jc_of (m := xm_95) rfl (Nat.le_of_ble_eq_true rfl) rfl ?_
  refine jr.aload_n rfl rfl ?_
  refine jr.iconst rfl ?_
  refine jr.putf (i := 0) (x := 1) rfl rfl (Nat.lt_trans (kx_15 k_t).1 (by decide)) (kx_15 k_t).2 (by decide) rfl rfl rfl rfl rfl ?_
  refine jr.aload_n rfl rfl ?_
  refine jr.aload_n rfl rfl ?_
  obtain ⟨v1, e1⟩ : ∃ z_, M 11 1 = z_ := ⟨_, rfl⟩
  have b1 : (-2147483648) ≤ v1 ∧ v1 ≤ 2147483647 := by rw [← e1]; exact (CI.r hC_M (show kd 11 = 15 from rfl) (by decide) 1)
  refine jr.getf (i := 1) (x := v1) (v := .int (Int32.ofInt (v1))) rfl rfl (by decide) rfl (by decide) rfl rfl ((ju_i _ _ (by decide)).trans e1) rfl ?_
  refine jr.putf (i := 1) (x := v1) rfl rfl (Nat.lt_trans (kx_15 k_t).1 (by decide)) (kx_15 k_t).2 (by decide) rfl rfl rfl rfl rfl ?_
  refine jr.aload_n rfl rfl ?_
  refine jr.aload_n rfl rfl ?_
  obtain ⟨v2, e2⟩ : ∃ z_, M 11 2 = z_ := ⟨_, rfl⟩
  have b2 : (-9223372036854775808) ≤ v2 ∧ v2 ≤ 9223372036854775807 := by rw [← e2]; exact (CI.r hC_M (show kd 11 = 15 from rfl) (by decide) 2)
  refine jr.getf (i := 2) (x := v2) (v := .long (Int64.ofInt (v2))) rfl rfl (by decide) rfl (by decide) rfl rfl ((ju_i _ _ (by decide)).trans ((ju_i _ _ (by decide)).trans e2)) rfl ?_
  refine jr.putf (i := 2) (x := v2) rfl rfl (Nat.lt_trans (kx_15 k_t).1 (by decide)) (kx_15 k_t).2 (by decide) rfl rfl rfl rfl rfl ?_
  refine jr.aload_n rfl rfl ?_
  refine jr.aload_n rfl rfl ?_
  obtain ⟨v3, e3⟩ : ∃ z_, M 11 3 = z_ := ⟨_, rfl⟩
  have b3 : (-9223372036854775808) ≤ v3 ∧ v3 ≤ 9223372036854775807 := by rw [← e3]; exact (CI.r hC_M (show kd 11 = 15 from rfl) (by decide) 3)
  refine jr.getf (i := 3) (x := v3) (v := .long (Int64.ofInt (v3))) rfl rfl (by decide) rfl (by decide) rfl rfl ((ju_i _ _ (by decide)).trans ((ju_i _ _ (by decide)).trans ((ju_i _ _ (by decide)).trans e3))) rfl ?_
  refine jr.putf (i := 3) (x := v3) rfl rfl (Nat.lt_trans (kx_15 k_t).1 (by decide)) (kx_15 k_t).2 (by decide) rfl rfl rfl rfl rfl ?_
  refine jr.aload_n rfl rfl ?_
  refine jr.aload_n rfl rfl ?_
  obtain ⟨v4, e4⟩ : ∃ z_, M 11 4 = z_ := ⟨_, rfl⟩
  have b4 : (-9223372036854775808) ≤ v4 ∧ v4 ≤ 9223372036854775807 := by rw [← e4]; exact (CI.r hC_M (show kd 11 = 15 from rfl) (by decide) 4)
  refine jr.getf (i := 4) (x := v4) (v := .long (Int64.ofInt (v4))) rfl rfl (by decide) rfl (by decide) rfl rfl ((ju_i _ _ (by decide)).trans ((ju_i _ _ (by decide)).trans ((ju_i _ _ (by decide)).trans ((ju_i _ _ (by decide)).trans e4)))) rfl ?_
  refine jr.putf (i := 4) (x := v4) rfl rfl (Nat.lt_trans (kx_15 k_t).1 (by decide)) (kx_15 k_t).2 (by decide) rfl rfl rfl rfl rfl ?_
  refine jr.aload_n rfl rfl ?_
  refine jr.aload_n rfl rfl ?_
  obtain ⟨v5, e5⟩ : ∃ z_, M 11 5 = z_ := ⟨_, rfl⟩
  have b5 : (-9223372036854775808) ≤ v5 ∧ v5 ≤ 9223372036854775807 := by rw [← e5]; exact (CI.r hC_M (show kd 11 = 15 from rfl) (by decide) 5)
  refine jr.getf (i := 5) (x := v5) (v := .long (Int64.ofInt (v5))) rfl rfl (by decide) rfl (by decide) rfl rfl ((ju_i _ _ (by decide)).trans ((ju_i _ _ (by decide)).trans ((ju_i _ _ (by decide)).trans ((ju_i _ _ (by decide)).trans ((ju_i _ _ (by decide)).trans e5))))) rfl ?_
  refine jr.putf (i := 5) (x := v5) rfl rfl (Nat.lt_trans (kx_15 k_t).1 (by decide)) (kx_15 k_t).2 (by decide) rfl rfl rfl rfl rfl ?_
  refine jr.aload_n rfl rfl ?_
  refine jr.iload_n rfl rfl ?_
  refine jr.putf (i := 6) (x := y) rfl rfl (Nat.lt_trans (kx_15 k_t).1 (by decide)) (kx_15 k_t).2 (by decide) rfl rfl rfl rfl rfl ?_
  refine jr.aload_n rfl rfl ?_
  refine jr.iconst rfl ?_
  refine jr.putf (i := 7) (x := (-1)) rfl rfl (Nat.lt_trans (kx_15 k_t).1 (by decide)) (kx_15 k_t).2 (by decide) rfl rfl rfl rfl rfl ?_
  refine jr.aload_n rfl rfl ?_
  refine jr.iconst rfl ?_
  refine jr.putf (i := 8) (x := 0) rfl rfl (Nat.lt_trans (kx_15 k_t).1 (by decide)) (kx_15 k_t).2 (by decide) rfl rfl rfl rfl rfl ?_
  refine jr.aload_n rfl rfl ?_
  refine jr.iconst rfl ?_
  refine jr.putf (i := 11) (x := (-1)) rfl rfl (Nat.lt_trans (kx_15 k_t).1 (by decide)) (kx_15 k_t).2 (by decide) rfl rfl rfl rfl rfl ?_
  refine jr.iconst rfl ?_
  refine jr.istore_n rfl (by decide) rfl ?_
  refine jr.pick [3, 0, 1, 2] rfl rfl ?_
  exact c_Gathering_beginAs_x_L67 k_t q 360 ((ju (ju (ju (ju (ju (ju (ju (ju (ju (ju M t 0 1) t 1 v1) t 2 v2) t 3 v3) t 4 v4) t 5 v5) t 6 y) t 7 (-1)) t 8 0) t 11 (-1))) 0 (CI.u (CI.u (CI.u (CI.u (CI.u (CI.u (CI.u (CI.u (CI.u (CI.u hC_M (i := 0) k_t (show (0 : Int) ≤ _ ∧ _ ≤ (1 : Int) from by omega) rfl) (i := 1) k_t (show (-2147483648 : Int) ≤ _ ∧ _ ≤ (2147483647 : Int) from by omega) rfl) (i := 2) k_t (show (-9223372036854775808 : Int) ≤ _ ∧ _ ≤ (9223372036854775807 : Int) from by omega) rfl) (i := 3) k_t (show (-9223372036854775808 : Int) ≤ _ ∧ _ ≤ (9223372036854775807 : Int) from by omega) rfl) (i := 4) k_t (show (-9223372036854775808 : Int) ≤ _ ∧ _ ≤ (9223372036854775807 : Int) from by omega) rfl) (i := 5) k_t (show (-9223372036854775808 : Int) ≤ _ ∧ _ ≤ (9223372036854775807 : Int) from by omega) rfl) (i := 6) k_t (show (-2147483648 : Int) ≤ _ ∧ _ ≤ (2147483647 : Int) from by omega) rfl) (i := 7) k_t (show (-1 : Int) ≤ _ ∧ _ ≤ (70000 : Int) from by omega) rfl) (i := 8) k_t (show (-2147483648 : Int) ≤ _ ∧ _ ≤ (2147483647 : Int) from by omega) rfl) (i := 11) k_t (show (-1 : Int) ≤ _ ∧ _ ≤ (400 : Int) from by omega) rfl) (FR.o (FR.o (FR.o (FR.o (FR.o (FR.o (FR.o (FR.o (FR.o (FR.o ht_M k_t rfl) k_t rfl) k_t rfl) k_t rfl) k_t rfl) k_t rfl) k_t rfl) k_t rfl) k_t rfl) k_t rfl) (by omega) (by omega) ⟨⟨(by rw [show (ju (ju (ju (ju (ju (ju (ju (ju (ju (ju M t 0 1) t 1 v1) t 2 v2) t 3 v3) t 4 v4) t 5 v5) t 6 y) t 7 (-1)) t 8 0) t 11 (-1)) t 0 = 1 from ((ju_i _ _ (by decide)).trans ((ju_i _ _ (by decide)).trans ((ju_i _ _ (by decide)).trans ((ju_i _ _ (by decide)).trans ((ju_i _ _ (by decide)).trans ((ju_i _ _ (by decide)).trans ((ju_i _ _ (by decide)).trans ((ju_i _ _ (by decide)).trans ((ju_i _ _ (by decide)).trans (ju_same _ _ _ _))))))))))]), (by rw [show (ju (ju (ju (ju (ju (ju (ju (ju (ju (ju M t 0 1) t 1 v1) t 2 v2) t 3 v3) t 4 v4) t 5 v5) t 6 y) t 7 (-1)) t 8 0) t 11 (-1)) t 1 = v1 from ((ju_i _ _ (by decide)).trans ((ju_i _ _ (by decide)).trans ((ju_i _ _ (by decide)).trans ((ju_i _ _ (by decide)).trans ((ju_i _ _ (by decide)).trans ((ju_i _ _ (by decide)).trans ((ju_i _ _ (by decide)).trans ((ju_i _ _ (by decide)).trans (ju_same _ _ _ _)))))))))]; rw [p0]; omega), (by rw [show (ju (ju (ju (ju (ju (ju (ju (ju (ju (ju M t 0 1) t 1 v1) t 2 v2) t 3 v3) t 4 v4) t 5 v5) t 6 y) t 7 (-1)) t 8 0) t 11 (-1)) t 2 = v2 from ((ju_i _ _ (by decide)).trans ((ju_i _ _ (by decide)).trans ((ju_i _ _ (by decide)).trans ((ju_i _ _ (by decide)).trans ((ju_i _ _ (by decide)).trans ((ju_i _ _ (by decide)).trans ((ju_i _ _ (by decide)).trans (ju_same _ _ _ _))))))))]; rw [p0]; omega), (by rw [show (ju (ju (ju (ju (ju (ju (ju (ju (ju (ju M t 0 1) t 1 v1) t 2 v2) t 3 v3) t 4 v4) t 5 v5) t 6 y) t 7 (-1)) t 8 0) t 11 (-1)) t 3 = v3 from ((ju_i _ _ (by decide)).trans ((ju_i _ _ (by decide)).trans ((ju_i _ _ (by decide)).trans ((ju_i _ _ (by decide)).trans ((ju_i _ _ (by decide)).trans ((ju_i _ _ (by decide)).trans (ju_same _ _ _ _)))))))]; rw [p0]; omega), (by rw [show (ju (ju (ju (ju (ju (ju (ju (ju (ju (ju M t 0 1) t 1 v1) t 2 v2) t 3 v3) t 4 v4) t 5 v5) t 6 y) t 7 (-1)) t 8 0) t 11 (-1)) t 4 = v4 from ((ju_i _ _ (by decide)).trans ((ju_i _ _ (by decide)).trans ((ju_i _ _ (by decide)).trans ((ju_i _ _ (by decide)).trans ((ju_i _ _ (by decide)).trans (ju_same _ _ _ _))))))]; rw [p0]; omega), (by rw [show (ju (ju (ju (ju (ju (ju (ju (ju (ju (ju M t 0 1) t 1 v1) t 2 v2) t 3 v3) t 4 v4) t 5 v5) t 6 y) t 7 (-1)) t 8 0) t 11 (-1)) t 5 = v5 from ((ju_i _ _ (by decide)).trans ((ju_i _ _ (by decide)).trans ((ju_i _ _ (by decide)).trans ((ju_i _ _ (by decide)).trans (ju_same _ _ _ _)))))]; rw [p0]; omega), (by rw [show (ju (ju (ju (ju (ju (ju (ju (ju (ju (ju M t 0 1) t 1 v1) t 2 v2) t 3 v3) t 4 v4) t 5 v5) t 6 y) t 7 (-1)) t 8 0) t 11 (-1)) t 6 = y from ((ju_i _ _ (by decide)).trans ((ju_i _ _ (by decide)).trans ((ju_i _ _ (by decide)).trans (ju_same _ _ _ _))))]), (by rw [show (ju (ju (ju (ju (ju (ju (ju (ju (ju (ju M t 0 1) t 1 v1) t 2 v2) t 3 v3) t 4 v4) t 5 v5) t 6 y) t 7 (-1)) t 8 0) t 11 (-1)) t 7 = -1 from ((ju_i _ _ (by decide)).trans ((ju_i _ _ (by decide)).trans (ju_same _ _ _ _)))]), (by rw [show (ju (ju (ju (ju (ju (ju (ju (ju (ju (ju M t 0 1) t 1 v1) t 2 v2) t 3 v3) t 4 v4) t 5 v5) t 6 y) t 7 (-1)) t 8 0) t 11 (-1)) t 8 = 0 from ((ju_i _ _ (by decide)).trans (ju_same _ _ _ _))]), (by rw [show (ju (ju (ju (ju (ju (ju (ju (ju (ju (ju M t 0 1) t 1 v1) t 2 v2) t 3 v3) t 4 v4) t 5 v5) t 6 y) t 7 (-1)) t 8 0) t 11 (-1)) t 11 = -1 from (ju_same _ _ _ _)])⟩, fun k k0 k1 => absurd k1 (by omega), fun b k b0 b1 => by rw [ju_c _ _ b0, ju_c _ _ b0, ju_c _ _ b0, ju_c _ _ b0, ju_c _ _ b0, ju_c _ _ b0, ju_c _ _ b0, ju_c _ _ b0, ju_c _ _ b0, ju_c _ _ b0, p0]⟩ (by omega)
theorem c_Gathering_lastPlace_x {A : Nat → Option (Nat × (Nat → Int32))} {Q : Option Value → jm → Prop} {M : jm} (hC_M : CI M) {t : Nat} (k_t : kd t = 15) {W : Int} (g_W : M t 7 = W) (q : ∀ (r : Int), (-1) ≤ r ∧ r ≤ 360 → (r = lpf W) → Q (some (.int (Int32.ofInt r))) M) : jc A 1 102 [.ref (t)] M Q := by
  refine jc_of (m := xm_102) rfl (Nat.le_of_ble_eq_true rfl) rfl ?_
  have b_W : (-1) ≤ W ∧ W ≤ 70000 := by rw [← g_W]; exact (CI.r hC_M k_t (by decide) 7)
  refine jr.aload_n rfl rfl ?_
  refine jr.getf (i := 7) (x := W) (v := .int (Int32.ofInt (W))) rfl rfl (Nat.lt_trans (kx_15 k_t).1 (by decide)) (kx_15 k_t).2 (by decide) rfl rfl g_W rfl ?_
  refine jr.iconst rfl ?_
  refine jr.icmp_ne rfl rfl (by omega) (by omega) (fun h5 => ?_) (fun h5 => ?_)
  · refine jr.aload_n rfl rfl ?_
    refine jr.getf (i := 7) (x := W) (v := .int (Int32.ofInt (W))) rfl rfl (Nat.lt_trans (kx_15 k_t).1 (by decide)) (kx_15 k_t).2 (by decide) rfl rfl g_W rfl ?_
    refine jr.sipush rfl (by decide) ?_
    refine jr.imin rfl rfl (Nat.le_of_ble_eq_true rfl) (by omega) (by omega) ?_
    intro v1 d1 b1 c1
    exact jr.ireturn rfl rfl rfl (q _ (by omega) (by unfold lpf; (repeat' split) <;> omega))
  · refine jr.sipush rfl (by decide) ?_
    refine jr.goto rfl rfl ?_
    exact jr.ireturn rfl rfl rfl (q _ (by omega) (by unfold lpf; (repeat' split) <;> omega))
end
