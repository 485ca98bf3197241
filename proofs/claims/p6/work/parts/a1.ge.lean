/-! ===== the class: tick ===== -/
def TGA (T M : jm) (z i : Int) : Prop := ∀ g : Int, 0 ≤ g → g < 8 → M (xe 10 g) 0 = if g < i ∧ T (xe 10 g) 6 ≤ z then 0 else T (xe 10 g) 0
def TFA (T M : jm) (V : Nat) (z i : Int) : Prop := ∀ f : Int, 0 ≤ f → f < 24 → M (xe V f) 0 = if f < i ∧ T (xe V f) 6 ≤ z then 0 else T (xe V f) 0
theorem xgx0 : ∀ n : Nat, n < 8 → xe 10 (n : Int) = 574 + 3 * n := by decide +kernel
theorem xgx {g : Int} (h : 0 ≤ g ∧ g < 8) : xe 10 g = 574 + 3 * g.toNat := by
  obtain ⟨n, rfl⟩ := Int.eq_ofNat_of_zero_le h.1
  exact xgx0 n (by omega)
theorem TGA.s1 {T M : jm} {z i : Int} (h : TGA T M z i) (hi : 0 ≤ i ∧ i < 8) (hu : T (xe 10 i) 6 ≤ z) : TGA T (ju M (xe 10 i) 0 0) z (i + 1) := fun g g0 g1 => by
  by_cases e : g = i
  · subst e
    rw [ju_same, if_pos ⟨by omega, hu⟩]
  · have a := xgx (g := g) ⟨g0, g1⟩
    have b := xgx (g := i) hi
    rw [ju_c _ _ (by omega), h g g0 g1]
    by_cases q : g < i ∧ T (xe 10 g) 6 ≤ z
    · rw [if_pos q, if_pos ⟨by omega, q.2⟩]
    · rw [if_neg q, if_neg (by omega)]
theorem TGA.s0 {T M : jm} {z i : Int} (h : TGA T M z i) (hu : z < T (xe 10 i) 6) : TGA T M z (i + 1) := fun g g0 g1 => by
  rw [h g g0 g1]
  by_cases e : g = i
  · subst e
    rw [if_neg (by omega), if_neg (by omega)]
  · by_cases q : g < i ∧ T (xe 10 g) 6 ≤ z
    · rw [if_pos q, if_pos ⟨by omega, q.2⟩]
    · rw [if_neg q, if_neg (by omega)]
theorem TFA.s1 {T M : jm} {V z i : Int} (h : TFA T M V.toNat z i) (hV : 16 ≤ V ∧ V ≤ 17) (hi : 0 ≤ i ∧ i < 24) (hu : T (xe V.toNat i) 6 ≤ z) : TFA T (ju M (xe V.toNat i) 0 0) V.toNat z (i + 1) := fun g g0 g1 => by
  by_cases e : g = i
  · subst e
    rw [ju_same, if_pos ⟨by omega, hu⟩]
  · have a := xfl_d hV hi (k := g) ⟨g0, g1⟩ e
    rw [ju_c _ _ (by omega), h g g0 g1]
    by_cases q : g < i ∧ T (xe V.toNat g) 6 ≤ z
    · rw [if_pos q, if_pos ⟨by omega, q.2⟩]
    · rw [if_neg q, if_neg (by omega)]
theorem TFA.s0 {T M : jm} {V : Nat} {z i : Int} (h : TFA T M V z i) (hu : z < T (xe V i) 6) : TFA T M V z (i + 1) := fun g g0 g1 => by
  rw [h g g0 g1]
  by_cases e : g = i
  · subst e
    rw [if_neg (by omega), if_neg (by omega)]
  · by_cases q : g < i ∧ T (xe V g) 6 ≤ z
    · rw [if_pos q, if_pos ⟨by omega, q.2⟩]
    · rw [if_neg q, if_neg (by omega)]
theorem TFA.z {T : jm} {V : Nat} {z : Int} : TFA T T V z 0 := fun g g0 g1 => by rw [if_neg (by omega)]
theorem TGA.z {T : jm} {z : Int} : TGA T T z 0 := fun g g0 g1 => by rw [if_neg (by omega)]
theorem TFA.t {T M M2 : jm} {V : Nat} {z : Int} (h : TFA T M V z 0) (h2 : TFA M M2 V z 24) (hu : ∀ f : Int, 0 ≤ f → f < 24 → M (xe V f) 6 = T (xe V f) 6) : TFA T M2 V z 24 := fun g g0 g1 => by
  rw [h2 g g0 g1, hu g g0 g1, h g g0 g1, if_neg (show ¬ (g < 0 ∧ _) by omega)]
theorem TGA.e {T M M2 : jm} {z i : Int} (h : TGA T M z i) (e : ∀ g : Int, 0 ≤ g → g < 8 → M2 (xe 10 g) 0 = M (xe 10 g) 0) : TGA T M2 z i := fun g g0 g1 => by
  rw [e g g0 g1]
  exact h g g0 g1
theorem TFA.e {T M M2 : jm} {V : Nat} {z i : Int} (h : TFA T M V z i) (e : ∀ f : Int, 0 ≤ f → f < 24 → M2 (xe V f) 0 = M (xe V f) 0) : TFA T M2 V z i := fun g g0 g1 => by
  rw [e g g0 g1]
  exact h g g0 g1
theorem kV {V f : Int} (hV : 16 ≤ V ∧ V ≤ 17) (h0 : 0 ≤ f) (h1 : f < 24) : kd (xe V.toNat f) = 1 := (kxe_13 (show kd V.toNat = 13 from by rcases (show V = 16 ∨ V = 17 by omega) with h | h <;> (rw [h]; rfl)) h0 h1).2
theorem kGa {g : Int} (h0 : 0 ≤ g) (h1 : g < 8) : kd (xe 10 g) = 15 := (kxe_40 (show kd 10 = 40 from rfl) h0 h1).2
def W_c_Flows_age_x : List (Nat × Nat) := [(1, 0)]
theorem c_Flows_age_x_L2 {A : Nat → Option (Nat × (Nat → Int32))} {Q : Option Value → jm → Prop} {T : jm} {V : Int} {x : Int} (q : ∀ (M' : jm), CI M' → FR W_c_Flows_age_x T M' → (TFA T M' V.toNat x 24) → Q none M') : ∀ (nM : Nat) (M : jm) (i : Int), CI M → FR W_c_Flows_age_x T M → (-2147483648) ≤ x ∧ x ≤ 2147483647 → 0 ≤ i ∧ i ≤ 24 → M 15 0 = V → (TFA T M V.toNat x i) → 24 - i ≤ nM → jr A 0 xm_76 2 [(1, .int (Int32.ofInt (x))), (2, .int (Int32.ofInt (i))), (0, .ref (15))] [] M Q := by
  intro nM
  induction nM using Nat.strongRecOn with
  | ind nM ih =>
    intro M i hC_M ht_M h_x h_i g_V hy0 hm
    have b_V : 16 ≤ V ∧ V ≤ 17 := by rw [← g_V]; exact (CI.r hC_M (show kd 15 = 9 from rfl) (by decide) 0)
    refine jr.iload_n rfl rfl ?_
    refine jr.bipush rfl (by decide) ?_
    refine jr.icmp_ge rfl rfl (by omega) (by omega) (fun h5 => ?_) (fun h5 => ?_)
    · exact jr.vreturn rfl rfl (q _ hC_M ht_M  (by have h9 := hy0; rw [show i = 24 from by omega] at h9; exact h9))
    · refine jr.aload_n rfl rfl ?_
      have k1 : kd (V).toNat = 13 := by rcases (show V = 16 ∨ V = 17 by omega) with h | h <;> (rw [h]; rfl)
      refine jr.getf (i := 0) (x := V) (v := .ref (V.toNat)) rfl rfl (by decide) rfl (by decide) rfl rfl g_V rfl ?_
      refine jr.iload_n rfl rfl ?_
      have k2 := kxe_13 k1 (i := i) (by omega) (by omega)
      refine jr.aald (c := (xe ((V.toNat)) i)) rfl (Nat.lt_trans (kx_13 k1).1 (by decide)) (kx_13 k1).2 (by decide) (by decide) rfl (by decide) (by omega) (by omega) k2.1 ?_
      obtain ⟨v3, e3⟩ : ∃ z_, M ((xe ((V.toNat)) i)) 6 = z_ := ⟨_, rfl⟩
      have b3 : (-2147483648) ≤ v3 ∧ v3 ≤ 2147483647 := by rw [← e3]; exact (CI.r hC_M k2.2 (by decide) 6)
      refine jr.getf (i := 6) (x := v3) (v := .int (Int32.ofInt (v3))) rfl rfl (Nat.lt_trans (kx_1 k2.2).1 (by decide)) (kx_1 k2.2).2 (by decide) rfl rfl e3 rfl ?_
      refine jr.iload_n rfl rfl ?_
      refine jr.icmp_gt rfl rfl (by omega) (by omega) (fun h18 => ?_) (fun h18 => ?_)
      · refine jr.iinc rfl rfl (by decide) rfl ?_
        refine jr.goto rfl rfl ?_
        refine jr.pick [1, 0, 2] rfl rfl ?_
        exact ih (nM - 1) (by omega) M (i + 1) hC_M ht_M (by omega) (by omega) g_V (TFA.s0 hy0 (by rw [(show T (xe V.toNat i) 6 = _ from (ht_M.g (kV (by omega) (by omega) (by omega)) rfl).symm.trans e3)]; omega)) (by omega)
      · refine jr.aload_n rfl rfl ?_
        have k4 : kd (V).toNat = 13 := by rcases (show V = 16 ∨ V = 17 by omega) with h | h <;> (rw [h]; rfl)
        refine jr.getf (i := 0) (x := V) (v := .ref (V.toNat)) rfl rfl (by decide) rfl (by decide) rfl rfl g_V rfl ?_
        refine jr.iload_n rfl rfl ?_
        have k5 := kxe_13 k4 (i := i) (by omega) (by omega)
        refine jr.aald (c := (xe ((V.toNat)) i)) rfl (Nat.lt_trans (kx_13 k4).1 (by decide)) (kx_13 k4).2 (by decide) (by decide) rfl (by decide) (by omega) (by omega) k5.1 ?_
        refine jr.iconst rfl ?_
        refine jr.putf (i := 0) (x := 0) rfl rfl (Nat.lt_trans (kx_1 k5.2).1 (by decide)) (kx_1 k5.2).2 (by decide) rfl rfl rfl rfl rfl ?_
        refine jr.iinc rfl rfl (by decide) rfl ?_
        refine jr.goto rfl rfl ?_
        refine jr.pick [1, 0, 2] rfl rfl ?_
        exact ih (nM - 1) (by omega) ((ju M ((xe ((V.toNat)) i)) 0 0)) (i + 1) (CI.u hC_M (i := 0) k5.2 (show (0 : Int) ≤ _ ∧ _ ≤ (1 : Int) from by omega) rfl) (FR.o ht_M k5.2 rfl) (by omega) (by omega) ((ju_c _ _ (kd_ne (by rw [(show kd 15 = 9 from rfl), k5.2]; decide))).trans g_V) (TFA.s1 hy0 (by omega) (by omega) (by rw [(show T (xe V.toNat i) 6 = _ from (ht_M.g (kV (by omega) (by omega) (by omega)) rfl).symm.trans e3)]; omega)) (by omega)
theorem c_Flows_age_x {A : Nat → Option (Nat × (Nat → Int32))} {Q : Option Value → jm → Prop} {T : jm} {M : jm} (hC_M : CI M) (ht_M : FR W_c_Flows_age_x T M) {x : Int} (h_x : (-2147483648) ≤ x ∧ x ≤ 2147483647) {V : Int} (g_V : M 15 0 = V) (p0 : T = M) (q : ∀ (M' : jm), CI M' → FR W_c_Flows_age_x T M' → (TFA T M' V.toNat x 24) → Q none M') : jc A 1 76 [.ref (15), .int (Int32.ofInt (x))] M Q := by
  refine jc_of (m := xm_76) rfl (Nat.le_of_ble_eq_true rfl) rfl ?_
  have b_V : 16 ≤ V ∧ V ≤ 17 := by rw [← g_V]; exact (CI.r hC_M (show kd 15 = 9 from rfl) (by decide) 0)
  refine jr.iconst rfl ?_
  refine jr.istore_n rfl (by decide) rfl ?_
  refine jr.pick [2, 0, 1] rfl rfl ?_
  exact c_Flows_age_x_L2  q 24 M 0 hC_M ht_M (by omega) (by omega) g_V (by rw [p0]; exact TFA.z) (by omega)
def W_c_PacketWall_tick_x : List (Nat × Nat) := [(1, 0), (15, 0), (28, 1000), (35, 8)]
theorem c_PacketWall_tick_x_L83 {A : Nat → Option (Nat × (Nat → Int32))} {Q : Option Value → jm → Prop} {T : jm} {S : Int} {V : Int} {x : Int} (q : ∀ (r : Int) (M' : jm), CI M' → FR W_c_PacketWall_tick_x T M' → (-2147483648) ≤ r ∧ r ≤ 2147483647 → (((1 ≤ x ∧ x ≤ 1000) ∧ r = S + x ∧ M' 0 8 = S + x ∧ TGA T M' (S + x) 8 ∧ TFA T M' V.toNat (S + x) 24) ∨ (¬ (1 ≤ x ∧ x ≤ 1000) ∧ r = -3 ∧ M' = T)) → Q (some (.int (Int32.ofInt r))) M') : ∀ (nM : Nat) (M : jm) (b : Int) (i : Int), CI M → FR W_c_PacketWall_tick_x T M → 1 ≤ x ∧ x ≤ 1000 → (-2147483648) ≤ b ∧ b ≤ 2147483647 → 0 ≤ i ∧ i ≤ 4 → M 15 0 = V → (M 0 8 = S + x) → (TGA T M (S + x) 8) → (TFA T M V.toNat (S + x) 24) → 4 - i ≤ nM → jr A 1 xm_18 83 [(1, .int (Int32.ofInt (x))), (2, .int (Int32.ofInt (b))), (3, .int (Int32.ofInt (i))), (0, .ref (0))] [] M Q := by
  intro nM
  induction nM using Nat.strongRecOn with
  | ind nM ih =>
    intro M b i hC_M ht_M h_x h_b h_i g_V hy0 hy1 hy2 hm
    have b_V : 16 ≤ V ∧ V ≤ 17 := by rw [← g_V]; exact (CI.r hC_M (show kd 15 = 9 from rfl) (by decide) 0)
    obtain ⟨v1, e1⟩ : ∃ z_, M 0 8 = z_ := ⟨_, rfl⟩
    have b1 : (-2147483648) ≤ v1 ∧ v1 ≤ 2147483647 := by rw [← e1]; exact (CI.r hC_M (show kd 0 = 35 from rfl) (by decide) 8)
    refine jr.iload_n rfl rfl ?_
    refine jr.iconst rfl ?_
    refine jr.icmp_ge rfl rfl (by omega) (by omega) (fun h85 => ?_) (fun h85 => ?_)
    · refine jr.aload_n rfl rfl ?_
      refine jr.getf (i := 8) (x := v1) (v := .int (Int32.ofInt (v1))) rfl rfl (by decide) rfl (by decide) rfl rfl e1 rfl ?_
      exact jr.ireturn rfl rfl rfl (q _ _ hC_M ht_M (by omega) (Or.inl ⟨by omega, by omega, by omega, hy1, hy2⟩))
    · refine jr.aload_n rfl rfl ?_
      refine jr.iload_n rfl rfl ?_
      refine jr.iload_n rfl rfl ?_
      refine jr_v rfl rfl (Or.inl rfl) rfl rfl (by decide) rfl ⟨rfl, Nat.le_of_ble_eq_true rfl, Nat.le_of_ble_eq_true rfl⟩ rfl (jc.deep (c_PacketWall_fillBucket hC_M (FR.rfl _ M) (by omega) (by omega) (fun M2 hC_M2 hf_M2  => ?_)) (by decide))
      have ht_M2 : FR W_c_PacketWall_tick_x T M2 := FR.t ht_M hf_M2 (kw_sub rfl)
      refine jr.iinc rfl rfl (by decide) rfl ?_
      refine jr.goto rfl rfl ?_
      have e3 : M2 15 0 = V := (hf_M2.g (show kd 15 = 9 from rfl) rfl).trans g_V
      have e4 : M2 0 8 = v1 := (hf_M2.g (show kd 0 = 35 from rfl) rfl).trans e1
      refine jr.pick [1, 2, 0, 3] rfl rfl ?_
      exact ih (nM - 1) (by omega) M2 b (i + 1) hC_M2 ht_M2 (by omega) (by omega) (by omega) e3 (by have hq0 : M2 0 8 = v1 := e4; omega) (TGA.e hy1 (fun g g0 g1 => hf_M2.g (kGa g0 g1) rfl)) (TFA.e hy2 (fun f f0 f1 => hf_M2.g (kV (by omega) f0 f1) rfl)) (by omega)
theorem c_PacketWall_tick_x_L32 {A : Nat → Option (Nat × (Nat → Int32))} {Q : Option Value → jm → Prop} {T : jm} {S : Int} {V : Int} {x : Int} (q : ∀ (r : Int) (M' : jm), CI M' → FR W_c_PacketWall_tick_x T M' → (-2147483648) ≤ r ∧ r ≤ 2147483647 → (((1 ≤ x ∧ x ≤ 1000) ∧ r = S + x ∧ M' 0 8 = S + x ∧ TGA T M' (S + x) 8 ∧ TFA T M' V.toNat (S + x) 24) ∨ (¬ (1 ≤ x ∧ x ≤ 1000) ∧ r = -3 ∧ M' = T)) → Q (some (.int (Int32.ofInt r))) M') : ∀ (nM : Nat) (M : jm) (b : Int) (i : Int), CI M → FR W_c_PacketWall_tick_x T M → 1 ≤ x ∧ x ≤ 1000 → (-2147483648) ≤ b ∧ b ≤ 2147483647 → 0 ≤ i ∧ i ≤ 8 → M 15 0 = V → (M 0 8 = S + x) → (TGA T M (S + x) i) → (TFA T M V.toNat (S + x) 0) → 8 - i ≤ nM → jr A 1 xm_18 32 [(1, .int (Int32.ofInt (x))), (2, .int (Int32.ofInt (b))), (3, .int (Int32.ofInt (i))), (0, .ref (0))] [] M Q := by
  intro nM
  induction nM using Nat.strongRecOn with
  | ind nM ih =>
    intro M b i hC_M ht_M h_x h_b h_i g_V hy0 hy1 hy2 hm
    have b_V : 16 ≤ V ∧ V ≤ 17 := by rw [← g_V]; exact (CI.r hC_M (show kd 15 = 9 from rfl) (by decide) 0)
    obtain ⟨v1, e1⟩ : ∃ z_, M 0 8 = z_ := ⟨_, rfl⟩
    have b1 : (-2147483648) ≤ v1 ∧ v1 ≤ 2147483647 := by rw [← e1]; exact (CI.r hC_M (show kd 0 = 35 from rfl) (by decide) 8)
    refine jr.iload_n rfl rfl ?_
    refine jr.bipush rfl (by decide) ?_
    refine jr.icmp_ge rfl rfl (by omega) (by omega) (fun h35 => ?_) (fun h35 => ?_)
    · refine jr.aload_n rfl rfl ?_
      refine jr.getf (i := 9) (v := .ref 15) rfl rfl (by decide) rfl (by decide) rfl rfl rfl rfl ?_
      refine jr.aload_n rfl rfl ?_
      refine jr.getf (i := 8) (x := v1) (v := .int (Int32.ofInt (v1))) rfl rfl (by decide) rfl (by decide) rfl rfl e1 rfl ?_
      refine jr_v rfl rfl (Or.inl rfl) rfl rfl (by decide) rfl ⟨rfl, Nat.le_of_ble_eq_true rfl, Nat.le_of_ble_eq_true rfl⟩ rfl (jc.deep (c_Flows_age_x hC_M (FR.rfl _ M) (by omega) g_V rfl (fun M2 hC_M2 hf_M2 w2_0 => ?_)) (by decide))
      have ht_M2 : FR W_c_PacketWall_tick_x T M2 := FR.t ht_M hf_M2 (kw_sub rfl)
      refine jr.iconst rfl ?_
      refine jr.istore_n rfl (by decide) rfl ?_
      have e3 : M2 15 0 = V := (hf_M2.g (show kd 15 = 9 from rfl) rfl).trans g_V
      have e4 : M2 0 8 = v1 := (hf_M2.g (show kd 0 = 35 from rfl) rfl).trans e1
      refine jr.pick [1, 2, 0, 3] rfl rfl ?_
      exact c_PacketWall_tick_x_L83  q 4 M2 b 0 hC_M2 ht_M2 (by omega) (by omega) (by omega) e3 (by have hq0 : M2 0 8 = v1 := e4; omega) (TGA.e (by have h9 := hy1; rw [show i = 8 from by omega] at h9; exact h9) (fun g g0 g1 => hf_M2.g (kGa g0 g1) rfl)) (TFA.t hy2 (by have h9 := w2_0; rw [show v1 = S + x from by omega] at h9; exact h9) (fun f f0 f1 => ht_M.g (kV (by omega) f0 f1) rfl)) (by omega)
    · refine jr.aload_n rfl rfl ?_
      refine jr.getf (i := 5) (v := .ref 10) rfl rfl (by decide) rfl (by decide) rfl rfl rfl rfl ?_
      refine jr.iload_n rfl rfl ?_
      have k5 := kxe_40 (a := 10) rfl (i := i) (by omega) (by omega)
      refine jr.aald (c := (xe 10 i)) rfl (by decide) rfl (by decide) (by decide) rfl (by decide) (by omega) (by omega) k5.1 ?_
      obtain ⟨v6, e6⟩ : ∃ z_, M ((xe 10 i)) 6 = z_ := ⟨_, rfl⟩
      have b6 : (-2147483648) ≤ v6 ∧ v6 ≤ 2147483647 := by rw [← e6]; exact (CI.r hC_M k5.2 (by decide) 6)
      refine jr.getf (i := 6) (x := v6) (v := .int (Int32.ofInt (v6))) rfl rfl (Nat.lt_trans (kx_15 k5.2).1 (by decide)) (kx_15 k5.2).2 (by decide) rfl rfl e6 rfl ?_
      refine jr.aload_n rfl rfl ?_
      refine jr.getf (i := 8) (x := v1) (v := .int (Int32.ofInt (v1))) rfl rfl (by decide) rfl (by decide) rfl rfl e1 rfl ?_
      refine jr.icmp_gt rfl rfl (by omega) (by omega) (fun h51 => ?_) (fun h51 => ?_)
      · refine jr.iinc rfl rfl (by decide) rfl ?_
        refine jr.goto rfl rfl ?_
        refine jr.pick [1, 2, 0, 3] rfl rfl ?_
        exact ih (nM - 1) (by omega) M b (i + 1) hC_M ht_M (by omega) (by omega) (by omega) g_V (by have hq0 : M 0 8 = v1 := e1; omega) (TGA.s0 hy1 (by rw [(show T (xe 10 i) 6 = _ from (ht_M.g (kGa (by omega) (by omega)) rfl).symm.trans e6)]; omega)) hy2 (by omega)
      · refine jr.aload_n rfl rfl ?_
        refine jr.getf (i := 5) (v := .ref 10) rfl rfl (by decide) rfl (by decide) rfl rfl rfl rfl ?_
        refine jr.iload_n rfl rfl ?_
        have k7 := kxe_40 (a := 10) rfl (i := i) (by omega) (by omega)
        refine jr.aald (c := (xe 10 i)) rfl (by decide) rfl (by decide) (by decide) rfl (by decide) (by omega) (by omega) k7.1 ?_
        refine jr.iconst rfl ?_
        refine jr.putf (i := 0) (x := 0) rfl rfl (Nat.lt_trans (kx_15 k7.2).1 (by decide)) (kx_15 k7.2).2 (by decide) rfl rfl rfl rfl rfl ?_
        refine jr.iinc rfl rfl (by decide) rfl ?_
        refine jr.goto rfl rfl ?_
        refine jr.pick [1, 2, 0, 3] rfl rfl ?_
        exact ih (nM - 1) (by omega) ((ju M ((xe 10 i)) 0 0)) b (i + 1) (CI.u hC_M (i := 0) k7.2 (show (0 : Int) ≤ _ ∧ _ ≤ (1 : Int) from by omega) rfl) (FR.o ht_M k7.2 rfl) (by omega) (by omega) (by omega) ((ju_c _ _ (kd_ne (by rw [(show kd 15 = 9 from rfl), k7.2]; decide))).trans g_V) (by have hq0 : (ju M ((xe 10 i)) 0 0) 0 8 = v1 := ((ju_i _ _ (by decide)).trans e1); omega) (TGA.s1 hy1 (by omega) (by rw [(show T (xe 10 i) 6 = _ from (ht_M.g (kGa (by omega) (by omega)) rfl).symm.trans e6)]; omega)) (TFA.e hy2 (fun f f0 f1 => ju_c _ _ (kd_ne (by rw [kV (by omega) f0 f1, kGa (by omega) (by omega)]; decide)))) (by omega)
theorem c_PacketWall_tick_x {A : Nat → Option (Nat × (Nat → Int32))} {Q : Option Value → jm → Prop} {T : jm} {M : jm} (hC_M : CI M) (ht_M : FR W_c_PacketWall_tick_x T M) {x : Int} (h_x : (-2147483648) ≤ x ∧ x ≤ 2147483647) {S : Int} (g_S : M 0 8 = S) {V : Int} (g_V : M 15 0 = V) (p0 : T = M) (p1 : 0 ≤ S ∧ S ≤ 2000000000) (q : ∀ (r : Int) (M' : jm), CI M' → FR W_c_PacketWall_tick_x T M' → (-2147483648) ≤ r ∧ r ≤ 2147483647 → (((1 ≤ x ∧ x ≤ 1000) ∧ r = S + x ∧ M' 0 8 = S + x ∧ TGA T M' (S + x) 8 ∧ TFA T M' V.toNat (S + x) 24) ∨ (¬ (1 ≤ x ∧ x ≤ 1000) ∧ r = -3 ∧ M' = T)) → Q (some (.int (Int32.ofInt r))) M') : jc A 2 18 [.ref (0), .int (Int32.ofInt (x))] M Q := by
  refine jc_of (m := xm_18) rfl (Nat.le_of_ble_eq_true rfl) rfl ?_
  have b_S : (-2147483648) ≤ S ∧ S ≤ 2147483647 := by rw [← g_S]; exact (CI.r hC_M (show kd 0 = 35 from rfl) (by decide) 8)
  have b_V : 16 ≤ V ∧ V ≤ 17 := by rw [← g_V]; exact (CI.r hC_M (show kd 15 = 9 from rfl) (by decide) 0)
  refine jr.iload_n rfl rfl ?_
  refine jr.iconst rfl ?_
  refine jr.icmp_lt rfl rfl (by omega) (by omega) (fun h2 => ?_) (fun h2 => ?_)
  · refine jr.bipush rfl (by decide) ?_
    exact jr.ireturn rfl rfl rfl (q _ _ hC_M ht_M (by omega) (Or.inr ⟨by omega, by omega, p0.symm⟩))
  · refine jr.iload_n rfl rfl ?_
    refine jr.sipush rfl (by decide) ?_
    refine jr.icmp_le rfl rfl (by omega) (by omega) (fun h9 => ?_) (fun h9 => ?_)
    · refine jr.aload_n rfl rfl ?_
      refine jr.getf (i := 8) (x := S) (v := .int (Int32.ofInt (S))) rfl rfl (by decide) rfl (by decide) rfl rfl g_S rfl ?_
      refine jr.istore_n rfl (by decide) rfl ?_
      refine jr.aload_n rfl rfl ?_
      refine jr.dup rfl rfl ?_
      refine jr.getf (i := 8) (x := S) (v := .int (Int32.ofInt (S))) rfl rfl (by decide) rfl (by decide) rfl rfl g_S rfl ?_
      refine jr.iload_n rfl rfl ?_
      refine jr.iadd rfl ?_
      refine jr.putf (i := 8) (x := (S + x)) rfl rfl (by decide) rfl (by decide) rfl rfl rfl rfl rfl ?_
      refine jr.iconst rfl ?_
      refine jr.istore_n rfl (by decide) rfl ?_
      refine jr.pick [3, 1, 0, 2] rfl rfl ?_
      exact c_PacketWall_tick_x_L32  q 8 ((ju M 0 8 (S + x))) S 0 (CI.u hC_M (i := 8) (show kd 0 = 35 from rfl) (show (-2147483648 : Int) ≤ _ ∧ _ ≤ (2147483647 : Int) from by omega) rfl) (FR.o ht_M (show kd 0 = 35 from rfl) rfl) (by omega) (by omega) (by omega) ((ju_c _ _ (by decide)).trans g_V) (by have hq0 : (ju M 0 8 (S + x)) 0 8 = S + x := (ju_same _ _ _ _); omega) (by rw [p0]; exact TGA.e TGA.z (fun g g0 g1 => ju_c _ _ (by have q := xgx (g := g) ⟨g0, g1⟩; omega))) (by rw [p0]; exact TFA.e TFA.z (fun f f0 f1 => ju_c _ _ (by have q := xfl (V := V) (i := f) (by omega) ⟨f0, f1⟩; omega))) (by omega)
    · refine jr.bipush rfl (by decide) ?_
      exact jr.ireturn rfl rfl rfl (q _ _ hC_M ht_M (by omega) (Or.inr ⟨by omega, by omega, p0.symm⟩))
