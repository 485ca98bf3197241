theorem c_Parser_exp {A : Nat → Option (Nat × (Nat → Int32))} [HA A] {n : Nat} (ihP : PX A n) : PX_exp A (n + 1) := by
  intro Q G T M hC_M ht_M x h_x y h_y F g_F p0 p1 p2 p3 q
  refine jc_of (m := xm_203) rfl (Nat.le_of_ble_eq_true rfl) rfl ?_
  have b_F : (-2147483648) ≤ F ∧ F ≤ 2147483647 := by rw [← g_F]; exact (CI.r hC_M (show kd 413 = 44 from rfl) (by decide) 0)
  obtain ⟨v1, e1⟩ : ∃ z_, M 413 3 = z_ := ⟨_, rfl⟩
  have b1 : 1 ≤ v1 ∧ v1 ≤ 419 := by rw [← e1]; exact (CI.r hC_M (show kd 413 = 44 from rfl) (by decide) 3)
  have b2 : 1 ≤ v1 ∧ v1 ≤ 1 := by rw [← e1]; exact p0
  have e3 : M 413 0 = F := g_F
  refine jr.iload_n rfl rfl ?_
  refine jr.iconst rfl ?_
  refine jr.icmp_le rfl rfl (by omega) (by omega) (fun h2 => ?_) (fun h2 => ?_)
  · refine jr.aload_n rfl rfl ?_
    refine jr.iload_n rfl rfl ?_
    refine jr.iconst rfl ?_
    refine jr.iadd rfl ?_
    refine jr.iload_n rfl rfl ?_
    refine jr_v rfl rfl (Or.inl rfl) rfl rfl (by decide) rfl ⟨rfl, Nat.le_of_ble_eq_true rfl, Nat.le_of_ble_eq_true rfl⟩ rfl (jc.deep (ihP.2.2.1 hC_M (FR.rfl _ M) (by omega) (by omega) g_F (by have hq0 : M 413 3 = v1 := e1; omega) (by have hq0 : M 413 0 = F := g_F; omega) p2 (by omega) (fun M4 hC_M4 hf_M4 w4_0 w4_1 => ?_)) (by omega))
    have ht_M4 : FR W_par T M4 := FR.t ht_M hf_M4 (kw_sub rfl)
    obtain ⟨v5, e5⟩ : ∃ z_, M4 413 0 = z_ := ⟨_, rfl⟩
    have b5 : (-2147483648) ≤ v5 ∧ v5 ≤ 2147483647 := by rw [← e5]; exact (CI.r hC_M4 (show kd 413 = 44 from rfl) (by decide) 0)
    refine jr.iconst rfl ?_
    refine jr.istore_n (ls' := [_, _, _, _]) rfl (by decide) rfl ?_
    have e6 : M4 413 3 = v1 := (hf_M4.g (show kd 413 = 44 from rfl) rfl).trans e1
    refine jr.pick (ls := [_, _, _, _]) [2, 3, 0, 1] rfl rfl ?_
    exact c_Parser_exp_L21 ihP  q 1601 M4 0 hC_M4 ht_M4 (by omega) (by omega) (by omega) (by have hq0 : M4 413 3 = v1 := e6; omega) (by have hq0 : M4 413 0 = v5 := e5; omega) (by have hq0 : M4 413 0 = v5 := e5; omega) w4_0 (by omega) (by omega)
  · refine jr.aload_n rfl rfl ?_
    refine jr.iload_n rfl rfl ?_
    refine jr_v rfl rfl (Or.inl rfl) rfl rfl (by decide) rfl ⟨rfl, Nat.le_of_ble_eq_true rfl, Nat.le_of_ble_eq_true rfl⟩ rfl (jc.deep (ihP.2.1 hC_M (FR.rfl _ M) (by omega) g_F (by have hq0 : M 413 3 = v1 := e1; omega) (by have hq0 : M 413 0 = F := g_F; omega) p2 (by omega) (fun M7 hC_M7 hf_M7 w7_0 w7_1 => ?_)) (by omega))
    have ht_M7 : FR W_par T M7 := FR.t ht_M hf_M7 (kw_sub rfl)
    obtain ⟨v8, e8⟩ : ∃ z_, M7 413 0 = z_ := ⟨_, rfl⟩
    have b8 : (-2147483648) ≤ v8 ∧ v8 ≤ 2147483647 := by rw [← e8]; exact (CI.r hC_M7 (show kd 413 = 44 from rfl) (by decide) 0)
    exact jr.vreturn rfl rfl (q _ hC_M7 ht_M7  w7_0 (by have hq0 : M7 413 0 = v8 := e8; omega))
theorem c_Parser_exps_L2 {A : Nat → Option (Nat × (Nat → Int32))} [HA A] {Q : Option Value → jm → Prop} {G : Nat → Int → Int} {T : jm} {n : Nat} (ihP : PX A n) {x : Int} {y : Int} (q : ∀ (M' : jm), CI M' → FR W_par T M' → (MP M' G) → Q none M') : ∀ (nM : Nat) (M : jm) (i : Int), CI M → FR W_par T M → 0 ≤ x ∧ x ≤ 5 → 0 ≤ y ∧ y ≤ 13 → 0 ≤ i ∧ i ≤ 5 → (1 ≤ M 413 3 ∧ M 413 3 ≤ 1) → (y ≤ 12 ∨ M 413 0 ≠ 0) → (MP M G) → (20 * (13 - y) + 9 ≤ ((n + 1 : Nat) : Int)) → 5 - i ≤ nM → jr A (n + 60) xm_202 2 [(1, .int (Int32.ofInt (x))), (2, .int (Int32.ofInt (y))), (3, .int (Int32.ofInt (i))), (0, .ref (413))] [] M Q := by
  intro nM
  induction nM using Nat.strongRecOn with
  | ind nM ih =>
    intro M i hC_M ht_M h_x h_y h_i hy0 hy1 hy2 hy3 hm
    obtain ⟨v1, e1⟩ : ∃ z_, M 413 3 = z_ := ⟨_, rfl⟩
    have b1 : 1 ≤ v1 ∧ v1 ≤ 419 := by rw [← e1]; exact (CI.r hC_M (show kd 413 = 44 from rfl) (by decide) 3)
    have b2 : 1 ≤ v1 ∧ v1 ≤ 1 := by rw [← e1]; exact hy0
    obtain ⟨v3, e3⟩ : ∃ z_, M 413 0 = z_ := ⟨_, rfl⟩
    have b3 : (-2147483648) ≤ v3 ∧ v3 ≤ 2147483647 := by rw [← e3]; exact (CI.r hC_M (show kd 413 = 44 from rfl) (by decide) 0)
    refine jr.iload_n rfl rfl ?_
    refine jr.iload_n rfl rfl ?_
    refine jr.icmp_ge rfl rfl (by omega) (by omega) (fun h4 => ?_) (fun h4 => ?_)
    · exact jr.vreturn rfl rfl (q _ hC_M ht_M  hy2)
    · refine jr.aload_n rfl rfl ?_
      refine jr.getf (i := 0) (x := v3) (v := .int (Int32.ofInt (v3))) rfl rfl (by decide) rfl (by decide) rfl rfl e3 rfl ?_
      refine jr.if_ne rfl rfl (by omega) (fun h11 => ?_) (fun h11 => ?_)
      · exact jr.vreturn rfl rfl (q _ hC_M ht_M  hy2)
      · refine jr.iload_n rfl rfl ?_
        refine jr.if_le rfl rfl (by omega) (fun h15 => ?_) (fun h15 => ?_)
        · refine jr.aload_n rfl rfl ?_
          refine jr.iconst rfl ?_
          refine jr.iload_n rfl rfl ?_
          refine jr_v rfl rfl (Or.inl rfl) rfl rfl (by decide) rfl ⟨rfl, Nat.le_of_ble_eq_true rfl, Nat.le_of_ble_eq_true rfl⟩ rfl (jc.deep (ihP.2.2.1 hC_M (FR.rfl _ M) (by omega) (by omega) e3 (by have hq0 : M 413 3 = v1 := e1; omega) (by have hq0 : M 413 0 = v3 := e3; omega) hy2 (by omega) (fun M4 hC_M4 hf_M4 w4_0 w4_1 => ?_)) (by omega))
          have ht_M4 : FR W_par T M4 := FR.t ht_M hf_M4 (kw_sub rfl)
          obtain ⟨v5, e5⟩ : ∃ z_, M4 413 0 = z_ := ⟨_, rfl⟩
          have b5 : (-2147483648) ≤ v5 ∧ v5 ≤ 2147483647 := by rw [← e5]; exact (CI.r hC_M4 (show kd 413 = 44 from rfl) (by decide) 0)
          refine jr.iinc rfl rfl (by decide) rfl ?_
          refine jr.goto rfl rfl ?_
          have e6 : M4 413 3 = v1 := (hf_M4.g (show kd 413 = 44 from rfl) rfl).trans e1
          refine jr.pick [1, 2, 0, 3] rfl rfl ?_
          exact ih (nM - 1) (by omega) M4 (i + 1) hC_M4 ht_M4 (by omega) (by omega) (by omega) (by have hq0 : M4 413 3 = v1 := e6; omega) (by have hq0 : M4 413 0 = v5 := e5; omega) w4_0 (by omega) (by omega)
        · refine jr.aload_n rfl rfl ?_
          refine jr.bipush rfl (by decide) ?_
          refine jr_v rfl rfl (Or.inl rfl) rfl rfl (by decide) rfl ⟨rfl, Nat.le_of_ble_eq_true rfl, Nat.le_of_ble_eq_true rfl⟩ rfl (jc.deep (c_Parser_expect hC_M (FR.rfl _ M) (by omega) (by have hq0 : M 413 3 = v1 := e1; omega) (fun M7 hC_M7 hf_M7  => ?_)) (by omega))
          have ht_M7 : FR W_par T M7 := FR.t ht_M hf_M7 (kw_sub rfl)
          refine jr.aload_n rfl rfl ?_
          refine jr.iconst rfl ?_
          refine jr.iload_n rfl rfl ?_
          obtain ⟨v9, e9⟩ : ∃ z_, M7 413 0 = z_ := ⟨_, rfl⟩
          have b9 : (-2147483648) ≤ v9 ∧ v9 ≤ 2147483647 := by rw [← e9]; exact (CI.r hC_M7 (show kd 413 = 44 from rfl) (by decide) 0)
          have e10 : M7 413 3 = v1 := (hf_M7.g (show kd 413 = 44 from rfl) rfl).trans e1
          refine jr_v rfl rfl (Or.inl rfl) rfl rfl (by decide) rfl ⟨rfl, Nat.le_of_ble_eq_true rfl, Nat.le_of_ble_eq_true rfl⟩ rfl (jc.deep (ihP.2.2.1 hC_M7 (FR.rfl _ M7) (by omega) (by omega) e9 (by have hq0 : M7 413 3 = v1 := e10; omega) (by have hq0 : M7 413 0 = v9 := e9; omega) (MP.fr hy2 hC_M hf_M7 rfl) (by omega) (fun M8 hC_M8 hf_M8 w8_0 w8_1 => ?_)) (by omega))
          have ht_M8 : FR W_par T M8 := FR.t ht_M7 hf_M8 (kw_sub rfl)
          obtain ⟨v11, e11⟩ : ∃ z_, M8 413 0 = z_ := ⟨_, rfl⟩
          have b11 : (-2147483648) ≤ v11 ∧ v11 ≤ 2147483647 := by rw [← e11]; exact (CI.r hC_M8 (show kd 413 = 44 from rfl) (by decide) 0)
          refine jr.iinc rfl rfl (by decide) rfl ?_
          refine jr.goto rfl rfl ?_
          have e12 : M8 413 3 = v1 := (hf_M8.g (show kd 413 = 44 from rfl) rfl).trans e10
          refine jr.pick [1, 2, 0, 3] rfl rfl ?_
          exact ih (nM - 1) (by omega) M8 (i + 1) hC_M8 ht_M8 (by omega) (by omega) (by omega) (by have hq0 : M8 413 3 = v1 := e12; omega) (by have hq0 : M8 413 0 = v11 := e11; omega) w8_0 (by omega) (by omega)
theorem c_Parser_exps {A : Nat → Option (Nat × (Nat → Int32))} [HA A] {n : Nat} (ihP : PX A n) : PX_exps A (n + 1) := by
  intro Q G T M hC_M ht_M x h_x y h_y  p0 p1 p2 p3 q
  refine jc_of (m := xm_202) rfl (Nat.le_of_ble_eq_true rfl) rfl ?_
  obtain ⟨v1, e1⟩ : ∃ z_, M 413 3 = z_ := ⟨_, rfl⟩
  have b1 : 1 ≤ v1 ∧ v1 ≤ 419 := by rw [← e1]; exact (CI.r hC_M (show kd 413 = 44 from rfl) (by decide) 3)
  have b2 : 1 ≤ v1 ∧ v1 ≤ 1 := by rw [← e1]; exact p0
  obtain ⟨v3, e3⟩ : ∃ z_, M 413 0 = z_ := ⟨_, rfl⟩
  have b3 : (-2147483648) ≤ v3 ∧ v3 ≤ 2147483647 := by rw [← e3]; exact (CI.r hC_M (show kd 413 = 44 from rfl) (by decide) 0)
  refine jr.iconst rfl ?_
  refine jr.istore_n (ls' := [_, _, _, _]) rfl (by decide) rfl ?_
  refine jr.pick (ls := [_, _, _, _]) [2, 3, 0, 1] rfl rfl ?_
  exact c_Parser_exps_L2 ihP  q 5 M 0 hC_M ht_M (by omega) (by omega) (by omega) (by have hq0 : M 413 3 = v1 := e1; omega) (by have hq0 : M 413 0 = v3 := e3; omega) p2 (by omega) (by omega)
