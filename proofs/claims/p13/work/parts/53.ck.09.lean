theorem c_Parser_block_L9 {A : Nat → Option (Nat × (Nat → Int32))} [HA A] {Q : Option Value → jm → Prop} {G : Nat → Int → Int} {T : jm} {n : Nat} (ihP : PX A n) {x : Int} {y : Int} (q : ∀ (M' : jm), CI M' → FR W_par T M' → (MP M' G) → Q none M') : ∀ (nM : Nat) (M : jm) (i : Int), CI M → FR W_par T M → 0 ≤ x ∧ x ≤ 12 → 0 ≤ y ∧ y ≤ 1 → 0 ≤ i ∧ i ≤ 1601 → (1 ≤ M 413 3 ∧ M 413 3 ≤ 1) → (x ≤ 11 ∨ M 413 0 ≠ 0) → (MP M G) → (20 * (13 - x) + 10 ≤ ((n + 1 : Nat) : Int)) → 1601 - i ≤ nM → jr A (n + 60) xm_198 9 [(1, .int (Int32.ofInt (x))), (2, .int (Int32.ofInt (y))), (3, .int (Int32.ofInt (i))), (0, .ref (413))] [] M Q := by
  intro nM
  induction nM using Nat.strongRecOn with
  | ind nM ih =>
    intro M i hC_M ht_M h_x h_y h_i hy0 hy1 hy2 hy3 hm
    obtain ⟨v1, e1⟩ : ∃ z_, M 413 3 = z_ := ⟨_, rfl⟩
    have b1 : 1 ≤ v1 ∧ v1 ≤ 419 := by rw [← e1]; exact (CI.r hC_M (show kd 413 = 44 from rfl) (by decide) 3)
    have b2 : 1 ≤ v1 ∧ v1 ≤ 1 := by rw [← e1]; exact hy0
    obtain ⟨v3, e3⟩ : ∃ z_, M 413 0 = z_ := ⟨_, rfl⟩
    have b3 : (-2147483648) ≤ v3 ∧ v3 ≤ 2147483647 := by rw [← e3]; exact (CI.r hC_M (show kd 413 = 44 from rfl) (by decide) 0)
    refine jr.iload_n rfl rfl ?_
    refine jr.aload_n rfl rfl ?_
    obtain ⟨v4, e4⟩ : ∃ z_, M 413 4 = z_ := ⟨_, rfl⟩
    have b4 : 0 ≤ v4 ∧ v4 ≤ 1600 := by rw [← e4]; exact (CI.r hC_M (show kd 413 = 44 from rfl) (by decide) 4)
    refine jr.getf (i := 4) (x := v4) (v := .int (Int32.ofInt (v4))) rfl rfl (by decide) rfl (by decide) rfl rfl e4 rfl ?_
    refine jr.icmp_gt rfl rfl (by omega) (by omega) (fun h14 => ?_) (fun h14 => ?_)
    · refine jr.aload_n rfl rfl ?_
      refine jr.bipush rfl (by decide) ?_
      refine jr_v rfl rfl (Or.inl rfl) rfl rfl (by decide) rfl ⟨rfl, Nat.le_of_ble_eq_true rfl, Nat.le_of_ble_eq_true rfl⟩ rfl (jc.deep (c_Parser_expect hC_M (FR.rfl _ M) (by omega) (by have hq0 : M 413 3 = v1 := e1; omega) (fun M5 hC_M5 hf_M5  => ?_)) (by omega))
      have ht_M5 : FR W_par T M5 := FR.t ht_M hf_M5 (kw_sub rfl)
      exact jr.vreturn rfl rfl (q _ hC_M5 ht_M5  (MP.fr hy2 hC_M hf_M5 rfl))
    · refine jr.aload_n rfl rfl ?_
      refine jr.getf (i := 0) (x := v3) (v := .int (Int32.ofInt (v3))) rfl rfl (by decide) rfl (by decide) rfl rfl e3 rfl ?_
      refine jr.if_ne rfl rfl (by omega) (fun h21 => ?_) (fun h21 => ?_)
      · refine jr.aload_n rfl rfl ?_
        refine jr.bipush rfl (by decide) ?_
        refine jr_v rfl rfl (Or.inl rfl) rfl rfl (by decide) rfl ⟨rfl, Nat.le_of_ble_eq_true rfl, Nat.le_of_ble_eq_true rfl⟩ rfl (jc.deep (c_Parser_expect hC_M (FR.rfl _ M) (by omega) (by have hq0 : M 413 3 = v1 := e1; omega) (fun M6 hC_M6 hf_M6  => ?_)) (by omega))
        have ht_M6 : FR W_par T M6 := FR.t ht_M hf_M6 (kw_sub rfl)
        exact jr.vreturn rfl rfl (q _ hC_M6 ht_M6  (MP.fr hy2 hC_M hf_M6 rfl))
      · refine jr.aload_n rfl rfl ?_
        refine jr.bipush rfl (by decide) ?_
        refine jr_v rfl rfl (Or.inl rfl) rfl rfl (by decide) rfl ⟨rfl, Nat.le_of_ble_eq_true rfl, Nat.le_of_ble_eq_true rfl⟩ rfl (jc.deep (c_Parser_isSign hC_M (by omega) (fun r7 z7  => ?_)) (by omega))
        refine jr.if_ne rfl rfl (by omega) (fun h30 => ?_) (fun h30 => ?_)
        · have sx30 : (1 : Int) ≤ r7 := by omega
          clear h30
          refine jr.aload_n rfl rfl ?_
          refine jr.bipush rfl (by decide) ?_
          refine jr_v rfl rfl (Or.inl rfl) rfl rfl (by decide) rfl ⟨rfl, Nat.le_of_ble_eq_true rfl, Nat.le_of_ble_eq_true rfl⟩ rfl (jc.deep (c_Parser_expect hC_M (FR.rfl _ M) (by omega) (by have hq0 : M 413 3 = v1 := e1; omega) (fun M8 hC_M8 hf_M8  => ?_)) (by omega))
          have ht_M8 : FR W_par T M8 := FR.t ht_M hf_M8 (kw_sub rfl)
          exact jr.vreturn rfl rfl (q _ hC_M8 ht_M8  (MP.fr hy2 hC_M hf_M8 rfl))
        · refine jr.aload_n rfl rfl ?_
          refine jr.iload_n rfl rfl ?_
          refine jr.iconst rfl ?_
          refine jr.iadd rfl ?_
          refine jr.iload_n rfl rfl ?_
          refine jr_v rfl rfl (Or.inl rfl) rfl rfl (by decide) rfl ⟨rfl, Nat.le_of_ble_eq_true rfl, Nat.le_of_ble_eq_true rfl⟩ rfl (jc.deep (ihP.2.2.2.2.2.2 hC_M (FR.rfl _ M) (by omega) (by omega) (by have hq0 : M 413 3 = v1 := e1; omega) hy2 (by omega) (fun M9 hC_M9 hf_M9 w9_0 => ?_)) (by omega))
          have ht_M9 : FR W_par T M9 := FR.t ht_M hf_M9 (kw_sub rfl)
          refine jr.iinc rfl rfl (by decide) rfl ?_
          refine jr.goto rfl rfl ?_
          have e10 : M9 413 3 = v1 := (hf_M9.g (show kd 413 = 44 from rfl) rfl).trans e1
          obtain ⟨v11, e11⟩ : ∃ z_, M9 413 0 = z_ := ⟨_, rfl⟩
          have b11 : (-2147483648) ≤ v11 ∧ v11 ≤ 2147483647 := by rw [← e11]; exact (CI.r hC_M9 (show kd 413 = 44 from rfl) (by decide) 0)
          refine jr.pick [1, 2, 0, 3] rfl rfl ?_
          exact ih (nM - 1) (by omega) M9 (i + 1) hC_M9 ht_M9 (by omega) (by omega) (by omega) (by have hq0 : M9 413 3 = v1 := e10; omega) (by have hq0 : M9 413 0 = v11 := e11; omega) w9_0 (by omega) (by omega)
theorem c_Parser_block {A : Nat → Option (Nat × (Nat → Int32))} [HA A] {n : Nat} (ihP : PX A n) : PX_block A (n + 1) := by
  intro Q G T M hC_M ht_M x h_x y h_y  p0 p1 p2 q
  refine jc_of (m := xm_198) rfl (Nat.le_of_ble_eq_true rfl) rfl ?_
  obtain ⟨v1, e1⟩ : ∃ z_, M 413 3 = z_ := ⟨_, rfl⟩
  have b1 : 1 ≤ v1 ∧ v1 ≤ 419 := by rw [← e1]; exact (CI.r hC_M (show kd 413 = 44 from rfl) (by decide) 3)
  have b2 : 1 ≤ v1 ∧ v1 ≤ 1 := by rw [← e1]; exact p0
  refine jr.aload_n rfl rfl ?_
  refine jr.bipush rfl (by decide) ?_
  refine jr.iload_n rfl rfl ?_
  refine jr_v rfl rfl (Or.inl rfl) rfl rfl (by decide) rfl ⟨rfl, Nat.le_of_ble_eq_true rfl, Nat.le_of_ble_eq_true rfl⟩ rfl (jc.deep (c_Parser_open hC_M (FR.rfl _ M) (by omega) (by omega) (by have hq0 : M 413 3 = v1 := e1; omega) (fun M3 hC_M3 hf_M3 w3_0 => ?_)) (by omega))
  have ht_M3 : FR W_par T M3 := FR.t ht_M hf_M3 (kw_sub rfl)
  obtain ⟨v4, e4⟩ : ∃ z_, M3 413 0 = z_ := ⟨_, rfl⟩
  have b4 : (-2147483648) ≤ v4 ∧ v4 ≤ 2147483647 := by rw [← e4]; exact (CI.r hC_M3 (show kd 413 = 44 from rfl) (by decide) 0)
  refine jr.iconst rfl ?_
  refine jr.istore_n (ls' := [_, _, _, _]) rfl (by decide) rfl ?_
  have e5 : M3 413 3 = v1 := (hf_M3.g (show kd 413 = 44 from rfl) rfl).trans e1
  refine jr.pick (ls := [_, _, _, _]) [2, 3, 0, 1] rfl rfl ?_
  exact c_Parser_block_L9 ihP  q 1601 M3 0 hC_M3 ht_M3 (by omega) (by omega) (by omega) (by have hq0 : M3 413 3 = v1 := e5; omega) (by have hq0 : M3 413 0 = v4 := e4; omega) (MP.fr p1 hC_M hf_M3 rfl) (by omega) (by omega)
