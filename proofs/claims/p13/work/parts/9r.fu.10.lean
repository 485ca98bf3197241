section
theorem c_Flow_layRow_x_L62 {A : Nat → Option (Nat × (Nat → Int32))} {Q : Option Value → jm → Prop} {T : jm} {t : Nat} (k_t : kd t = 1) {y : Int} {z : Int} (q : ∀ (M' : jm), CI M' → FR W_c_Flow_layRow_x T M' → (M' 1 = rwl (T 1) y (rcB T t z) ∧ ∀ (b : Nat) (k : Int), b ≠ 1 → M' b k = T b k) → Q none M') : ∀ (nM : Nat) (M : jm) (a_ : Int), CI M → FR W_c_Flow_layRow_x T M → 0 ≤ y ∧ y ≤ 1552 → 0 ≤ z ∧ z ≤ 2000000000 → 0 ≤ a_ ∧ a_ ≤ 240 → (a_ = flgF T t) → (M = T) → 0 ≤ nM → jr A 2 xm_64 62 [(2, .int (Int32.ofInt (y))), (3, .int (Int32.ofInt (z))), (4, .int (Int32.ofInt (a_))), (0, .ref (t)), (1, .ref (1))] [] M Q := by
  intro nM
  induction nM using Nat.strongRecOn with
  | ind nM ih =>
    intro M a_ hC_M ht_M h_y h_z h_a_ hy0 hy1 hm
    refine jr.aload_n rfl rfl ?_
    refine jr.iload_n rfl rfl ?_
    refine jr.iconst rfl ?_
    refine jr.aload_n rfl rfl ?_
    obtain ⟨v1, e1⟩ : ∃ z_, M t 2 = z_ := ⟨_, rfl⟩
    have b1 : (-2147483648) ≤ v1 ∧ v1 ≤ 2147483647 := by rw [← e1]; exact (CI.r hC_M k_t (by decide) 2)
    refine jr.getf (i := 2) (x := v1) (v := .int (Int32.ofInt (v1))) rfl rfl (Nat.lt_trans (kx_1 k_t).1 (by decide)) (kx_1 k_t).2 (by decide) rfl rfl e1 rfl ?_
    refine jr.i2l rfl (by omega) ?_
    refine jr_s rfl rfl (Or.inr rfl) ⟨Nat.le_of_ble_eq_true rfl, Nat.le_of_ble_eq_true rfl⟩ rfl rfl (jc.deep (c_PacketWall_putNumber_tf hC_M (FR.rfl _ M) (show kd 1 = 43 from rfl) (by omega) (by omega) (by omega) rfl (fun M2 hC_M2 hf_M2 w2_0 => ?_)) (by decide))
    have ht_M2 : FR W_c_Flow_layRow_x T M2 := FR.t ht_M hf_M2 (kw_sub rfl)
    refine jr.aload_n rfl rfl ?_
    refine jr.iload_n rfl rfl ?_
    refine jr.iconst rfl ?_
    refine jr.iadd rfl ?_
    refine jr.iconst rfl ?_
    refine jr.aload_n rfl rfl ?_
    obtain ⟨v3, e3⟩ : ∃ z_, M t 5 = z_ := ⟨_, rfl⟩
    have b3 : (-2147483648) ≤ v3 ∧ v3 ≤ 2147483647 := by rw [← e3]; exact (CI.r hC_M k_t (by decide) 5)
    have e4 : M2 t 5 = v3 := (hf_M2.g k_t rfl).trans e3
    refine jr.getf (i := 5) (x := v3) (v := .int (Int32.ofInt (v3))) rfl rfl (Nat.lt_trans (kx_1 k_t).1 (by decide)) (kx_1 k_t).2 (by decide) rfl rfl e4 rfl ?_
    refine jr.iload rfl rfl ?_
    refine jr.iadd rfl ?_
    refine jr.iw (j_w (v3 + a_)) (j_w_eq _) ?_
    have b5 : -2147483648 ≤ j_w (v3 + a_) ∧ j_w (v3 + a_) ≤ 2147483647 := jb_any _
    refine jr.i2l rfl (by omega) ?_
    refine jr_s rfl rfl (Or.inr rfl) ⟨Nat.le_of_ble_eq_true rfl, Nat.le_of_ble_eq_true rfl⟩ rfl rfl (jc.deep (c_PacketWall_putNumber_tf hC_M2 (FR.rfl _ M2) (show kd 1 = 43 from rfl) (by omega) (by omega) (by omega) rfl (fun M6 hC_M6 hf_M6 w6_0 => ?_)) (by decide))
    have ht_M6 : FR W_c_Flow_layRow_x T M6 := FR.t ht_M2 hf_M6 (kw_sub rfl)
    refine jr.iconst rfl ?_
    refine jr.istore (ls' := [_, _, _, _, _, _]) rfl (by decide) rfl ?_
    refine jr.pick (ls := [_, _, _, _, _]) [1, 2, 0, 4, 5] rfl rfl ?_
    exact c_Flow_layRow_x_L92 k_t q 2 M6 0 hC_M6 ht_M6 (by omega) (by omega) (by omega) (by rw [w6_0.pt (by omega), w2_0.pt (by omega), ← hy0, ← hy1, e1, e3]; rfl) (fun b k hb => ((w6_0.2 b k hb).trans ((w2_0.2 b k hb).trans (by rw [hy1])))) (by omega)
end
