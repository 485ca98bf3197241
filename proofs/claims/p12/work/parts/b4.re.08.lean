section
/-! ===== the class: verdict leaves the flows alone ===== -/
noncomputable def OL (T M : jm) : Prop := ∀ (b : Nat) (k : Int), 29 ≤ b → b ≤ 412 → M b k = T b k
noncomputable def O3 (T M : jm) : Prop := ∀ (b : Nat) (k : Int), b ≠ 18 → b ≠ 19 → b ≠ 20 → M b k = T b k
theorem kfl0 : ∀ n : Nat, n < 384 → 1 ≤ kd (29 + n) ∧ kd (29 + n) ≤ 8 := by decide +kernel
theorem kw_fl {W : List (Nat × Nat)} (h : W.all (fun w => Nat.ble 9 w.1) = true) {k : Nat} (hk : k ≤ 8) (i : Int) : kw W k i = false := by
  induction W with
  | nil => rfl
  | cons w r ih =>
    rw [List.all_cons, Bool.and_eq_true] at h
    unfold kw
    rw [ih h.2, Bool.or_false]
    unfold kh
    have a := Nat.le_of_ble_eq_true h.1
    cases e : Nat.beq w.1 k with
    | false => rfl
    | true => have q := Nat.eq_of_beq_eq_true e; omega
theorem OL.f {W : List (Nat × Nat)} {T M : jm} (f : FR W T M) (h : W.all (fun w => Nat.ble 9 w.1) = true) : OL T M := fun b k b0 b1 => by
  have q := kfl0 (b - 29) (by omega)
  rw [show 29 + (b - 29) = b by omega] at q
  exact f b k (kw_fl h q.2 k)
theorem OL.t {T M N : jm} (h : OL T M) (h2 : OL M N) : OL T N := fun b k b0 b1 => (h2 b k b0 b1).trans (h b k b0 b1)
noncomputable def W_c_Flow_describe_o : List (Nat × Nat) := [(1, 1), (1, 2), (2, 1000), (7, 1000)]
theorem c_Flow_describe_o_L57 {A : Nat → Option (Nat × (Nat → Int32))} {Q : Option Value → jm → Prop} {T : jm} {x : Nat} (k_x : kd x = 18) {y : Int} {z : Int} (q : ∀ (M' : jm), CI M' → FR W_c_Flow_describe_o T M' → (O3 T M') → Q none M') : ∀ (nM : Nat) (M : jm) (k : Int) (i : Int), CI M → FR W_c_Flow_describe_o T M → (-2147483648) ≤ y ∧ y ≤ 2147483647 → (-2147483648) ≤ z ∧ z ≤ 2147483647 → (-1) ≤ k ∧ k ≤ 11 → 0 ≤ i ∧ i ≤ 2 → (O3 T M) → 2 - i ≤ nM → jr A 3 xm_57 57 [(2, .int (Int32.ofInt (y))), (3, .int (Int32.ofInt (z))), (4, .int (Int32.ofInt (k))), (5, .int (Int32.ofInt (i))), (0, .ref (18)), (1, .ref (x))] [] M Q := by
  intro nM
  induction nM using Nat.strongRecOn with
  | ind nM ih =>
    intro M k i hC_M ht_M h_y h_z h_k h_i hy0 hm
    refine jr.iload rfl rfl ?_
    refine jr.iconst rfl ?_
    refine jr.icmp_ge rfl rfl (by omega) (by omega) (fun h60 => ?_) (fun h60 => ?_)
    · exact jr.vreturn rfl rfl (q _ hC_M ht_M  hy0)
    · refine jr.aload_n rfl rfl ?_
      refine jr.getf (i := 3) (v := .ref 19) rfl rfl (by decide) rfl (by decide) rfl rfl rfl rfl ?_
      refine jr.iload rfl rfl ?_
      refine jr.aload_n rfl rfl ?_
      refine jr.iload_n rfl rfl ?_
      refine jr.iload rfl rfl ?_
      refine jr_v rfl rfl (Or.inl rfl) rfl rfl (Nat.lt_trans (kx_18 k_x).1 (by decide)) (kx_18 k_x).2 ⟨rfl, Nat.le_of_ble_eq_true rfl, Nat.le_of_ble_eq_true rfl⟩ rfl (jc.deep (c_Headers_addressOf hC_M k_x (by omega) (by omega) (fun r1 z1  => ?_)) (by decide))
      refine jr.last (i := i) (x := r1) rfl (by decide) rfl (by decide) (by omega) (by omega) ?_
      refine jr.aload_n rfl rfl ?_
      refine jr.getf (i := 4) (v := .ref 20) rfl rfl (by decide) rfl (by decide) rfl rfl rfl rfl ?_
      refine jr.iload rfl rfl ?_
      refine jr.iload rfl rfl ?_
      refine jr.bipush rfl (by decide) ?_
      refine jr.icmp_ne rfl rfl (by omega) (by omega) (fun h87 => ?_) (fun h87 => ?_)
      · refine jr.aload_n rfl rfl ?_
        refine jr.iload_n rfl rfl ?_
        refine jr.iload rfl rfl ?_
        refine jr_v rfl rfl (Or.inl rfl) rfl rfl (Nat.lt_trans (kx_18 k_x).1 (by decide)) (kx_18 k_x).2 ⟨rfl, Nat.le_of_ble_eq_true rfl, Nat.le_of_ble_eq_true rfl⟩ rfl (jc.deep (c_Headers_valueOf (CI.u hC_M (i := i) (show kd 19 = 2 from rfl) (show (-9223372036854775808 : Int) ≤ _ ∧ _ ≤ (9223372036854775807 : Int) from by omega) rfl) k_x (by omega) (by omega) (fun r2 z2  => ?_)) (by decide))
        refine jr.l2i rfl ?_
        refine jr.iw (j_w r2) (j_w_eq _) ?_
        have b3 : -2147483648 ≤ j_w r2 ∧ j_w r2 ≤ 2147483647 := jb_any _
        generalize j_w r2 = v3 at b3 ⊢
        refine jr.iast (i := i) (x := v3) rfl (by decide) rfl (by decide) (by omega) (by omega) ?_
        refine jr.iinc (ls' := [_, _, _, _, _, _]) rfl rfl (by decide) rfl ?_
        refine jr.goto rfl rfl ?_
        refine jr.pick (ls := [_, _, _, _, _, _]) [1, 2, 3, 0, 4, 5] rfl rfl ?_
        exact ih (nM - 1) (by omega) ((ju (ju M 19 i r1) 20 i v3)) k (i + 1) (CI.u (CI.u hC_M (i := i) (show kd 19 = 2 from rfl) (show (-9223372036854775808 : Int) ≤ _ ∧ _ ≤ (9223372036854775807 : Int) from by omega) rfl) (i := i) (show kd 20 = 7 from rfl) (show (-2147483648 : Int) ≤ _ ∧ _ ≤ (2147483647 : Int) from by omega) rfl) (FR.o (FR.o ht_M (show kd 19 = 2 from rfl) rfl) (show kd 20 = 7 from rfl) rfl) (by omega) (by omega) (by omega) (by omega) (fun b k b0 b1 b2 => by rw [ju_c _ _ b2, ju_c _ _ b1]; exact hy0 b k b0 b1 b2) (by omega)
      · refine jr.aload_n rfl rfl ?_
        refine jr.iload_n rfl rfl ?_
        refine jr.iconst rfl ?_
        refine jr_v rfl rfl (Or.inl rfl) rfl rfl (Nat.lt_trans (kx_18 k_x).1 (by decide)) (kx_18 k_x).2 ⟨rfl, Nat.le_of_ble_eq_true rfl, Nat.le_of_ble_eq_true rfl⟩ rfl (jc.deep (c_Headers_valueOf (CI.u hC_M (i := i) (show kd 19 = 2 from rfl) (show (-9223372036854775808 : Int) ≤ _ ∧ _ ≤ (9223372036854775807 : Int) from by omega) rfl) k_x (by omega) (by omega) (fun r4 z4  => ?_)) (by decide))
        refine jr.bipush rfl (by decide) ?_
        refine jr.lushr rfl ?_
        have b5 : -9223372036854775808 ≤ jl_ushr r4 16 ∧ jl_ushr r4 16 ≤ 9223372036854775807 := jbl_any _
        generalize jl_ushr r4 16 = v5 at b5 ⊢
        refine jr.goto rfl rfl ?_
        refine jr.l2i rfl ?_
        refine jr.iw (j_w v5) (j_w_eq _) ?_
        have b6 : -2147483648 ≤ j_w v5 ∧ j_w v5 ≤ 2147483647 := jb_any _
        generalize j_w v5 = v6 at b6 ⊢
        refine jr.iast (i := i) (x := v6) rfl (by decide) rfl (by decide) (by omega) (by omega) ?_
        refine jr.iinc (ls' := [_, _, _, _, _, _]) rfl rfl (by decide) rfl ?_
        refine jr.goto rfl rfl ?_
        refine jr.pick (ls := [_, _, _, _, _, _]) [1, 2, 3, 0, 4, 5] rfl rfl ?_
        exact ih (nM - 1) (by omega) ((ju (ju M 19 i r1) 20 i v6)) k (i + 1) (CI.u (CI.u hC_M (i := i) (show kd 19 = 2 from rfl) (show (-9223372036854775808 : Int) ≤ _ ∧ _ ≤ (9223372036854775807 : Int) from by omega) rfl) (i := i) (show kd 20 = 7 from rfl) (show (-2147483648 : Int) ≤ _ ∧ _ ≤ (2147483647 : Int) from by omega) rfl) (FR.o (FR.o ht_M (show kd 19 = 2 from rfl) rfl) (show kd 20 = 7 from rfl) rfl) (by omega) (by omega) (by omega) (by omega) (fun b k b0 b1 b2 => by rw [ju_c _ _ b2, ju_c _ _ b1]; exact hy0 b k b0 b1 b2) (by omega)
theorem c_Flow_describe_o_L54 {A : Nat → Option (Nat × (Nat → Int32))} {Q : Option Value → jm → Prop} {T : jm} {x : Nat} (k_x : kd x = 18) {y : Int} {z : Int} (q : ∀ (M' : jm), CI M' → FR W_c_Flow_describe_o T M' → (O3 T M') → Q none M') : ∀ (nM : Nat) (M : jm) (k : Int), CI M → FR W_c_Flow_describe_o T M → (-2147483648) ≤ y ∧ y ≤ 2147483647 → (-2147483648) ≤ z ∧ z ≤ 2147483647 → (-1) ≤ k ∧ k ≤ 11 → (O3 T M) → 0 ≤ nM → jr A 3 xm_57 54 [(2, .int (Int32.ofInt (y))), (3, .int (Int32.ofInt (z))), (4, .int (Int32.ofInt (k))), (0, .ref (18)), (1, .ref (x))] [] M Q := by
  intro nM
  induction nM using Nat.strongRecOn with
  | ind nM ih =>
    intro M k hC_M ht_M h_y h_z h_k hy0 hm
    refine jr.iconst rfl ?_
    refine jr.istore (ls' := [_, _, _, _, _, _]) rfl (by decide) rfl ?_
    refine jr.pick (ls := [_, _, _, _, _, _]) [1, 2, 3, 0, 4, 5] rfl rfl ?_
    exact c_Flow_describe_o_L57 k_x q 2 M k 0 hC_M ht_M (by omega) (by omega) (by omega) (by omega) hy0 (by omega)
end
