theorem c_Headers_readAll {A : Nat → Option (Nat × (Nat → Int32))} {Q : Option Value → jm → Prop} {T : jm} {M : jm} (hC_M : CI M) (ht_M : FR W_c_Headers_readAll T M) {t : Nat} (k_t : kd t = 18) {x : Nat} (k_x : kd x = 33) (q : ∀ (M' : jm), CI M' → FR W_c_Headers_readAll T M' → (HC M' t) → Q none M') : jc A 5 105 [.ref (t), .ref (x)] M Q := by
  refine jc_of (m := xm_105) rfl (Nat.le_of_ble_eq_true rfl) rfl ?_
  refine jr.aload_n rfl rfl ?_
  refine jr.aload_n rfl rfl ?_
  refine jr.putf (i := 7) (x := (((x : Nat) : Int))) rfl rfl (Nat.lt_trans (kx_18 k_t).1 (by decide)) (kx_18 k_t).2 (by decide) rfl rfl (jval_mut rfl (kn_18_7 k_t)) rfl rfl ?_
  refine jr.aload_n rfl rfl ?_
  refine jr.iconst rfl ?_
  refine jr.putf (i := 3) (x := 0) rfl rfl (Nat.lt_trans (kx_18 k_t).1 (by decide)) (kx_18 k_t).2 (by decide) rfl rfl rfl rfl rfl ?_
  refine jr.aload_n rfl rfl ?_
  refine jr.iconst rfl ?_
  refine jr.putf (i := 4) (x := 0) rfl rfl (Nat.lt_trans (kx_18 k_t).1 (by decide)) (kx_18 k_t).2 (by decide) rfl rfl rfl rfl rfl ?_
  refine jr.aload_n rfl rfl ?_
  refine jr.iconst rfl ?_
  refine jr.putf (i := 5) (x := (-1)) rfl rfl (Nat.lt_trans (kx_18 k_t).1 (by decide)) (kx_18 k_t).2 (by decide) rfl rfl rfl rfl rfl ?_
  refine jr.aload_n rfl rfl ?_
  refine jr.iconst rfl ?_
  refine jr.putf (i := 6) (x := (-1)) rfl rfl (Nat.lt_trans (kx_18 k_t).1 (by decide)) (kx_18 k_t).2 (by decide) rfl rfl rfl rfl rfl ?_
  refine jr.aload_n rfl rfl ?_
  refine jr_v rfl rfl (Or.inl rfl) rfl rfl (Nat.lt_trans (kx_33 k_x).1 (by decide)) (kx_33 k_x).2 ⟨rfl, Nat.le_of_ble_eq_true rfl, Nat.le_of_ble_eq_true rfl⟩ rfl (jc.deep (c_Packet_isThere (CI.u (CI.u (CI.u (CI.u (CI.w (v := ((x : Nat) : Int)) hC_M (i := 7) k_t (show (0 : Int) ≤ _ ∧ _ ≤ (597 : Int) from by have hk := kd_lt (a := (((x : Nat) : Int)).toNat) (by rw [(show kd (((x : Nat) : Int)).toNat = 33 from k_x)]; decide); omega) (show kd (((x : Nat) : Int)).toNat = 33 from k_x)) (i := 3) k_t (show (0 : Int) ≤ _ ∧ _ ≤ (12 : Int) from by omega) rfl) (i := 4) k_t (show (-2147483648 : Int) ≤ _ ∧ _ ≤ (2147483647 : Int) from by omega) rfl) (i := 5) k_t (show (-2147483648 : Int) ≤ _ ∧ _ ≤ (2147483647 : Int) from by omega) rfl) (i := 6) k_t (show (-2147483648 : Int) ≤ _ ∧ _ ≤ (2147483647 : Int) from by omega) rfl) k_x (fun r1 z1 w1_0 => ?_)) (by decide))
  obtain ⟨v2, e2⟩ : ∃ z_, M x 1 = z_ := ⟨_, rfl⟩
  have b2 : (-1) ≤ v2 ∧ v2 ≤ 400 := by rw [← e2]; exact (CI.r hC_M k_x (by decide) 1)
  have e3 : (ju (ju (ju (ju (ju M t 7 (((x : Nat) : Int))) t 3 0) t 4 0) t 5 (-1)) t 6 (-1)) x 1 = v2 := ((ju_i _ _ (by decide)).trans ((ju_i _ _ (by decide)).trans ((ju_i _ _ (by decide)).trans ((ju_i _ _ (by decide)).trans ((ju_i _ _ (by decide)).trans e2)))))
  refine jr.if_ne rfl rfl (by omega) (fun h29 => ?_) (fun h29 => ?_)
  · have sx29 : (1 : Int) ≤ r1 := by omega
    clear h29
    refine jr.iconst rfl ?_
    refine jr.istore_n (ls' := [_, _, _]) rfl (by decide) rfl ?_
    refine jr.iconst rfl ?_
    refine jr.istore_n (ls' := [_, _, _, _]) rfl (by decide) rfl ?_
    refine jr.iconst rfl ?_
    refine jr.istore (ls' := [_, _, _, _, _]) rfl (by decide) rfl ?_
    refine jr.pick (ls := [_, _, _, _, _]) [2, 1, 0, 3, 4] rfl rfl ?_
    exact c_Headers_readAll_L45 k_t k_x q 13 ((ju (ju (ju (ju (ju M t 7 (((x : Nat) : Int))) t 3 0) t 4 0) t 5 (-1)) t 6 (-1))) 0 0 0 (CI.u (CI.u (CI.u (CI.u (CI.w (v := ((x : Nat) : Int)) hC_M (i := 7) k_t (show (0 : Int) ≤ _ ∧ _ ≤ (597 : Int) from by have hk := kd_lt (a := (((x : Nat) : Int)).toNat) (by rw [(show kd (((x : Nat) : Int)).toNat = 33 from k_x)]; decide); omega) (show kd (((x : Nat) : Int)).toNat = 33 from k_x)) (i := 3) k_t (show (0 : Int) ≤ _ ∧ _ ≤ (12 : Int) from by omega) rfl) (i := 4) k_t (show (-2147483648 : Int) ≤ _ ∧ _ ≤ (2147483647 : Int) from by omega) rfl) (i := 5) k_t (show (-2147483648 : Int) ≤ _ ∧ _ ≤ (2147483647 : Int) from by omega) rfl) (i := 6) k_t (show (-2147483648 : Int) ≤ _ ∧ _ ≤ (2147483647 : Int) from by omega) rfl) (FR.o (FR.o (FR.o (FR.o (FR.o ht_M k_t rfl) k_t rfl) k_t rfl) k_t rfl) k_t rfl) (by omega) (by omega) (by omega) ((ju_i _ _ (by decide)).trans ((ju_i _ _ (by decide)).trans ((ju_i _ _ (by decide)).trans ((ju_i _ _ (by decide)).trans (ju_same _ _ _ _))))) (show 0 ≤ (ju (ju (ju (ju (ju M t 7 (((x : Nat) : Int))) t 3 0) t 4 0) t 5 (-1)) t 6 (-1)) x 1 ∧ (ju (ju (ju (ju (ju M t 7 (((x : Nat) : Int))) t 3 0) t 4 0) t 5 (-1)) t 6 (-1)) x 1 ≤ 400 from by have hq : (ju (ju (ju (ju (ju M t 7 (((x : Nat) : Int))) t 3 0) t 4 0) t 5 (-1)) t 6 (-1)) x 1 = v2 := ((ju_i _ _ (by decide)).trans ((ju_i _ _ (by decide)).trans ((ju_i _ _ (by decide)).trans ((ju_i _ _ (by decide)).trans ((ju_i _ _ (by decide)).trans e2))))); omega) (HC.z ((ju_i _ _ (by decide)).trans ((ju_i _ _ (by decide)).trans ((ju_i _ _ (by decide)).trans (ju_same _ _ _ _))))) (by omega)
  · refine jr.aload_n rfl rfl ?_
    refine jr.iconst rfl ?_
    refine jr.putf (i := 4) (x := 2) rfl rfl (Nat.lt_trans (kx_18 k_t).1 (by decide)) (kx_18 k_t).2 (by decide) rfl rfl rfl rfl rfl ?_
    exact jr.vreturn rfl rfl (q _ (CI.u (CI.u (CI.u (CI.u (CI.u (CI.w (v := ((x : Nat) : Int)) hC_M (i := 7) k_t (show (0 : Int) ≤ _ ∧ _ ≤ (597 : Int) from by have hk := kd_lt (a := (((x : Nat) : Int)).toNat) (by rw [(show kd (((x : Nat) : Int)).toNat = 33 from k_x)]; decide); omega) (show kd (((x : Nat) : Int)).toNat = 33 from k_x)) (i := 3) k_t (show (0 : Int) ≤ _ ∧ _ ≤ (12 : Int) from by omega) rfl) (i := 4) k_t (show (-2147483648 : Int) ≤ _ ∧ _ ≤ (2147483647 : Int) from by omega) rfl) (i := 5) k_t (show (-2147483648 : Int) ≤ _ ∧ _ ≤ (2147483647 : Int) from by omega) rfl) (i := 6) k_t (show (-2147483648 : Int) ≤ _ ∧ _ ≤ (2147483647 : Int) from by omega) rfl) (i := 4) k_t (show (-2147483648 : Int) ≤ _ ∧ _ ≤ (2147483647 : Int) from by omega) rfl) (FR.o (FR.o (FR.o (FR.o (FR.o (FR.o ht_M k_t rfl) k_t rfl) k_t rfl) k_t rfl) k_t rfl) k_t rfl)  (HC.z ((ju_i _ _ (by decide)).trans ((ju_i _ _ (by decide)).trans ((ju_i _ _ (by decide)).trans ((ju_i _ _ (by decide)).trans (ju_same _ _ _ _)))))))

