section
theorem c_PacketWall_read_x {A : Nat → Option (Nat × (Nat → Int32))} {Q : Option Value → jm → Prop} {f : Int → Int} {T : jm} {M : jm} (hC_M : CI M) (ht_M : FR W_c_PacketWall_read_x T M) {x : Int} (h_x : (-2147483648) ≤ x ∧ x ≤ 2147483647) (p0 : T = M) (p1 : ((0 ≤ x ∧ x ≤ 23) → BY8 M ((xe 2 x) + 1) f)) (q : ∀ (r : Int) (M' : jm), CI M' → FR W_c_PacketWall_read_x T M' → (-2147483648) ≤ r ∧ r ≤ 2147483647 → (((x < 0 ∨ 23 < x) ∧ r = -3 ∧ M' = T) ∨ (((0 ≤ x ∧ x ≤ 23) ∧ T (xe 2 x) 1 = -1) ∧ (M' 9 0 = 2 ∧ M' 9 1 = 0 ∧ M' 9 2 = -1 ∧ M' 9 3 = -1) ∧ r = -12) ∨ (((0 ≤ x ∧ x ≤ 23) ∧ T (xe 2 x) 1 ≠ -1) ∧ ∃ C : Int, HE f (T (xe 2 x) 1) C ∧ RDF f (T (xe 2 x) 1) C (M' 9 0) (M' 9 1) (M' 9 2) (M' 9 3) r)) → Q (some (.int (Int32.ofInt r))) M') : jc A 6 6 [.ref (0), .int (Int32.ofInt (x))] M Q := by
  refine jc_of (m := xm_6) rfl (Nat.le_of_ble_eq_true rfl) rfl ?_
  refine jr.iload_n rfl rfl ?_
  refine jr.if_lt rfl rfl (by omega) (fun h1 => ?_) (fun h1 => ?_)
  · refine jr.bipush rfl (by decide) ?_
    exact jr.ireturn rfl rfl rfl (q _ _ hC_M ht_M (by omega) (Or.inl ⟨by omega, by omega, by rw [p0]⟩))
  · refine jr.iload_n rfl rfl ?_
    refine jr.bipush rfl (by decide) ?_
    refine jr.icmp_lt rfl rfl (by omega) (by omega) (fun h7 => ?_) (fun h7 => ?_)
    · refine jr.aload_n rfl rfl ?_
      refine jr.getf (i := 3) (v := .ref 3) rfl rfl (by decide) rfl (by decide) rfl rfl rfl rfl ?_
      refine jr.aload_n rfl rfl ?_
      refine jr.getf (i := 2) (v := .ref 2) rfl rfl (by decide) rfl (by decide) rfl rfl rfl rfl ?_
      refine jr.iload_n rfl rfl ?_
      have k1 := kxe_42 (a := 2) rfl (i := x) (by omega) (by omega)
      refine jr.aald (c := (xe 2 x)) rfl (by decide) rfl (by decide) (by decide) rfl (by decide) (by omega) (by omega) k1.1 ?_
      obtain ⟨v3, e3⟩ : ∃ z_, M ((xe 2 x)) 1 = z_ := ⟨_, rfl⟩
      have b3 : (-1) ≤ v3 ∧ v3 ≤ 400 := by rw [← e3]; exact (CI.r hC_M k1.2 (by decide) 1)
      refine jr_v rfl rfl (Or.inl rfl) rfl rfl (by decide) rfl ⟨rfl, Nat.le_of_ble_eq_true rfl, Nat.le_of_ble_eq_true rfl⟩ rfl (jc.deep (c_Headers_readAll_x hC_M (FR.rfl _ M) (show kd 3 = 18 from rfl) k1.2 e3 (p1 (by omega)) (fun M2 hC_M2 hf_M2 w2_0 w2_1 w2_2 => ?_)) (by decide))
      have ht_M2 : FR W_c_PacketWall_read_x T M2 := FR.t ht_M hf_M2 (kw_sub rfl)
      obtain ⟨v4, e4⟩ : ∃ z_, M2 3 4 = z_ := ⟨_, rfl⟩
      have b4 : (-2147483648) ≤ v4 ∧ v4 ≤ 2147483647 := by rw [← e4]; exact (CI.r hC_M2 (show kd 3 = 18 from rfl) (by decide) 4)
      have hfb : 0 ≤ v4 ∧ v4 ≤ 6 := (by rw [← e4]; exact Or.elim w2_1 (fun h => by omega) (fun h => Or.elim h.2.2.2.2.2.2 (fun u => by omega) (fun u => by rw [u.2.2.1]; exact hsF_r _ _ _ _ _ _)))
      refine jr.aload_n rfl rfl ?_
      refine jr.getf (i := 4) (v := .ref 9) rfl rfl (by decide) rfl (by decide) rfl rfl rfl rfl ?_
      refine jr.iconst rfl ?_
      refine jr.aload_n rfl rfl ?_
      refine jr.getf (i := 3) (v := .ref 3) rfl rfl (by decide) rfl (by decide) rfl rfl rfl rfl ?_
      refine jr.getf (i := 4) (x := v4) (v := .int (Int32.ofInt (v4))) rfl rfl (by decide) rfl (by decide) rfl rfl e4 rfl ?_
      refine jr.iast (i := 0) (x := v4) rfl (by decide) rfl (by decide) (by omega) (by omega) ?_
      refine jr.aload_n rfl rfl ?_
      refine jr.getf (i := 4) (v := .ref 9) rfl rfl (by decide) rfl (by decide) rfl rfl rfl rfl ?_
      refine jr.iconst rfl ?_
      refine jr.aload_n rfl rfl ?_
      refine jr.getf (i := 3) (v := .ref 3) rfl rfl (by decide) rfl (by decide) rfl rfl rfl rfl ?_
      obtain ⟨v5, e5⟩ : ∃ z_, M2 3 3 = z_ := ⟨_, rfl⟩
      have b5 : 0 ≤ v5 ∧ v5 ≤ 12 := by rw [← e5]; exact (CI.r hC_M2 (show kd 3 = 18 from rfl) (by decide) 3)
      refine jr.getf (i := 3) (x := v5) (v := .int (Int32.ofInt (v5))) rfl rfl (by decide) rfl (by decide) rfl rfl ((ju_c _ _ (by decide)).trans e5) rfl ?_
      refine jr.iast (i := 1) (x := v5) rfl (by decide) rfl (by decide) (by omega) (by omega) ?_
      refine jr.aload_n rfl rfl ?_
      refine jr.getf (i := 4) (v := .ref 9) rfl rfl (by decide) rfl (by decide) rfl rfl rfl rfl ?_
      refine jr.iconst rfl ?_
      refine jr.aload_n rfl rfl ?_
      refine jr.getf (i := 3) (v := .ref 3) rfl rfl (by decide) rfl (by decide) rfl rfl rfl rfl ?_
      obtain ⟨v6, e6⟩ : ∃ z_, M2 3 5 = z_ := ⟨_, rfl⟩
      have b6 : (-2147483648) ≤ v6 ∧ v6 ≤ 2147483647 := by rw [← e6]; exact (CI.r hC_M2 (show kd 3 = 18 from rfl) (by decide) 5)
      refine jr.getf (i := 5) (x := v6) (v := .int (Int32.ofInt (v6))) rfl rfl (by decide) rfl (by decide) rfl rfl ((ju_c _ _ (by decide)).trans ((ju_c _ _ (by decide)).trans e6)) rfl ?_
      refine jr.iast (i := 2) (x := v6) rfl (by decide) rfl (by decide) (by omega) (by omega) ?_
      refine jr.aload_n rfl rfl ?_
      refine jr.getf (i := 4) (v := .ref 9) rfl rfl (by decide) rfl (by decide) rfl rfl rfl rfl ?_
      refine jr.iconst rfl ?_
      refine jr.aload_n rfl rfl ?_
      refine jr.getf (i := 3) (v := .ref 3) rfl rfl (by decide) rfl (by decide) rfl rfl rfl rfl ?_
      obtain ⟨v7, e7⟩ : ∃ z_, M2 3 6 = z_ := ⟨_, rfl⟩
      have b7 : (-2147483648) ≤ v7 ∧ v7 ≤ 2147483647 := by rw [← e7]; exact (CI.r hC_M2 (show kd 3 = 18 from rfl) (by decide) 6)
      refine jr.getf (i := 6) (x := v7) (v := .int (Int32.ofInt (v7))) rfl rfl (by decide) rfl (by decide) rfl rfl ((ju_c _ _ (by decide)).trans ((ju_c _ _ (by decide)).trans ((ju_c _ _ (by decide)).trans e7))) rfl ?_
      refine jr.iast (i := 3) (x := v7) rfl (by decide) rfl (by decide) (by omega) (by omega) ?_
      refine jr.aload_n rfl rfl ?_
      refine jr.getf (i := 3) (v := .ref 3) rfl rfl (by decide) rfl (by decide) rfl rfl rfl rfl ?_
      refine jr.getf (i := 4) (x := v4) (v := .int (Int32.ofInt (v4))) rfl rfl (by decide) rfl (by decide) rfl rfl ((ju_c _ _ (by decide)).trans ((ju_c _ _ (by decide)).trans ((ju_c _ _ (by decide)).trans ((ju_c _ _ (by decide)).trans e4)))) rfl ?_
      refine jr.if_ne rfl rfl (by omega) (fun h85 => ?_) (fun h85 => ?_)
      · have sx85 : (1 : Int) ≤ v4 := by omega
        clear h85
        refine jr.bipush rfl (by decide) ?_
        refine jr.aload_n rfl rfl ?_
        refine jr.getf (i := 3) (v := .ref 3) rfl rfl (by decide) rfl (by decide) rfl rfl rfl rfl ?_
        refine jr.getf (i := 4) (x := v4) (v := .int (Int32.ofInt (v4))) rfl rfl (by decide) rfl (by decide) rfl rfl ((ju_c _ _ (by decide)).trans ((ju_c _ _ (by decide)).trans ((ju_c _ _ (by decide)).trans ((ju_c _ _ (by decide)).trans e4)))) rfl ?_
        refine jr.isub rfl ?_
        exact jr.ireturn rfl rfl rfl (q _ _ (CI.u (CI.u (CI.u (CI.u hC_M2 (i := 0) (show kd 9 = 39 from rfl) (show (-2147483648 : Int) ≤ _ ∧ _ ≤ (2147483647 : Int) from by omega) rfl) (i := 1) (show kd 9 = 39 from rfl) (show (-2147483648 : Int) ≤ _ ∧ _ ≤ (2147483647 : Int) from by omega) rfl) (i := 2) (show kd 9 = 39 from rfl) (show (-2147483648 : Int) ≤ _ ∧ _ ≤ (2147483647 : Int) from by omega) rfl) (i := 3) (show kd 9 = 39 from rfl) (show (-2147483648 : Int) ≤ _ ∧ _ ≤ (2147483647 : Int) from by omega) rfl) (FR.o (FR.o (FR.o (FR.o ht_M2 (show kd 9 = 39 from rfl) rfl) (show kd 9 = 39 from rfl) rfl) (show kd 9 = 39 from rfl) rfl) (show kd 9 = 39 from rfl) rfl) (by omega) (by have q0 : (ju (ju (ju (ju M2 9 0 v4) 9 1 v5) 9 2 v6) 9 3 v7) 9 0 = v4 := ((ju_i _ _ (by decide)).trans ((ju_i _ _ (by decide)).trans ((ju_i _ _ (by decide)).trans (ju_same _ _ _ _)))); have q1 : (ju (ju (ju (ju M2 9 0 v4) 9 1 v5) 9 2 v6) 9 3 v7) 9 1 = v5 := ((ju_i _ _ (by decide)).trans ((ju_i _ _ (by decide)).trans (ju_same _ _ _ _))); have q2 : (ju (ju (ju (ju M2 9 0 v4) 9 1 v5) 9 2 v6) 9 3 v7) 9 2 = v6 := ((ju_i _ _ (by decide)).trans (ju_same _ _ _ _)); have q3 : (ju (ju (ju (ju M2 9 0 v4) 9 1 v5) 9 2 v6) 9 3 v7) 9 3 = v7 := (ju_same _ _ _ _); have r3 : M2 3 3 = v5 := e5; have r4 : M2 3 4 = v4 := e4; have r5 : M2 3 5 = v6 := e6; have r6 : M2 3 6 = v7 := e7; rw [p0, e3]; exact Or.elim w2_1 (fun h => Or.inr (Or.inl ⟨by omega, by omega, by omega⟩)) (fun h => Or.inr (Or.inr ⟨⟨by omega, h.1⟩, M2 3 3, HQ.e h.2.2.2.2, ⟨by omega, Or.elim h.2.2.2.2.2.2 (fun u => Or.inl ⟨u.1, by omega, by omega, by omega, by omega⟩) (fun u => Or.inr ⟨u.1, u.2.1, by omega, by omega, by omega, by omega⟩)⟩⟩))))
      · refine jr.aload_n rfl rfl ?_
        refine jr.getf (i := 3) (v := .ref 3) rfl rfl (by decide) rfl (by decide) rfl rfl rfl rfl ?_
        refine jr.getf (i := 3) (x := v5) (v := .int (Int32.ofInt (v5))) rfl rfl (by decide) rfl (by decide) rfl rfl ((ju_c _ _ (by decide)).trans ((ju_c _ _ (by decide)).trans ((ju_c _ _ (by decide)).trans ((ju_c _ _ (by decide)).trans e5)))) rfl ?_
        refine jr.goto rfl rfl ?_
        exact jr.ireturn rfl rfl rfl (q _ _ (CI.u (CI.u (CI.u (CI.u hC_M2 (i := 0) (show kd 9 = 39 from rfl) (show (-2147483648 : Int) ≤ _ ∧ _ ≤ (2147483647 : Int) from by omega) rfl) (i := 1) (show kd 9 = 39 from rfl) (show (-2147483648 : Int) ≤ _ ∧ _ ≤ (2147483647 : Int) from by omega) rfl) (i := 2) (show kd 9 = 39 from rfl) (show (-2147483648 : Int) ≤ _ ∧ _ ≤ (2147483647 : Int) from by omega) rfl) (i := 3) (show kd 9 = 39 from rfl) (show (-2147483648 : Int) ≤ _ ∧ _ ≤ (2147483647 : Int) from by omega) rfl) (FR.o (FR.o (FR.o (FR.o ht_M2 (show kd 9 = 39 from rfl) rfl) (show kd 9 = 39 from rfl) rfl) (show kd 9 = 39 from rfl) rfl) (show kd 9 = 39 from rfl) rfl) (by omega) (by have q0 : (ju (ju (ju (ju M2 9 0 v4) 9 1 v5) 9 2 v6) 9 3 v7) 9 0 = v4 := ((ju_i _ _ (by decide)).trans ((ju_i _ _ (by decide)).trans ((ju_i _ _ (by decide)).trans (ju_same _ _ _ _)))); have q1 : (ju (ju (ju (ju M2 9 0 v4) 9 1 v5) 9 2 v6) 9 3 v7) 9 1 = v5 := ((ju_i _ _ (by decide)).trans ((ju_i _ _ (by decide)).trans (ju_same _ _ _ _))); have q2 : (ju (ju (ju (ju M2 9 0 v4) 9 1 v5) 9 2 v6) 9 3 v7) 9 2 = v6 := ((ju_i _ _ (by decide)).trans (ju_same _ _ _ _)); have q3 : (ju (ju (ju (ju M2 9 0 v4) 9 1 v5) 9 2 v6) 9 3 v7) 9 3 = v7 := (ju_same _ _ _ _); have r3 : M2 3 3 = v5 := e5; have r4 : M2 3 4 = v4 := e4; have r5 : M2 3 5 = v6 := e6; have r6 : M2 3 6 = v7 := e7; rw [p0, e3]; exact Or.elim w2_1 (fun h => Or.inr (Or.inl ⟨by omega, by omega, by omega⟩)) (fun h => Or.inr (Or.inr ⟨⟨by omega, h.1⟩, M2 3 3, HQ.e h.2.2.2.2, ⟨by omega, Or.elim h.2.2.2.2.2.2 (fun u => Or.inl ⟨u.1, by omega, by omega, by omega, by omega⟩) (fun u => Or.inr ⟨u.1, u.2.1, by omega, by omega, by omega, by omega⟩)⟩⟩))))
    · refine jr.bipush rfl (by decide) ?_
      exact jr.ireturn rfl rfl rfl (q _ _ hC_M ht_M (by omega) (Or.inl ⟨by omega, by omega, by rw [p0]⟩))
end
section
end
