section
theorem c_PacketWall_isRefusedPiece_x {A : Nat → Option (Nat × (Nat → Int32))} {Q : Option Value → jm → Prop} {f : Int → Int} {N : Int} {M : jm} (hC_M : CI M) {x : Int} (h_x : 0 ≤ x ∧ x ≤ 11) {y : Int} (h_y : 0 ≤ y ∧ y ≤ 1) {C : Int} (g_C : M 3 3 = C) (p0 : HS M 3 f N) (p1 : x < C) (p2 : hX f N x = 2 ∨ hX f N x = 6) (q : ∀ (r : Int), 0 ≤ r ∧ r ≤ 1 → ((r = 1 ∧ rfq f N C x y) ∨ (r = 0 ∧ ¬ rfq f N C x y)) → Q (some (.int (Int32.ofInt r))) M) : jc A 4 47 [.ref (0), .int (Int32.ofInt (x)), .int (Int32.ofInt (y))] M Q := by
  refine jc_of (m := xm_47) rfl (Nat.le_of_ble_eq_true rfl) rfl ?_
  have b_C : 0 ≤ C ∧ C ≤ 12 := by rw [← g_C]; exact (CI.r hC_M (show kd 3 = 18 from rfl) (by decide) 3)
  refine jr.aload_n rfl rfl ?_
  refine jr.getf (i := 3) (v := .ref 3) rfl rfl (by decide) rfl (by decide) rfl rfl rfl rfl ?_
  refine jr.iload_n rfl rfl ?_
  obtain ⟨v2, e2⟩ : ∃ z_, M 3 7 = z_ := ⟨_, rfl⟩
  have b2 : 0 ≤ v2 ∧ v2 ≤ 597 := by rw [← e2]; exact (CI.r hC_M (show kd 3 = 18 from rfl) (by decide) 7)
  have k1_S : kd (v2).toNat = 33 := (congrArg (fun z : Int => kd z.toNat) e2).symm.trans (CI.x hC_M (show kd 3 = 18 from rfl) 7 rfl (by decide))
  refine jr_v rfl rfl (Or.inl rfl) rfl rfl (by decide) rfl ⟨rfl, Nat.le_of_ble_eq_true rfl, Nat.le_of_ble_eq_true rfl⟩ rfl (jc.deep (c_Headers_dataBehind_x hC_M (show kd 3 = 18 from rfl) (by omega) g_C e2 p0 (fun r1 z1 w1_0 => ?_)) (by decide))
  refine jr.istore_n (ls' := [_, _, _, _]) rfl (by decide) rfl ?_
  refine jr.iload_n rfl rfl ?_
  refine jr.if_gt rfl rfl (by omega) (fun h10 => ?_) (fun h10 => ?_)
  · refine jr.aload_n rfl rfl ?_
    refine jr.getf (i := 3) (v := .ref 3) rfl rfl (by decide) rfl (by decide) rfl rfl rfl rfl ?_
    refine jr.iload_n rfl rfl ?_
    refine jr_v rfl rfl (Or.inl rfl) rfl rfl (by decide) rfl ⟨rfl, Nat.le_of_ble_eq_true rfl, Nat.le_of_ble_eq_true rfl⟩ rfl (jc.deep (c_Headers_isMoreToCome_x hC_M (show kd 3 = 18 from rfl) (by omega) g_C p0 (fun r3 z3 w3_0 => ?_)) (by decide))
    refine jr.if_eq rfl rfl (by omega) (fun h23 => ?_) (fun h23 => ?_)
    · refine jr.iload_n rfl rfl ?_
      refine jr.if_eq rfl rfl (by omega) (fun h40 => ?_) (fun h40 => ?_)
      · refine jr.iconst rfl ?_
        exact jr.ireturn rfl rfl rfl (q _ (by omega) (by have hd : N - enf f N C x = r1 := w1_0.symm; have hm : mrf f N C x = r3 := w3_0.symm; unfold rfq; rw [hd, hm]; omega))
      · have sx40 : (1 : Int) ≤ y := by omega
        clear h40
        refine jr.aload_n rfl rfl ?_
        refine jr.getf (i := 3) (v := .ref 3) rfl rfl (by decide) rfl (by decide) rfl rfl rfl rfl ?_
        refine jr.iload_n rfl rfl ?_
        refine jr_v rfl rfl (Or.inl rfl) rfl rfl (by decide) rfl ⟨rfl, Nat.le_of_ble_eq_true rfl, Nat.le_of_ble_eq_true rfl⟩ rfl (jc.deep (c_Headers_offsetOf_x hC_M (show kd 3 = 18 from rfl) (by omega) g_C p0 (by omega) (by omega) (fun r4 z4 w4_0 => ?_)) (by decide))
        refine jr.iload_n rfl rfl ?_
        refine jr.iadd rfl ?_
        refine jr.sipush rfl (by decide) ?_
        refine jr.icmp_le rfl rfl (by omega) (by omega) (fun h56 => ?_) (fun h56 => ?_)
        · refine jr.iconst rfl ?_
          exact jr.ireturn rfl rfl rfl (q _ (by omega) (by have hd : N - enf f N C x = r1 := w1_0.symm; have hm : mrf f N C x = r3 := w3_0.symm; (try have ho : ofs f N C x = r4 := w4_0.symm); unfold rfq; rw [hd, hm]; omega))
        · refine jr.iconst rfl ?_
          refine jr.goto rfl rfl ?_
          exact jr.ireturn rfl rfl rfl (q _ (by omega) (by have hd : N - enf f N C x = r1 := w1_0.symm; have hm : mrf f N C x = r3 := w3_0.symm; (try have ho : ofs f N C x = r4 := w4_0.symm); unfold rfq; rw [hd, hm]; omega))
    · have sx23 : (1 : Int) ≤ r3 := by omega
      clear h23
      refine jr.iload_n rfl rfl ?_
      refine jr.bipush rfl (by decide) ?_
      refine jr.irem rfl (by decide) ?_
      have b5 : j_rem r1 8 = r1 % 8 := j_rem_ex (by omega) (by omega)
      generalize j_rem r1 8 = v5 at b5 ⊢
      refine jr.if_eq rfl rfl (by omega) (fun h30 => ?_) (fun h30 => ?_)
      · refine jr.iconst rfl ?_
        exact jr.ireturn rfl rfl rfl (q _ (by omega) (by have hd : N - enf f N C x = r1 := w1_0.symm; have hm : mrf f N C x = r3 := w3_0.symm; unfold rfq; rw [hd, hm]; omega))
      · have sx30 : (1 : Int) ≤ v5 := by omega
        clear h30
        refine jr.iconst rfl ?_
        refine jr.goto rfl rfl ?_
        exact jr.ireturn rfl rfl rfl (q _ (by omega) (by have hd : N - enf f N C x = r1 := w1_0.symm; have hm : mrf f N C x = r3 := w3_0.symm; unfold rfq; rw [hd, hm]; omega))
  · refine jr.iconst rfl ?_
    exact jr.ireturn rfl rfl rfl (q _ (by omega) (by have hd : N - enf f N C x = r1 := w1_0.symm; unfold rfq; rw [hd]; omega))
end
section
/-! ===== the class: a gathering begins, takes in, is ready ===== -/
noncomputable def BGA (T M : jm) (t : Nat) (x : Nat) (y : Int) : Prop := (M t 0 = 1 ∧ M t 1 = T x 1 ∧ M t 2 = T x 2 ∧ M t 3 = T x 3 ∧ M t 4 = T x 4 ∧ M t 5 = T x 5 ∧ M t 6 = y ∧ M t 7 = -1 ∧ M t 8 = 0 ∧ M t 11 = -1) ∧ (∀ k : Int, 0 ≤ k → k < 360 → M (t + 1) k = -1) ∧ ∀ (b : Nat) (k : Int), b ≠ t → b ≠ t + 1 → M b k = T b k
noncomputable def BGL (T M : jm) (t : Nat) (x : Nat) (y i : Int) : Prop := (M t 0 = 1 ∧ M t 1 = T x 1 ∧ M t 2 = T x 2 ∧ M t 3 = T x 3 ∧ M t 4 = T x 4 ∧ M t 5 = T x 5 ∧ M t 6 = y ∧ M t 7 = -1 ∧ M t 8 = 0 ∧ M t 11 = -1) ∧ (∀ k : Int, 0 ≤ k → k < i → M (t + 1) k = -1) ∧ ∀ (b : Nat) (k : Int), b ≠ t → b ≠ t + 1 → M b k = T b k
theorem BGL.s {T M : jm} {t x : Nat} {y i : Int} (h : BGL T M t x y i) (h0 : 0 ≤ i) : BGL T (ju M (t + 1) i (-1)) t x y (i + 1) := by
  have n : t ≠ t + 1 := by omega
  obtain ⟨h1, h2, h3⟩ := h
  refine ⟨by simp only [ju_c M _ n]; exact h1, fun k k0 k1 => ?_, fun b k b0 b1 => by rw [ju_c M _ b1]; exact h3 b k b0 b1⟩
  by_cases e : k = i
  · subst e; exact ju_same _ _ _ _
  · rw [ju_i M _ e]; exact h2 k k0 (by omega)
noncomputable def rbf (w c : Int) : Int := if w ≠ -1 then w else if c ≤ 64 then 64 else if c ≤ 128 then 128 else if c ≤ 256 then 256 else 360
noncomputable def lpf (w : Int) : Int := if w = -1 then 360 else if w ≤ 360 then w else 360
noncomputable def W_c_Gathering_beginAs_x : List (Nat × Nat) := [(15, 0), (15, 1), (15, 2), (15, 3), (15, 4), (15, 5), (15, 6), (15, 7), (15, 8), (15, 11), (17, 1000)]
theorem c_Gathering_beginAs_x_L67 {A : Nat → Option (Nat × (Nat → Int32))} {Q : Option Value → jm → Prop} {T : jm} {t : Nat} (k_t : kd t = 15) {y : Int} (q : ∀ (M' : jm), CI M' → FR W_c_Gathering_beginAs_x T M' → (BGA T M' t 11 y) → Q none M') : ∀ (nM : Nat) (M : jm) (i : Int), CI M → FR W_c_Gathering_beginAs_x T M → (-2147483648) ≤ y ∧ y ≤ 2147483647 → 0 ≤ i ∧ i ≤ 360 → (BGL T M t 11 y i) → 360 - i ≤ nM → jr A 0 xm_95 67 [(2, .int (Int32.ofInt (y))), (3, .int (Int32.ofInt (i))), (0, .ref (t)), (1, .ref (11))] [] M Q := by
  intro nM
  induction nM using Nat.strongRecOn with
  | ind nM ih =>
    intro M i hC_M ht_M h_y h_i hy0 hm
    refine jr.iload_n rfl rfl ?_
    refine jr.sipush rfl (by decide) ?_
    refine jr.icmp_ge rfl rfl (by omega) (by omega) (fun h71 => ?_) (fun h71 => ?_)
    · exact jr.vreturn rfl rfl (q _ hC_M ht_M  (by have h9 := hy0; rw [show i = 360 from by omega] at h9; exact h9))
    · refine jr.aload_n rfl rfl ?_
      have k1 := kf_15_9 k_t
      refine jr.getf (i := 9) (v := .ref (t + 1)) rfl rfl (Nat.lt_trans (kx_15 k_t).1 (by decide)) (kx_15 k_t).2 (by decide) rfl rfl rfl (jval_ref rfl k1.1) ?_
      refine jr.iload_n rfl rfl ?_
      refine jr.iconst rfl ?_
      refine jr.iast (i := i) (x := (-1)) rfl (Nat.lt_trans (kx_17 k1.2).1 (by decide)) (kx_17 k1.2).2 (by decide) (by omega) (by omega) ?_
      refine jr.iinc (ls' := [_, _, _, _]) rfl rfl (by decide) rfl ?_
      refine jr.goto rfl rfl ?_
      refine jr.pick (ls := [_, _, _, _]) [1, 0, 2, 3] rfl rfl ?_
      exact ih (nM - 1) (by omega) ((ju M ((t + 1)) i (-1))) (i + 1) (CI.u hC_M (i := i) k1.2 (show (-1 : Int) ≤ _ ∧ _ ≤ (255 : Int) from by omega) rfl) (FR.o ht_M k1.2 rfl) (by omega) (by omega) (BGL.s hy0 (by omega)) (by omega)
end
