section
theorem c_Parser_isSign_z {A : Nat → Option (Nat × (Nat → Int32))} [HA A] {Q : Option Value → jm → Prop} {M : jm} (hC_M : CI M) {x : Int} (h_x : 0 ≤ x ∧ x ≤ 65535) (q : ∀ (r : Int), 0 ≤ r ∧ r ≤ 1 → ((r = 1 ∧ M 413 6 = 3 ∧ M 413 11 = x) ∨ (r = 0 ∧ ¬ (M 413 6 = 3 ∧ M 413 11 = x))) → Q (some (.int (Int32.ofInt r))) M) : jc A 1 217 [.ref (413), .int (Int32.ofInt (x))] M Q := by
  refine jc_of (m := xm_217) rfl (Nat.le_of_ble_eq_true rfl) rfl ?_
  refine jr.aload_n rfl rfl ?_
  obtain ⟨v1, e1⟩ : ∃ z_, M 413 6 = z_ := ⟨_, rfl⟩
  have b1 : (-2147483648) ≤ v1 ∧ v1 ≤ 2147483647 := by rw [← e1]; exact (CI.r hC_M (show kd 413 = 44 from rfl) (by decide) 6)
  refine jr.getf (i := 6) (x := v1) (v := .int (Int32.ofInt (v1))) rfl rfl (by decide) rfl (by decide) rfl rfl e1 rfl ?_
  refine jr.iconst rfl ?_
  refine jr.icmp_ne rfl rfl (by omega) (by omega) (fun h5 => ?_) (fun h5 => ?_)
  · refine jr.iconst rfl ?_
    exact jr.ireturn rfl rfl rfl (q _ (by omega) (by omega))
  · refine jr.aload_n rfl rfl ?_
    obtain ⟨v2, e2⟩ : ∃ z_, M 413 11 = z_ := ⟨_, rfl⟩
    have b2 : 0 ≤ v2 ∧ v2 ≤ 255 := by rw [← e2]; exact (CI.r hC_M (show kd 413 = 44 from rfl) (by decide) 11)
    refine jr.getf (i := 11) (x := v2) (v := .int (Int32.ofInt (v2))) rfl rfl (by decide) rfl (by decide) rfl rfl e2 rfl ?_
    refine jr.iload_n rfl rfl ?_
    refine jr.icmp_ne rfl rfl (by omega) (by omega) (fun h13 => ?_) (fun h13 => ?_)
    · refine jr.iconst rfl ?_
      exact jr.ireturn rfl rfl rfl (q _ (by omega) (by omega))
    · refine jr.iconst rfl ?_
      refine jr.goto rfl rfl ?_
      exact jr.ireturn rfl rfl rfl (q _ (by omega) (by omega))
theorem c_Parser_isWord_z {A : Nat → Option (Nat × (Nat → Int32))} [HA A] {Q : Option Value → jm → Prop} {M : jm} (hC_M : CI M) {x : Int} (h_x : (-2147483648) ≤ x ∧ x ≤ 2147483647) (q : ∀ (r : Int), 0 ≤ r ∧ r ≤ 1 → ((r = 1 ∧ M 413 6 = 1 ∧ M 413 10 = x) ∨ (r = 0 ∧ ¬ (M 413 6 = 1 ∧ M 413 10 = x))) → Q (some (.int (Int32.ofInt r))) M) : jc A 1 218 [.ref (413), .int (Int32.ofInt (x))] M Q := by
  refine jc_of (m := xm_218) rfl (Nat.le_of_ble_eq_true rfl) rfl ?_
  refine jr.aload_n rfl rfl ?_
  obtain ⟨v1, e1⟩ : ∃ z_, M 413 6 = z_ := ⟨_, rfl⟩
  have b1 : (-2147483648) ≤ v1 ∧ v1 ≤ 2147483647 := by rw [← e1]; exact (CI.r hC_M (show kd 413 = 44 from rfl) (by decide) 6)
  refine jr.getf (i := 6) (x := v1) (v := .int (Int32.ofInt (v1))) rfl rfl (by decide) rfl (by decide) rfl rfl e1 rfl ?_
  refine jr.iconst rfl ?_
  refine jr.icmp_ne rfl rfl (by omega) (by omega) (fun h5 => ?_) (fun h5 => ?_)
  · refine jr.iconst rfl ?_
    exact jr.ireturn rfl rfl rfl (q _ (by omega) (by omega))
  · refine jr.aload_n rfl rfl ?_
    obtain ⟨v2, e2⟩ : ∃ z_, M 413 10 = z_ := ⟨_, rfl⟩
    have b2 : (-2147483648) ≤ v2 ∧ v2 ≤ 2147483647 := by rw [← e2]; exact (CI.r hC_M (show kd 413 = 44 from rfl) (by decide) 10)
    refine jr.getf (i := 10) (x := v2) (v := .int (Int32.ofInt (v2))) rfl rfl (by decide) rfl (by decide) rfl rfl e2 rfl ?_
    refine jr.iload_n rfl rfl ?_
    refine jr.icmp_ne rfl rfl (by omega) (by omega) (fun h13 => ?_) (fun h13 => ?_)
    · refine jr.iconst rfl ?_
      exact jr.ireturn rfl rfl rfl (q _ (by omega) (by omega))
    · refine jr.iconst rfl ?_
      refine jr.goto rfl rfl ?_
      exact jr.ireturn rfl rfl rfl (q _ (by omega) (by omega))
theorem c_Parser_isName_z {A : Nat → Option (Nat × (Nat → Int32))} [HA A] {Q : Option Value → jm → Prop} {M : jm} (hC_M : CI M) (q : ∀ (r : Int), 0 ≤ r ∧ r ≤ 1 → ((r = 1 ∧ M 413 6 = 1 ∧ M 413 10 = -1) ∨ (r = 0 ∧ ¬ (M 413 6 = 1 ∧ M 413 10 = -1))) → Q (some (.int (Int32.ofInt r))) M) : jc A 1 219 [.ref (413)] M Q := by
  refine jc_of (m := xm_219) rfl (Nat.le_of_ble_eq_true rfl) rfl ?_
  refine jr.aload_n rfl rfl ?_
  obtain ⟨v1, e1⟩ : ∃ z_, M 413 6 = z_ := ⟨_, rfl⟩
  have b1 : (-2147483648) ≤ v1 ∧ v1 ≤ 2147483647 := by rw [← e1]; exact (CI.r hC_M (show kd 413 = 44 from rfl) (by decide) 6)
  refine jr.getf (i := 6) (x := v1) (v := .int (Int32.ofInt (v1))) rfl rfl (by decide) rfl (by decide) rfl rfl e1 rfl ?_
  refine jr.iconst rfl ?_
  refine jr.icmp_ne rfl rfl (by omega) (by omega) (fun h5 => ?_) (fun h5 => ?_)
  · refine jr.iconst rfl ?_
    exact jr.ireturn rfl rfl rfl (q _ (by omega) (by omega))
  · refine jr.aload_n rfl rfl ?_
    obtain ⟨v2, e2⟩ : ∃ z_, M 413 10 = z_ := ⟨_, rfl⟩
    have b2 : (-2147483648) ≤ v2 ∧ v2 ≤ 2147483647 := by rw [← e2]; exact (CI.r hC_M (show kd 413 = 44 from rfl) (by decide) 10)
    refine jr.getf (i := 10) (x := v2) (v := .int (Int32.ofInt (v2))) rfl rfl (by decide) rfl (by decide) rfl rfl e2 rfl ?_
    refine jr.iconst rfl ?_
    refine jr.icmp_ne rfl rfl (by omega) (by omega) (fun h13 => ?_) (fun h13 => ?_)
    · refine jr.iconst rfl ?_
      exact jr.ireturn rfl rfl rfl (q _ (by omega) (by omega))
    · refine jr.iconst rfl ?_
      refine jr.goto rfl rfl ?_
      exact jr.ireturn rfl rfl rfl (q _ (by omega) (by omega))
theorem zrs_d {x : Int} (h : x ≠ 37 ∧ x ≠ 38 ∧ x ≠ 42 ∧ x ≠ 43 ∧ x ≠ 45 ∧ x ≠ 47 ∧ x ≠ 60 ∧ x ≠ 61 ∧ x ≠ 62 ∧ x ≠ 124) : zrs x = 9 := by
  obtain ⟨a1, a2, a3, a4, a5, a6, a7, a8, a9, a10⟩ := h
  unfold zrs
  rw [if_neg a10, if_neg a2, if_neg (fun q => q.elim a8 (fun q => q.elim a7 a9)), if_neg (fun q => q.elim a4 a5), if_neg (fun q => q.elim a3 (fun q => q.elim a6 a1))]
theorem c_Parser_rankOfSign_z {A : Nat → Option (Nat × (Nat → Int32))} [HA A] {Q : Option Value → jm → Prop} {M : jm} (hC_M : CI M) (q : ∀ (r : Int), 0 ≤ r ∧ r ≤ 9 → ((M 413 6 ≠ 3 ∧ r = 9) ∨ (M 413 6 = 3 ∧ r = zrs (M 413 11))) → Q (some (.int (Int32.ofInt r))) M) : jc A 1 204 [.ref (413)] M Q := by
  refine jc_of (m := xm_204) rfl (Nat.le_of_ble_eq_true rfl) rfl ?_
  refine jr.aload_n rfl rfl ?_
  obtain ⟨v1, e1⟩ : ∃ z_, M 413 6 = z_ := ⟨_, rfl⟩
  have b1 : (-2147483648) ≤ v1 ∧ v1 ≤ 2147483647 := by rw [← e1]; exact (CI.r hC_M (show kd 413 = 44 from rfl) (by decide) 6)
  refine jr.getf (i := 6) (x := v1) (v := .int (Int32.ofInt (v1))) rfl rfl (by decide) rfl (by decide) rfl rfl e1 rfl ?_
  refine jr.iconst rfl ?_
  refine jr.icmp_eq rfl rfl (by omega) (by omega) (fun h5 => ?_) (fun h5 => ?_)
  · refine jr.aload_n rfl rfl ?_
    obtain ⟨v2, e2⟩ : ∃ z_, M 413 11 = z_ := ⟨_, rfl⟩
    have b2 : 0 ≤ v2 ∧ v2 ≤ 255 := by rw [← e2]; exact (CI.r hC_M (show kd 413 = 44 from rfl) (by decide) 11)
    refine jr.getf (i := 11) (x := v2) (v := .int (Int32.ofInt (v2))) rfl rfl (by decide) rfl (by decide) rfl rfl e2 rfl ?_
    rcases (show v2 = 37 ∨ v2 = 38 ∨ v2 = 42 ∨ v2 = 43 ∨ v2 = 45 ∨ v2 = 47 ∨ v2 = 60 ∨ v2 = 61 ∨ v2 = 62 ∨ v2 = 124 ∨ (v2 ≠ 37 ∧ v2 ≠ 38 ∧ v2 ≠ 42 ∧ v2 ≠ 43 ∧ v2 ≠ 45 ∧ v2 ≠ 47 ∧ v2 ≠ 60 ∧ v2 ≠ 61 ∧ v2 ≠ 62 ∧ v2 ≠ 124) by omega) with h15 | h15 | h15 | h15 | h15 | h15 | h15 | h15 | h15 | h15 | h15
    · refine jr.lsw_k 37 rfl h15 rfl ?_
      refine jr.iconst rfl ?_
      exact jr.ireturn rfl rfl rfl (q _ (by omega) (Or.inr ⟨by rw [e1]; omega, by rw [e2, h15]; decide⟩))
    · refine jr.lsw_k 38 rfl h15 rfl ?_
      refine jr.iconst rfl ?_
      exact jr.ireturn rfl rfl rfl (q _ (by omega) (Or.inr ⟨by rw [e1]; omega, by rw [e2, h15]; decide⟩))
    · refine jr.lsw_k 42 rfl h15 rfl ?_
      refine jr.iconst rfl ?_
      exact jr.ireturn rfl rfl rfl (q _ (by omega) (Or.inr ⟨by rw [e1]; omega, by rw [e2, h15]; decide⟩))
    · refine jr.lsw_k 43 rfl h15 rfl ?_
      refine jr.iconst rfl ?_
      exact jr.ireturn rfl rfl rfl (q _ (by omega) (Or.inr ⟨by rw [e1]; omega, by rw [e2, h15]; decide⟩))
    · refine jr.lsw_k 45 rfl h15 rfl ?_
      refine jr.iconst rfl ?_
      exact jr.ireturn rfl rfl rfl (q _ (by omega) (Or.inr ⟨by rw [e1]; omega, by rw [e2, h15]; decide⟩))
    · refine jr.lsw_k 47 rfl h15 rfl ?_
      refine jr.iconst rfl ?_
      exact jr.ireturn rfl rfl rfl (q _ (by omega) (Or.inr ⟨by rw [e1]; omega, by rw [e2, h15]; decide⟩))
    · refine jr.lsw_k 60 rfl h15 rfl ?_
      refine jr.iconst rfl ?_
      exact jr.ireturn rfl rfl rfl (q _ (by omega) (Or.inr ⟨by rw [e1]; omega, by rw [e2, h15]; decide⟩))
    · refine jr.lsw_k 61 rfl h15 rfl ?_
      refine jr.iconst rfl ?_
      exact jr.ireturn rfl rfl rfl (q _ (by omega) (Or.inr ⟨by rw [e1]; omega, by rw [e2, h15]; decide⟩))
    · refine jr.lsw_k 62 rfl h15 rfl ?_
      refine jr.iconst rfl ?_
      exact jr.ireturn rfl rfl rfl (q _ (by omega) (Or.inr ⟨by rw [e1]; omega, by rw [e2, h15]; decide⟩))
    · refine jr.lsw_k 124 rfl h15 rfl ?_
      refine jr.iconst rfl ?_
      exact jr.ireturn rfl rfl rfl (q _ (by omega) (Or.inr ⟨by rw [e1]; omega, by rw [e2, h15]; decide⟩))
    · refine jr.lsw_d rfl (by omega) rfl (fun q hq => by simp only [List.mem_cons, List.not_mem_nil, or_false] at hq; rcases hq with rfl | rfl | rfl | rfl | rfl | rfl | rfl | rfl | rfl | rfl <;> (simp only; omega)) rfl ?_
      refine jr.bipush rfl (by decide) ?_
      exact jr.ireturn rfl rfl rfl (q _ (by omega) (Or.inr ⟨by rw [e1]; omega, by rw [e2]; exact (zrs_d h15).symm⟩))
  · refine jr.bipush rfl (by decide) ?_
    exact jr.ireturn rfl rfl rfl (q _ (by omega) (Or.inl ⟨by rw [e1]; omega, by omega⟩))
noncomputable def W_c_Parser_fail_z : List (Nat × Nat) := [(44, 0), (44, 1)]
theorem c_Parser_fail_z {A : Nat → Option (Nat × (Nat → Int32))} [HA A] {Q : Option Value → jm → Prop} {T : jm} {M : jm} (hC_M : CI M) (ht_M : FR W_c_Parser_fail_z T M) {x : Int} (h_x : 1 ≤ x ∧ x ≤ 7) {F : Int} (g_F : M 413 0 = F) {Fa : Int} (g_Fa : M 413 1 = Fa) {Tk : Int} (g_Tk : M 413 7 = Tk) (q : ∀ (M' : jm), CI M' → FR W_c_Parser_fail_z T M' → ((F = 0 ∧ M' 413 0 = x ∧ M' 413 1 = Tk) ∨ (F ≠ 0 ∧ M' 413 0 = F ∧ M' 413 1 = Fa)) → Q none M') : jc A 1 225 [.ref (413), .int (Int32.ofInt (x))] M Q := by
  refine jc_of (m := xm_225) rfl (Nat.le_of_ble_eq_true rfl) rfl ?_
  have b_F : (-2147483648) ≤ F ∧ F ≤ 2147483647 := by rw [← g_F]; exact (CI.r hC_M (show kd 413 = 44 from rfl) (by decide) 0)
  have b_Fa : (-2147483648) ≤ Fa ∧ Fa ≤ 2147483647 := by rw [← g_Fa]; exact (CI.r hC_M (show kd 413 = 44 from rfl) (by decide) 1)
  have b_Tk : 0 ≤ Tk ∧ Tk ≤ 1600 := by rw [← g_Tk]; exact (CI.r hC_M (show kd 413 = 44 from rfl) (by decide) 7)
  refine jr.aload_n rfl rfl ?_
  refine jr.getf (i := 0) (x := F) (v := .int (Int32.ofInt (F))) rfl rfl (by decide) rfl (by decide) rfl rfl g_F rfl ?_
  refine jr.if_ne rfl rfl (by omega) (fun h4 => ?_) (fun h4 => ?_)
  · exact jr.vreturn rfl rfl (q _ hC_M ht_M  (by have hq0 : M 413 0 = F := g_F; have hq1 : M 413 1 = Fa := g_Fa; omega))
  · refine jr.aload_n rfl rfl ?_
    refine jr.iload_n rfl rfl ?_
    refine jr.putf (i := 0) (x := x) rfl rfl (by decide) rfl (by decide) rfl rfl rfl rfl rfl ?_
    refine jr.aload_n rfl rfl ?_
    refine jr.aload_n rfl rfl ?_
    refine jr.getf (i := 7) (x := Tk) (v := .int (Int32.ofInt (Tk))) rfl rfl (by decide) rfl (by decide) rfl rfl ((ju_i _ _ (by decide)).trans g_Tk) rfl ?_
    refine jr.putf (i := 1) (x := Tk) rfl rfl (by decide) rfl (by decide) rfl rfl rfl rfl rfl ?_
    exact jr.vreturn rfl rfl (q _ (CI.u (CI.u hC_M (i := 0) (show kd 413 = 44 from rfl) (show (-2147483648 : Int) ≤ _ ∧ _ ≤ (2147483647 : Int) from by omega) rfl) (i := 1) (show kd 413 = 44 from rfl) (show (-2147483648 : Int) ≤ _ ∧ _ ≤ (2147483647 : Int) from by omega) rfl) (FR.o (FR.o ht_M (show kd 413 = 44 from rfl) rfl) (show kd 413 = 44 from rfl) rfl)  (by have hq0 : (ju (ju M 413 0 x) 413 1 Tk) 413 0 = x := ((ju_i _ _ (by decide)).trans (ju_same _ _ _ _)); have hq1 : (ju (ju M 413 0 x) 413 1 Tk) 413 1 = Tk := (ju_same _ _ _ _); omega))
theorem rfz_n {F K Tk Fa a b : Int} (hk : K ≠ 4) (w : (F = 0 ∧ a = 2 ∧ b = Tk) ∨ (F ≠ 0 ∧ a = F ∧ b = Fa)) : (F = 0 ∧ ((K = 4 ∧ a = 1) ∨ (K ≠ 4 ∧ a = 2)) ∧ b = Tk) ∨ (F ≠ 0 ∧ a = F ∧ b = Fa) :=
  Or.imp (fun z => ⟨z.1, Or.inr ⟨hk, z.2.1⟩, z.2.2⟩) id w
theorem rfz_y {F K Tk Fa a b : Int} (hk : K = 4) (w : (F = 0 ∧ a = 1 ∧ b = Tk) ∨ (F ≠ 0 ∧ a = F ∧ b = Fa)) : (F = 0 ∧ ((K = 4 ∧ a = 1) ∨ (K ≠ 4 ∧ a = 2)) ∧ b = Tk) ∨ (F ≠ 0 ∧ a = F ∧ b = Fa) :=
  Or.imp (fun z => ⟨z.1, Or.inl ⟨hk, z.2.1⟩, z.2.2⟩) id w
theorem ndq_y {F k Tk Fa a b c : Int} (hk : k < 300) (ec : c = k + 1) (ea : a = F) (eb : b = Fa) : (F = 0 ∧ k < 300 ∧ c = k + 1 ∧ a = 0 ∧ b = Fa) ∨ (F = 0 ∧ 300 ≤ k ∧ c = k ∧ a = 3 ∧ b = Tk) ∨ (F ≠ 0 ∧ a = F ∧ b = Fa) := by
  by_cases q : F = 0
  · exact Or.inl ⟨q, hk, ec, ea.trans q, eb⟩
  · exact Or.inr (Or.inr ⟨q, ea, eb⟩)
theorem ndq_n {F k Tk Fa a b c : Int} (hk : 300 ≤ k) (ec : c = k) (w : (F = 0 ∧ a = 3 ∧ b = Tk) ∨ (F ≠ 0 ∧ a = F ∧ b = Fa)) : (F = 0 ∧ k < 300 ∧ c = k + 1 ∧ a = 0 ∧ b = Fa) ∨ (F = 0 ∧ 300 ≤ k ∧ c = k ∧ a = 3 ∧ b = Tk) ∨ (F ≠ 0 ∧ a = F ∧ b = Fa) :=
  Or.inr (Or.imp (fun z => ⟨z.1, hk, ec, z.2⟩) id w)
theorem opq_y {F K S x y Tk Fa a b : Int} (hp : K = 3 ∧ S = x) (hy : y < 12) (ea : a = F) (eb : b = Fa) : (F = 0 ∧ K = 3 ∧ S = x ∧ y < 12 ∧ a = 0 ∧ b = Fa) ∨ (F = 0 ∧ K = 3 ∧ S = x ∧ 12 ≤ y ∧ a = 3 ∧ b = Tk) ∨ (F = 0 ∧ ¬ (K = 3 ∧ S = x) ∧ ((K = 4 ∧ a = 1) ∨ (K ≠ 4 ∧ a = 2)) ∧ b = Tk) ∨ (F ≠ 0 ∧ a = F ∧ b = Fa) := by
  by_cases q : F = 0
  · exact Or.inl ⟨q, hp.1, hp.2, hy, ea.trans q, eb⟩
  · exact Or.inr (Or.inr (Or.inr ⟨q, ea, eb⟩))
theorem opq_m {F K S x y Tk Fa a b : Int} (hp : K = 3 ∧ S = x) (hy : 12 ≤ y) (w : (F = 0 ∧ a = 3 ∧ b = Tk) ∨ (F ≠ 0 ∧ a = F ∧ b = Fa)) : (F = 0 ∧ K = 3 ∧ S = x ∧ y < 12 ∧ a = 0 ∧ b = Fa) ∨ (F = 0 ∧ K = 3 ∧ S = x ∧ 12 ≤ y ∧ a = 3 ∧ b = Tk) ∨ (F = 0 ∧ ¬ (K = 3 ∧ S = x) ∧ ((K = 4 ∧ a = 1) ∨ (K ≠ 4 ∧ a = 2)) ∧ b = Tk) ∨ (F ≠ 0 ∧ a = F ∧ b = Fa) := by
  rcases w with w | w
  · exact Or.inr (Or.inl ⟨w.1, hp.1, hp.2, hy, w.2⟩)
  · exact Or.inr (Or.inr (Or.inr w))
theorem opq_n {F K S x y Tk Fa a b : Int} (hp : ¬ (K = 3 ∧ S = x)) (w : (F = 0 ∧ ((K = 4 ∧ a = 1) ∨ (K ≠ 4 ∧ a = 2)) ∧ b = Tk) ∨ (F ≠ 0 ∧ a = F ∧ b = Fa)) : (F = 0 ∧ K = 3 ∧ S = x ∧ y < 12 ∧ a = 0 ∧ b = Fa) ∨ (F = 0 ∧ K = 3 ∧ S = x ∧ 12 ≤ y ∧ a = 3 ∧ b = Tk) ∨ (F = 0 ∧ ¬ (K = 3 ∧ S = x) ∧ ((K = 4 ∧ a = 1) ∨ (K ≠ 4 ∧ a = 2)) ∧ b = Tk) ∨ (F ≠ 0 ∧ a = F ∧ b = Fa) := by
  rcases w with w | w
  · exact Or.inr (Or.inr (Or.inl ⟨w.1, hp, w.2⟩))
  · exact Or.inr (Or.inr (Or.inr w))
theorem opw_m {F y Tk Fa a b : Int} (w : (F = 0 ∧ a = 3 ∧ b = Tk) ∨ (F ≠ 0 ∧ a = F ∧ b = Fa)) : a ≠ 0 ∨ y ≤ 11 := by
  rcases w with w | w
  · exact Or.inl (fun e => absurd (w.2.1.symm.trans e) (by decide))
  · exact Or.inl (fun e => w.1 (w.2.1.symm.trans e))
theorem opw_n {F K y Tk Fa a b : Int} (w : (F = 0 ∧ ((K = 4 ∧ a = 1) ∨ (K ≠ 4 ∧ a = 2)) ∧ b = Tk) ∨ (F ≠ 0 ∧ a = F ∧ b = Fa)) : a ≠ 0 ∨ y ≤ 11 := by
  rcases w with w | w
  · rcases w.2.1 with v | v
    · exact Or.inl (fun e => absurd (v.2.symm.trans e) (by decide))
    · exact Or.inl (fun e => absurd (v.2.symm.trans e) (by decide))
  · exact Or.inl (fun e => w.1 (w.2.1.symm.trans e))
noncomputable def W_c_Parser_refuse_z : List (Nat × Nat) := [(44, 0), (44, 1)]
theorem c_Parser_refuse_z {A : Nat → Option (Nat × (Nat → Int32))} [HA A] {Q : Option Value → jm → Prop} {T : jm} {M : jm} (hC_M : CI M) (ht_M : FR W_c_Parser_refuse_z T M) {F : Int} (g_F : M 413 0 = F) {Fa : Int} (g_Fa : M 413 1 = Fa) {Tk : Int} (g_Tk : M 413 7 = Tk) {K : Int} (g_K : M 413 6 = K) (q : ∀ (M' : jm), CI M' → FR W_c_Parser_refuse_z T M' → ((F = 0 ∧ ((K = 4 ∧ M' 413 0 = 1) ∨ (K ≠ 4 ∧ M' 413 0 = 2)) ∧ M' 413 1 = Tk) ∨ (F ≠ 0 ∧ M' 413 0 = F ∧ M' 413 1 = Fa)) → Q none M') : jc A 2 224 [.ref (413)] M Q := by
  refine jc_of (m := xm_224) rfl (Nat.le_of_ble_eq_true rfl) rfl ?_
  have b_F : (-2147483648) ≤ F ∧ F ≤ 2147483647 := by rw [← g_F]; exact (CI.r hC_M (show kd 413 = 44 from rfl) (by decide) 0)
  have b_Fa : (-2147483648) ≤ Fa ∧ Fa ≤ 2147483647 := by rw [← g_Fa]; exact (CI.r hC_M (show kd 413 = 44 from rfl) (by decide) 1)
  have b_Tk : 0 ≤ Tk ∧ Tk ≤ 1600 := by rw [← g_Tk]; exact (CI.r hC_M (show kd 413 = 44 from rfl) (by decide) 7)
  have b_K : (-2147483648) ≤ K ∧ K ≤ 2147483647 := by rw [← g_K]; exact (CI.r hC_M (show kd 413 = 44 from rfl) (by decide) 6)
  refine jr.aload_n rfl rfl ?_
  refine jr.aload_n rfl rfl ?_
  refine jr.getf (i := 6) (x := K) (v := .int (Int32.ofInt (K))) rfl rfl (by decide) rfl (by decide) rfl rfl g_K rfl ?_
  refine jr.iconst rfl ?_
  refine jr.icmp_ne rfl rfl (by omega) (by omega) (fun h6 => ?_) (fun h6 => ?_)
  · refine jr.iconst rfl ?_
    refine jr_v rfl rfl (Or.inl rfl) rfl rfl (by decide) rfl ⟨rfl, Nat.le_of_ble_eq_true rfl, Nat.le_of_ble_eq_true rfl⟩ rfl (jc.deep (c_Parser_fail_z hC_M (FR.rfl _ M) (by omega) g_F g_Fa g_Tk (fun M1 hC_M1 hf_M1 w1_0 => ?_)) (by decide))
    have ht_M1 : FR W_c_Parser_refuse_z T M1 := FR.t ht_M hf_M1 (kw_sub rfl)
    obtain ⟨v2, e2⟩ : ∃ z_, M1 413 0 = z_ := ⟨_, rfl⟩
    have b2 : (-2147483648) ≤ v2 ∧ v2 ≤ 2147483647 := by rw [← e2]; exact (CI.r hC_M1 (show kd 413 = 44 from rfl) (by decide) 0)
    obtain ⟨v3, e3⟩ : ∃ z_, M1 413 1 = z_ := ⟨_, rfl⟩
    have b3 : (-2147483648) ≤ v3 ∧ v3 ≤ 2147483647 := by rw [← e3]; exact (CI.r hC_M1 (show kd 413 = 44 from rfl) (by decide) 1)
    exact jr.vreturn rfl rfl (q _ hC_M1 ht_M1  (by first | exact rfz_n (by omega) w1_0 | exact rfz_y (by omega) w1_0))
  · refine jr.iconst rfl ?_
    refine jr.goto rfl rfl ?_
    refine jr_v rfl rfl (Or.inl rfl) rfl rfl (by decide) rfl ⟨rfl, Nat.le_of_ble_eq_true rfl, Nat.le_of_ble_eq_true rfl⟩ rfl (jc.deep (c_Parser_fail_z hC_M (FR.rfl _ M) (by omega) g_F g_Fa g_Tk (fun M4 hC_M4 hf_M4 w4_0 => ?_)) (by decide))
    have ht_M4 : FR W_c_Parser_refuse_z T M4 := FR.t ht_M hf_M4 (kw_sub rfl)
    obtain ⟨v5, e5⟩ : ∃ z_, M4 413 0 = z_ := ⟨_, rfl⟩
    have b5 : (-2147483648) ≤ v5 ∧ v5 ≤ 2147483647 := by rw [← e5]; exact (CI.r hC_M4 (show kd 413 = 44 from rfl) (by decide) 0)
    obtain ⟨v6, e6⟩ : ∃ z_, M4 413 1 = z_ := ⟨_, rfl⟩
    have b6 : (-2147483648) ≤ v6 ∧ v6 ≤ 2147483647 := by rw [← e6]; exact (CI.r hC_M4 (show kd 413 = 44 from rfl) (by decide) 1)
    exact jr.vreturn rfl rfl (q _ hC_M4 ht_M4  (by first | exact rfz_n (by omega) w4_0 | exact rfz_y (by omega) w4_0))
noncomputable def W_c_Parser_countNode_z : List (Nat × Nat) := [(44, 0), (44, 1), (47, 4)]
theorem c_Parser_countNode_z {A : Nat → Option (Nat × (Nat → Int32))} [HA A] {Q : Option Value → jm → Prop} {G : Nat → Int → Int} {T : jm} {M : jm} (hC_M : CI M) (ht_M : FR W_c_Parser_countNode_z T M) {F : Int} (g_F : M 413 0 = F) {Fa : Int} (g_Fa : M 413 1 = Fa) {Tk : Int} (g_Tk : M 413 7 = Tk) {P : Int} (g_P : M 413 2 = P) {k : Int} (g_k : M ((P.toNat)) 4 = k) (p0 : MP M G) (q : ∀ (M' : jm), CI M' → FR W_c_Parser_countNode_z T M' → (MP M' G) → ((F = 0 ∧ k < 300 ∧ M' P.toNat 4 = k + 1 ∧ M' 413 0 = 0 ∧ M' 413 1 = Fa) ∨ (F = 0 ∧ 300 ≤ k ∧ M' P.toNat 4 = k ∧ M' 413 0 = 3 ∧ M' 413 1 = Tk) ∨ (F ≠ 0 ∧ M' 413 0 = F ∧ M' 413 1 = Fa)) → Q none M') : jc A 2 223 [.ref (413)] M Q := by
  refine jc_of (m := xm_223) rfl (Nat.le_of_ble_eq_true rfl) rfl ?_
  have b_F : (-2147483648) ≤ F ∧ F ≤ 2147483647 := by rw [← g_F]; exact (CI.r hC_M (show kd 413 = 44 from rfl) (by decide) 0)
  have b_Fa : (-2147483648) ≤ Fa ∧ Fa ≤ 2147483647 := by rw [← g_Fa]; exact (CI.r hC_M (show kd 413 = 44 from rfl) (by decide) 1)
  have b_Tk : 0 ≤ Tk ∧ Tk ≤ 1600 := by rw [← g_Tk]; exact (CI.r hC_M (show kd 413 = 44 from rfl) (by decide) 7)
  have k_P : kd P.toNat = 47 := (congrArg (fun z : Int => kd z.toNat) g_P).symm.trans (CI.x hC_M (show kd 413 = 44 from rfl) 2 rfl (by decide))
  have b_k : (-2147483648) ≤ k ∧ k ≤ 2147483647 := by rw [← g_k]; exact (CI.r hC_M k_P (by decide) 4)
  refine jr.aload_n rfl rfl ?_
  refine jr.getf (i := 2) (x := P) (v := .ref (P.toNat)) rfl rfl (by decide) rfl (by decide) rfl rfl g_P rfl ?_
  refine jr.getf (i := 4) (x := k) (v := .int (Int32.ofInt (k))) rfl rfl (Nat.lt_trans (kx_47 k_P).1 (by decide)) (kx_47 k_P).2 (by decide) rfl rfl g_k rfl ?_
  refine jr.sipush rfl (by decide) ?_
  refine jr.icmp_lt rfl rfl (by omega) (by omega) (fun h10 => ?_) (fun h10 => ?_)
  · refine jr.aload_n rfl rfl ?_
    refine jr.getf (i := 2) (x := P) (v := .ref (P.toNat)) rfl rfl (by decide) rfl (by decide) rfl rfl g_P rfl ?_
    refine jr.dup rfl rfl ?_
    refine jr.getf (i := 4) (x := k) (v := .int (Int32.ofInt (k))) rfl rfl (Nat.lt_trans (kx_47 k_P).1 (by decide)) (kx_47 k_P).2 (by decide) rfl rfl g_k rfl ?_
    refine jr.iconst rfl ?_
    refine jr.iadd rfl ?_
    refine jr.putf (i := 4) (x := (k + 1)) rfl rfl (Nat.lt_trans (kx_47 k_P).1 (by decide)) (kx_47 k_P).2 (by decide) rfl rfl rfl rfl rfl ?_
    exact jr.vreturn rfl rfl (q _ (CI.u hC_M (i := 4) k_P (show (-2147483648 : Int) ≤ _ ∧ _ ≤ (2147483647 : Int) from by omega) rfl) (FR.o ht_M k_P rfl)  (MP.w p0 hC_M g_P ⟨by omega, by omega⟩) (ndq_y (by omega) (ju_same _ _ _ _) ((ju_i _ _ (by decide)).trans g_F) ((ju_i _ _ (by decide)).trans g_Fa)))
  · refine jr.aload_n rfl rfl ?_
    refine jr.iconst rfl ?_
    refine jr_v rfl rfl (Or.inl rfl) rfl rfl (by decide) rfl ⟨rfl, Nat.le_of_ble_eq_true rfl, Nat.le_of_ble_eq_true rfl⟩ rfl (jc.deep (c_Parser_fail_z hC_M (FR.rfl _ M) (by omega) g_F g_Fa g_Tk (fun M3 hC_M3 hf_M3 w3_0 => ?_)) (by decide))
    have ht_M3 : FR W_c_Parser_countNode_z T M3 := FR.t ht_M hf_M3 (kw_sub rfl)
    obtain ⟨v4, e4⟩ : ∃ z_, M3 413 0 = z_ := ⟨_, rfl⟩
    have b4 : (-2147483648) ≤ v4 ∧ v4 ≤ 2147483647 := by rw [← e4]; exact (CI.r hC_M3 (show kd 413 = 44 from rfl) (by decide) 0)
    obtain ⟨v5, e5⟩ : ∃ z_, M3 413 1 = z_ := ⟨_, rfl⟩
    have b5 : (-2147483648) ≤ v5 ∧ v5 ≤ 2147483647 := by rw [← e5]; exact (CI.r hC_M3 (show kd 413 = 44 from rfl) (by decide) 1)
    have e6 : M3 ((P.toNat)) 4 = k := (hf_M3.g k_P rfl).trans g_k
    exact jr.vreturn rfl rfl (q _ hC_M3 ht_M3  (MP.fr p0 hC_M hf_M3 rfl) (ndq_n (by omega) e6 w3_0))
theorem exq_y {P : Prop} {F K Tk Fa a b : Int} (hp : P) (ea : a = F) (eb : b = Fa) : (F = 0 ∧ P ∧ a = 0 ∧ b = Fa) ∨ (F = 0 ∧ ¬ P ∧ ((K = 4 ∧ a = 1) ∨ (K ≠ 4 ∧ a = 2)) ∧ b = Tk) ∨ (F ≠ 0 ∧ a = F ∧ b = Fa) := by
  by_cases q : F = 0
  · exact Or.inl ⟨q, hp, ea.trans q, eb⟩
  · exact Or.inr (Or.inr ⟨q, ea, eb⟩)
theorem exq_n {P : Prop} {F K Tk Fa a b : Int} (hp : ¬ P) (w : (F = 0 ∧ ((K = 4 ∧ a = 1) ∨ (K ≠ 4 ∧ a = 2)) ∧ b = Tk) ∨ (F ≠ 0 ∧ a = F ∧ b = Fa)) : (F = 0 ∧ P ∧ a = 0 ∧ b = Fa) ∨ (F = 0 ∧ ¬ P ∧ ((K = 4 ∧ a = 1) ∨ (K ≠ 4 ∧ a = 2)) ∧ b = Tk) ∨ (F ≠ 0 ∧ a = F ∧ b = Fa) := by
  rcases w with w | w
  · exact Or.inr (Or.inl ⟨w.1, hp, w.2⟩)
  · exact Or.inr (Or.inr w)
noncomputable def W_c_Parser_expect_z : List (Nat × Nat) := [(44, 0), (44, 1), (44, 6), (44, 7), (44, 8), (44, 9), (44, 10), (44, 11)]
theorem c_Parser_expect_z {A : Nat → Option (Nat × (Nat → Int32))} [HA A] {Q : Option Value → jm → Prop} {f : Int → Int} {N : Int} {T : jm} {M : jm} (hC_M : CI M) (ht_M : FR W_c_Parser_expect_z T M) {x : Int} (h_x : 0 ≤ x ∧ x ≤ 65535) {F : Int} (g_F : M 413 0 = F) {Fa : Int} (g_Fa : M 413 1 = Fa) {Tk : Int} (g_Tk : M 413 7 = Tk) {K : Int} (g_K : M 413 6 = K) {E : Int} (g_E : M 413 8 = E) {S : Int} (g_S : M 413 11 = S) (p0 : 1 ≤ M 413 3 ∧ M 413 3 ≤ 1) (p1 : TXc f N M) (p2 : M 413 8 ≤ N ∧ (M 413 6 = 1 → M 413 7 < M 413 8)) (q : ∀ (M' : jm), CI M' → FR W_c_Parser_expect_z T M' → ((F = 0 ∧ (K = 3 ∧ S = x) ∧ M' 413 0 = 0 ∧ M' 413 1 = Fa) ∨ (F = 0 ∧ ¬ (K = 3 ∧ S = x) ∧ ((K = 4 ∧ M' 413 0 = 1) ∨ (K ≠ 4 ∧ M' 413 0 = 2)) ∧ M' 413 1 = Tk) ∨ (F ≠ 0 ∧ M' 413 0 = F ∧ M' 413 1 = Fa)) → (M' 413 0 ≠ 0 ∨ TKc f N (zsp zbl f N E) M') → (M' 413 8 ≤ N ∧ (M' 413 6 = 1 → M' 413 7 < M' 413 8)) → Q none M') : jc A 7 220 [.ref (413), .int (Int32.ofInt (x))] M Q := by
  refine jc_of (m := xm_220) rfl (Nat.le_of_ble_eq_true rfl) rfl ?_
  have b_F : (-2147483648) ≤ F ∧ F ≤ 2147483647 := by rw [← g_F]; exact (CI.r hC_M (show kd 413 = 44 from rfl) (by decide) 0)
  have b_Fa : (-2147483648) ≤ Fa ∧ Fa ≤ 2147483647 := by rw [← g_Fa]; exact (CI.r hC_M (show kd 413 = 44 from rfl) (by decide) 1)
  have b_Tk : 0 ≤ Tk ∧ Tk ≤ 1600 := by rw [← g_Tk]; exact (CI.r hC_M (show kd 413 = 44 from rfl) (by decide) 7)
  have b_K : (-2147483648) ≤ K ∧ K ≤ 2147483647 := by rw [← g_K]; exact (CI.r hC_M (show kd 413 = 44 from rfl) (by decide) 6)
  have b_E : 0 ≤ E ∧ E ≤ 1600 := by rw [← g_E]; exact (CI.r hC_M (show kd 413 = 44 from rfl) (by decide) 8)
  have b_S : 0 ≤ S ∧ S ≤ 255 := by rw [← g_S]; exact (CI.r hC_M (show kd 413 = 44 from rfl) (by decide) 11)
  obtain ⟨v1, e1⟩ : ∃ z_, M 413 3 = z_ := ⟨_, rfl⟩
  have b1 : 1 ≤ v1 ∧ v1 ≤ 419 := by rw [← e1]; exact (CI.r hC_M (show kd 413 = 44 from rfl) (by decide) 3)
  have b2 : 1 ≤ v1 ∧ v1 ≤ 1 := by rw [← e1]; exact p0
  have e3 : M 413 8 = E := g_E
  have e4 : M 413 6 = K := g_K
  have e5 : M 413 7 = Tk := g_Tk
  refine jr.aload_n rfl rfl ?_
  refine jr.iload_n rfl rfl ?_
  refine jr_v rfl rfl (Or.inl rfl) rfl rfl (by decide) rfl ⟨rfl, Nat.le_of_ble_eq_true rfl, Nat.le_of_ble_eq_true rfl⟩ rfl (jc.deep (c_Parser_isSign_z hC_M (by omega) (fun r6 z6 w6_0 => ?_)) (by decide))
  refine jr.if_ne rfl rfl (by omega) (fun h5 => ?_) (fun h5 => ?_)
  · refine jr.aload_n rfl rfl ?_
    refine jr_v rfl rfl (Or.inl rfl) rfl rfl (by decide) rfl ⟨rfl, Nat.le_of_ble_eq_true rfl, Nat.le_of_ble_eq_true rfl⟩ rfl (jc.deep (c_Parser_advance_z hC_M (FR.rfl _ M)  g_F g_E (by have hq0 : M 413 3 = v1 := e1; omega) p1 p2 (fun M7 hC_M7 hf_M7 w7_0 w7_1 => ?_)) (by decide))
    have ht_M7 : FR W_c_Parser_expect_z T M7 := FR.t ht_M hf_M7 (kw_sub rfl)
    obtain ⟨v8, e8⟩ : ∃ z_, M7 413 8 = z_ := ⟨_, rfl⟩
    have b8 : 0 ≤ v8 ∧ v8 ≤ 1600 := by rw [← e8]; exact (CI.r hC_M7 (show kd 413 = 44 from rfl) (by decide) 8)
    obtain ⟨v9, e9⟩ : ∃ z_, M7 413 6 = z_ := ⟨_, rfl⟩
    have b9 : (-2147483648) ≤ v9 ∧ v9 ≤ 2147483647 := by rw [← e9]; exact (CI.r hC_M7 (show kd 413 = 44 from rfl) (by decide) 6)
    obtain ⟨v10, e10⟩ : ∃ z_, M7 413 7 = z_ := ⟨_, rfl⟩
    have b10 : 0 ≤ v10 ∧ v10 ≤ 1600 := by rw [← e10]; exact (CI.r hC_M7 (show kd 413 = 44 from rfl) (by decide) 7)
    have e11 : M7 413 0 = F := (hf_M7.g (show kd 413 = 44 from rfl) rfl).trans g_F
    have e12 : M7 413 1 = Fa := (hf_M7.g (show kd 413 = 44 from rfl) rfl).trans g_Fa
    exact jr.vreturn rfl rfl (q _ hC_M7 ht_M7  (exq_y (by have z := (w6_0.resolve_right (fun z => by omega)).2; rw [g_K, g_S] at z; exact z) e11 e12) (w7_0.imp (fun z => by have h0 : M7 413 0 = F := e11; omega) id) w7_1)
  · refine jr.aload_n rfl rfl ?_
    refine jr_v rfl rfl (Or.inl rfl) rfl rfl (by decide) rfl ⟨rfl, Nat.le_of_ble_eq_true rfl, Nat.le_of_ble_eq_true rfl⟩ rfl (jc.deep (c_Parser_refuse_z hC_M (FR.rfl _ M)  g_F g_Fa g_Tk g_K (fun M13 hC_M13 hf_M13 w13_0 => ?_)) (by decide))
    have ht_M13 : FR W_c_Parser_expect_z T M13 := FR.t ht_M hf_M13 (kw_sub rfl)
    obtain ⟨v14, e14⟩ : ∃ z_, M13 413 0 = z_ := ⟨_, rfl⟩
    have b14 : (-2147483648) ≤ v14 ∧ v14 ≤ 2147483647 := by rw [← e14]; exact (CI.r hC_M13 (show kd 413 = 44 from rfl) (by decide) 0)
    obtain ⟨v15, e15⟩ : ∃ z_, M13 413 1 = z_ := ⟨_, rfl⟩
    have b15 : (-2147483648) ≤ v15 ∧ v15 ≤ 2147483647 := by rw [← e15]; exact (CI.r hC_M13 (show kd 413 = 44 from rfl) (by decide) 1)
    refine jr.aload_n rfl rfl ?_
    have e17 : M13 413 8 = E := (hf_M13.g (show kd 413 = 44 from rfl) rfl).trans g_E
    have e18 : M13 413 3 = v1 := (hf_M13.g (show kd 413 = 44 from rfl) rfl).trans e1
    have e19 : M13 413 6 = K := (hf_M13.g (show kd 413 = 44 from rfl) rfl).trans g_K
    have e20 : M13 413 7 = Tk := (hf_M13.g (show kd 413 = 44 from rfl) rfl).trans g_Tk
    refine jr_v rfl rfl (Or.inl rfl) rfl rfl (by decide) rfl ⟨rfl, Nat.le_of_ble_eq_true rfl, Nat.le_of_ble_eq_true rfl⟩ rfl (jc.deep (c_Parser_advance_z hC_M13 (FR.rfl _ M13)  e14 e17 (by have hq0 : M13 413 3 = v1 := e18; omega) (TXc.fr p1 hf_M13 rfl) (by rw [e17, e19, e20]; rw [g_E, g_K, g_Tk] at p2; exact p2) (fun M16 hC_M16 hf_M16 w16_0 w16_1 => ?_)) (by decide))
    have ht_M16 : FR W_c_Parser_expect_z T M16 := FR.t ht_M13 hf_M16 (kw_sub rfl)
    obtain ⟨v21, e21⟩ : ∃ z_, M16 413 8 = z_ := ⟨_, rfl⟩
    have b21 : 0 ≤ v21 ∧ v21 ≤ 1600 := by rw [← e21]; exact (CI.r hC_M16 (show kd 413 = 44 from rfl) (by decide) 8)
    obtain ⟨v22, e22⟩ : ∃ z_, M16 413 6 = z_ := ⟨_, rfl⟩
    have b22 : (-2147483648) ≤ v22 ∧ v22 ≤ 2147483647 := by rw [← e22]; exact (CI.r hC_M16 (show kd 413 = 44 from rfl) (by decide) 6)
    obtain ⟨v23, e23⟩ : ∃ z_, M16 413 7 = z_ := ⟨_, rfl⟩
    have b23 : 0 ≤ v23 ∧ v23 ≤ 1600 := by rw [← e23]; exact (CI.r hC_M16 (show kd 413 = 44 from rfl) (by decide) 7)
    have e24 : M16 413 0 = v14 := (hf_M16.g (show kd 413 = 44 from rfl) rfl).trans e14
    have e25 : M16 413 1 = v15 := (hf_M16.g (show kd 413 = 44 from rfl) rfl).trans e15
    exact jr.vreturn rfl rfl (q _ hC_M16 ht_M16  (by rw [e24, e25, ← e14, ← e15]; exact exq_n (by have z := (w6_0.resolve_left (fun z => by omega)).2; rw [g_K, g_S] at z; exact z) w13_0) (w16_0.imp (fun z => by have h0 : M16 413 0 = v14 := e24; omega) id) w16_1)
noncomputable def W_c_Parser_expectName_z : List (Nat × Nat) := [(44, 0), (44, 1), (44, 6), (44, 7), (44, 8), (44, 9), (44, 10), (44, 11)]
theorem c_Parser_expectName_z {A : Nat → Option (Nat × (Nat → Int32))} [HA A] {Q : Option Value → jm → Prop} {f : Int → Int} {N : Int} {T : jm} {M : jm} (hC_M : CI M) (ht_M : FR W_c_Parser_expectName_z T M) {F : Int} (g_F : M 413 0 = F) {Fa : Int} (g_Fa : M 413 1 = Fa) {Tk : Int} (g_Tk : M 413 7 = Tk) {K : Int} (g_K : M 413 6 = K) {E : Int} (g_E : M 413 8 = E) {W : Int} (g_W : M 413 10 = W) (p0 : 1 ≤ M 413 3 ∧ M 413 3 ≤ 1) (p1 : TXc f N M) (p2 : M 413 8 ≤ N ∧ (M 413 6 = 1 → M 413 7 < M 413 8)) (q : ∀ (M' : jm), CI M' → FR W_c_Parser_expectName_z T M' → ((F = 0 ∧ (K = 1 ∧ W = -1) ∧ M' 413 0 = 0 ∧ M' 413 1 = Fa) ∨ (F = 0 ∧ ¬ (K = 1 ∧ W = -1) ∧ ((K = 4 ∧ M' 413 0 = 1) ∨ (K ≠ 4 ∧ M' 413 0 = 2)) ∧ M' 413 1 = Tk) ∨ (F ≠ 0 ∧ M' 413 0 = F ∧ M' 413 1 = Fa)) → (M' 413 0 ≠ 0 ∨ TKc f N (zsp zbl f N E) M') → (M' 413 8 ≤ N ∧ (M' 413 6 = 1 → M' 413 7 < M' 413 8)) → Q none M') : jc A 7 221 [.ref (413)] M Q := by
  refine jc_of (m := xm_221) rfl (Nat.le_of_ble_eq_true rfl) rfl ?_
  have b_F : (-2147483648) ≤ F ∧ F ≤ 2147483647 := by rw [← g_F]; exact (CI.r hC_M (show kd 413 = 44 from rfl) (by decide) 0)
  have b_Fa : (-2147483648) ≤ Fa ∧ Fa ≤ 2147483647 := by rw [← g_Fa]; exact (CI.r hC_M (show kd 413 = 44 from rfl) (by decide) 1)
  have b_Tk : 0 ≤ Tk ∧ Tk ≤ 1600 := by rw [← g_Tk]; exact (CI.r hC_M (show kd 413 = 44 from rfl) (by decide) 7)
  have b_K : (-2147483648) ≤ K ∧ K ≤ 2147483647 := by rw [← g_K]; exact (CI.r hC_M (show kd 413 = 44 from rfl) (by decide) 6)
  have b_E : 0 ≤ E ∧ E ≤ 1600 := by rw [← g_E]; exact (CI.r hC_M (show kd 413 = 44 from rfl) (by decide) 8)
  have b_W : (-2147483648) ≤ W ∧ W ≤ 2147483647 := by rw [← g_W]; exact (CI.r hC_M (show kd 413 = 44 from rfl) (by decide) 10)
  obtain ⟨v1, e1⟩ : ∃ z_, M 413 3 = z_ := ⟨_, rfl⟩
  have b1 : 1 ≤ v1 ∧ v1 ≤ 419 := by rw [← e1]; exact (CI.r hC_M (show kd 413 = 44 from rfl) (by decide) 3)
  have b2 : 1 ≤ v1 ∧ v1 ≤ 1 := by rw [← e1]; exact p0
  have e3 : M 413 8 = E := g_E
  have e4 : M 413 6 = K := g_K
  have e5 : M 413 7 = Tk := g_Tk
  refine jr.aload_n rfl rfl ?_
  refine jr_v rfl rfl (Or.inl rfl) rfl rfl (by decide) rfl ⟨rfl, Nat.le_of_ble_eq_true rfl, Nat.le_of_ble_eq_true rfl⟩ rfl (jc.deep (c_Parser_isName_z hC_M  (fun r6 z6 w6_0 => ?_)) (by decide))
  refine jr.if_ne rfl rfl (by omega) (fun h4 => ?_) (fun h4 => ?_)
  · refine jr.aload_n rfl rfl ?_
    refine jr_v rfl rfl (Or.inl rfl) rfl rfl (by decide) rfl ⟨rfl, Nat.le_of_ble_eq_true rfl, Nat.le_of_ble_eq_true rfl⟩ rfl (jc.deep (c_Parser_advance_z hC_M (FR.rfl _ M)  g_F g_E (by have hq0 : M 413 3 = v1 := e1; omega) p1 p2 (fun M7 hC_M7 hf_M7 w7_0 w7_1 => ?_)) (by decide))
    have ht_M7 : FR W_c_Parser_expectName_z T M7 := FR.t ht_M hf_M7 (kw_sub rfl)
    obtain ⟨v8, e8⟩ : ∃ z_, M7 413 8 = z_ := ⟨_, rfl⟩
    have b8 : 0 ≤ v8 ∧ v8 ≤ 1600 := by rw [← e8]; exact (CI.r hC_M7 (show kd 413 = 44 from rfl) (by decide) 8)
    obtain ⟨v9, e9⟩ : ∃ z_, M7 413 6 = z_ := ⟨_, rfl⟩
    have b9 : (-2147483648) ≤ v9 ∧ v9 ≤ 2147483647 := by rw [← e9]; exact (CI.r hC_M7 (show kd 413 = 44 from rfl) (by decide) 6)
    obtain ⟨v10, e10⟩ : ∃ z_, M7 413 7 = z_ := ⟨_, rfl⟩
    have b10 : 0 ≤ v10 ∧ v10 ≤ 1600 := by rw [← e10]; exact (CI.r hC_M7 (show kd 413 = 44 from rfl) (by decide) 7)
    have e11 : M7 413 0 = F := (hf_M7.g (show kd 413 = 44 from rfl) rfl).trans g_F
    have e12 : M7 413 1 = Fa := (hf_M7.g (show kd 413 = 44 from rfl) rfl).trans g_Fa
    exact jr.vreturn rfl rfl (q _ hC_M7 ht_M7  (exq_y (by have z := (w6_0.resolve_right (fun z => by omega)).2; rw [g_K, g_W] at z; exact z) e11 e12) (w7_0.imp (fun z => by have h0 : M7 413 0 = F := e11; omega) id) w7_1)
  · refine jr.aload_n rfl rfl ?_
    refine jr_v rfl rfl (Or.inl rfl) rfl rfl (by decide) rfl ⟨rfl, Nat.le_of_ble_eq_true rfl, Nat.le_of_ble_eq_true rfl⟩ rfl (jc.deep (c_Parser_refuse_z hC_M (FR.rfl _ M)  g_F g_Fa g_Tk g_K (fun M13 hC_M13 hf_M13 w13_0 => ?_)) (by decide))
    have ht_M13 : FR W_c_Parser_expectName_z T M13 := FR.t ht_M hf_M13 (kw_sub rfl)
    obtain ⟨v14, e14⟩ : ∃ z_, M13 413 0 = z_ := ⟨_, rfl⟩
    have b14 : (-2147483648) ≤ v14 ∧ v14 ≤ 2147483647 := by rw [← e14]; exact (CI.r hC_M13 (show kd 413 = 44 from rfl) (by decide) 0)
    obtain ⟨v15, e15⟩ : ∃ z_, M13 413 1 = z_ := ⟨_, rfl⟩
    have b15 : (-2147483648) ≤ v15 ∧ v15 ≤ 2147483647 := by rw [← e15]; exact (CI.r hC_M13 (show kd 413 = 44 from rfl) (by decide) 1)
    refine jr.aload_n rfl rfl ?_
    have e17 : M13 413 8 = E := (hf_M13.g (show kd 413 = 44 from rfl) rfl).trans g_E
    have e18 : M13 413 3 = v1 := (hf_M13.g (show kd 413 = 44 from rfl) rfl).trans e1
    have e19 : M13 413 6 = K := (hf_M13.g (show kd 413 = 44 from rfl) rfl).trans g_K
    have e20 : M13 413 7 = Tk := (hf_M13.g (show kd 413 = 44 from rfl) rfl).trans g_Tk
    refine jr_v rfl rfl (Or.inl rfl) rfl rfl (by decide) rfl ⟨rfl, Nat.le_of_ble_eq_true rfl, Nat.le_of_ble_eq_true rfl⟩ rfl (jc.deep (c_Parser_advance_z hC_M13 (FR.rfl _ M13)  e14 e17 (by have hq0 : M13 413 3 = v1 := e18; omega) (TXc.fr p1 hf_M13 rfl) (by rw [e17, e19, e20]; rw [g_E, g_K, g_Tk] at p2; exact p2) (fun M16 hC_M16 hf_M16 w16_0 w16_1 => ?_)) (by decide))
    have ht_M16 : FR W_c_Parser_expectName_z T M16 := FR.t ht_M13 hf_M16 (kw_sub rfl)
    obtain ⟨v21, e21⟩ : ∃ z_, M16 413 8 = z_ := ⟨_, rfl⟩
    have b21 : 0 ≤ v21 ∧ v21 ≤ 1600 := by rw [← e21]; exact (CI.r hC_M16 (show kd 413 = 44 from rfl) (by decide) 8)
    obtain ⟨v22, e22⟩ : ∃ z_, M16 413 6 = z_ := ⟨_, rfl⟩
    have b22 : (-2147483648) ≤ v22 ∧ v22 ≤ 2147483647 := by rw [← e22]; exact (CI.r hC_M16 (show kd 413 = 44 from rfl) (by decide) 6)
    obtain ⟨v23, e23⟩ : ∃ z_, M16 413 7 = z_ := ⟨_, rfl⟩
    have b23 : 0 ≤ v23 ∧ v23 ≤ 1600 := by rw [← e23]; exact (CI.r hC_M16 (show kd 413 = 44 from rfl) (by decide) 7)
    have e24 : M16 413 0 = v14 := (hf_M16.g (show kd 413 = 44 from rfl) rfl).trans e14
    have e25 : M16 413 1 = v15 := (hf_M16.g (show kd 413 = 44 from rfl) rfl).trans e15
    exact jr.vreturn rfl rfl (q _ hC_M16 ht_M16  (by rw [e24, e25, ← e14, ← e15]; exact exq_n (by have z := (w6_0.resolve_left (fun z => by omega)).2; rw [g_K, g_W] at z; exact z) w13_0) (w16_0.imp (fun z => by have h0 : M16 413 0 = v14 := e24; omega) id) w16_1)
noncomputable def W_c_Parser_open_z : List (Nat × Nat) := [(44, 0), (44, 1), (44, 6), (44, 7), (44, 8), (44, 9), (44, 10), (44, 11)]
theorem c_Parser_open_z {A : Nat → Option (Nat × (Nat → Int32))} [HA A] {Q : Option Value → jm → Prop} {f : Int → Int} {N : Int} {T : jm} {M : jm} (hC_M : CI M) (ht_M : FR W_c_Parser_open_z T M) {x : Int} (h_x : 0 ≤ x ∧ x ≤ 65535) {y : Int} (h_y : 0 ≤ y ∧ y ≤ 13) {F : Int} (g_F : M 413 0 = F) {Fa : Int} (g_Fa : M 413 1 = Fa) {Tk : Int} (g_Tk : M 413 7 = Tk) {K : Int} (g_K : M 413 6 = K) {E : Int} (g_E : M 413 8 = E) {S : Int} (g_S : M 413 11 = S) (p0 : 1 ≤ M 413 3 ∧ M 413 3 ≤ 1) (p1 : TXc f N M) (p2 : M 413 8 ≤ N ∧ (M 413 6 = 1 → M 413 7 < M 413 8)) (q : ∀ (M' : jm), CI M' → FR W_c_Parser_open_z T M' → ((F = 0 ∧ K = 3 ∧ S = x ∧ y < 12 ∧ M' 413 0 = 0 ∧ M' 413 1 = Fa) ∨ (F = 0 ∧ K = 3 ∧ S = x ∧ 12 ≤ y ∧ M' 413 0 = 3 ∧ M' 413 1 = Tk) ∨ (F = 0 ∧ ¬ (K = 3 ∧ S = x) ∧ ((K = 4 ∧ M' 413 0 = 1) ∨ (K ≠ 4 ∧ M' 413 0 = 2)) ∧ M' 413 1 = Tk) ∨ (F ≠ 0 ∧ M' 413 0 = F ∧ M' 413 1 = Fa)) → (M' 413 0 ≠ 0 ∨ y ≤ 11) → (M' 413 0 ≠ 0 ∨ TKc f N (zsp zbl f N E) M') → (M' 413 8 ≤ N ∧ (M' 413 6 = 1 → M' 413 7 < M' 413 8)) → Q none M') : jc A 7 222 [.ref (413), .int (Int32.ofInt (x)), .int (Int32.ofInt (y))] M Q := by
  refine jc_of (m := xm_222) rfl (Nat.le_of_ble_eq_true rfl) rfl ?_
  have b_F : (-2147483648) ≤ F ∧ F ≤ 2147483647 := by rw [← g_F]; exact (CI.r hC_M (show kd 413 = 44 from rfl) (by decide) 0)
  have b_Fa : (-2147483648) ≤ Fa ∧ Fa ≤ 2147483647 := by rw [← g_Fa]; exact (CI.r hC_M (show kd 413 = 44 from rfl) (by decide) 1)
  have b_Tk : 0 ≤ Tk ∧ Tk ≤ 1600 := by rw [← g_Tk]; exact (CI.r hC_M (show kd 413 = 44 from rfl) (by decide) 7)
  have b_K : (-2147483648) ≤ K ∧ K ≤ 2147483647 := by rw [← g_K]; exact (CI.r hC_M (show kd 413 = 44 from rfl) (by decide) 6)
  have b_E : 0 ≤ E ∧ E ≤ 1600 := by rw [← g_E]; exact (CI.r hC_M (show kd 413 = 44 from rfl) (by decide) 8)
  have b_S : 0 ≤ S ∧ S ≤ 255 := by rw [← g_S]; exact (CI.r hC_M (show kd 413 = 44 from rfl) (by decide) 11)
  obtain ⟨v1, e1⟩ : ∃ z_, M 413 3 = z_ := ⟨_, rfl⟩
  have b1 : 1 ≤ v1 ∧ v1 ≤ 419 := by rw [← e1]; exact (CI.r hC_M (show kd 413 = 44 from rfl) (by decide) 3)
  have b2 : 1 ≤ v1 ∧ v1 ≤ 1 := by rw [← e1]; exact p0
  have e3 : M 413 8 = E := g_E
  have e4 : M 413 6 = K := g_K
  have e5 : M 413 7 = Tk := g_Tk
  refine jr.aload_n rfl rfl ?_
  refine jr.iload_n rfl rfl ?_
  refine jr_v rfl rfl (Or.inl rfl) rfl rfl (by decide) rfl ⟨rfl, Nat.le_of_ble_eq_true rfl, Nat.le_of_ble_eq_true rfl⟩ rfl (jc.deep (c_Parser_isSign_z hC_M (by omega) (fun r6 z6 w6_0 => ?_)) (by decide))
  refine jr.if_ne rfl rfl (by omega) (fun h5 => ?_) (fun h5 => ?_)
  · refine jr.iload_n rfl rfl ?_
    refine jr.bipush rfl (by decide) ?_
    refine jr.icmp_lt rfl rfl (by omega) (by omega) (fun h18 => ?_) (fun h18 => ?_)
    · refine jr.aload_n rfl rfl ?_
      refine jr_v rfl rfl (Or.inl rfl) rfl rfl (by decide) rfl ⟨rfl, Nat.le_of_ble_eq_true rfl, Nat.le_of_ble_eq_true rfl⟩ rfl (jc.deep (c_Parser_advance_z hC_M (FR.rfl _ M)  g_F g_E (by have hq0 : M 413 3 = v1 := e1; omega) p1 p2 (fun M7 hC_M7 hf_M7 w7_0 w7_1 => ?_)) (by decide))
      have ht_M7 : FR W_c_Parser_open_z T M7 := FR.t ht_M hf_M7 (kw_sub rfl)
      obtain ⟨v8, e8⟩ : ∃ z_, M7 413 8 = z_ := ⟨_, rfl⟩
      have b8 : 0 ≤ v8 ∧ v8 ≤ 1600 := by rw [← e8]; exact (CI.r hC_M7 (show kd 413 = 44 from rfl) (by decide) 8)
      obtain ⟨v9, e9⟩ : ∃ z_, M7 413 6 = z_ := ⟨_, rfl⟩
      have b9 : (-2147483648) ≤ v9 ∧ v9 ≤ 2147483647 := by rw [← e9]; exact (CI.r hC_M7 (show kd 413 = 44 from rfl) (by decide) 6)
      obtain ⟨v10, e10⟩ : ∃ z_, M7 413 7 = z_ := ⟨_, rfl⟩
      have b10 : 0 ≤ v10 ∧ v10 ≤ 1600 := by rw [← e10]; exact (CI.r hC_M7 (show kd 413 = 44 from rfl) (by decide) 7)
      have e11 : M7 413 0 = F := (hf_M7.g (show kd 413 = 44 from rfl) rfl).trans g_F
      have e12 : M7 413 1 = Fa := (hf_M7.g (show kd 413 = 44 from rfl) rfl).trans g_Fa
      exact jr.vreturn rfl rfl (q _ hC_M7 ht_M7  (opq_y (by have z := (w6_0.resolve_right (fun z => by omega)).2; rw [g_K, g_S] at z; exact z) (by omega) e11 e12) (Or.inr (by omega)) (w7_0.imp (fun z => by have h0 : M7 413 0 = F := e11; omega) id) w7_1)
    · refine jr.aload_n rfl rfl ?_
      refine jr.iconst rfl ?_
      refine jr_v rfl rfl (Or.inl rfl) rfl rfl (by decide) rfl ⟨rfl, Nat.le_of_ble_eq_true rfl, Nat.le_of_ble_eq_true rfl⟩ rfl (jc.deep (c_Parser_fail_z hC_M (FR.rfl _ M) (by omega) g_F g_Fa g_Tk (fun M13 hC_M13 hf_M13 w13_0 => ?_)) (by decide))
      have ht_M13 : FR W_c_Parser_open_z T M13 := FR.t ht_M hf_M13 (kw_sub rfl)
      obtain ⟨v14, e14⟩ : ∃ z_, M13 413 0 = z_ := ⟨_, rfl⟩
      have b14 : (-2147483648) ≤ v14 ∧ v14 ≤ 2147483647 := by rw [← e14]; exact (CI.r hC_M13 (show kd 413 = 44 from rfl) (by decide) 0)
      obtain ⟨v15, e15⟩ : ∃ z_, M13 413 1 = z_ := ⟨_, rfl⟩
      have b15 : (-2147483648) ≤ v15 ∧ v15 ≤ 2147483647 := by rw [← e15]; exact (CI.r hC_M13 (show kd 413 = 44 from rfl) (by decide) 1)
      refine jr.aload_n rfl rfl ?_
      have e17 : M13 413 8 = E := (hf_M13.g (show kd 413 = 44 from rfl) rfl).trans g_E
      have e18 : M13 413 3 = v1 := (hf_M13.g (show kd 413 = 44 from rfl) rfl).trans e1
      have e19 : M13 413 6 = K := (hf_M13.g (show kd 413 = 44 from rfl) rfl).trans g_K
      have e20 : M13 413 7 = Tk := (hf_M13.g (show kd 413 = 44 from rfl) rfl).trans g_Tk
      refine jr_v rfl rfl (Or.inl rfl) rfl rfl (by decide) rfl ⟨rfl, Nat.le_of_ble_eq_true rfl, Nat.le_of_ble_eq_true rfl⟩ rfl (jc.deep (c_Parser_advance_z hC_M13 (FR.rfl _ M13)  e14 e17 (by have hq0 : M13 413 3 = v1 := e18; omega) (TXc.fr p1 hf_M13 rfl) (by rw [e17, e19, e20]; rw [g_E, g_K, g_Tk] at p2; exact p2) (fun M16 hC_M16 hf_M16 w16_0 w16_1 => ?_)) (by decide))
      have ht_M16 : FR W_c_Parser_open_z T M16 := FR.t ht_M13 hf_M16 (kw_sub rfl)
      obtain ⟨v21, e21⟩ : ∃ z_, M16 413 8 = z_ := ⟨_, rfl⟩
      have b21 : 0 ≤ v21 ∧ v21 ≤ 1600 := by rw [← e21]; exact (CI.r hC_M16 (show kd 413 = 44 from rfl) (by decide) 8)
      obtain ⟨v22, e22⟩ : ∃ z_, M16 413 6 = z_ := ⟨_, rfl⟩
      have b22 : (-2147483648) ≤ v22 ∧ v22 ≤ 2147483647 := by rw [← e22]; exact (CI.r hC_M16 (show kd 413 = 44 from rfl) (by decide) 6)
      obtain ⟨v23, e23⟩ : ∃ z_, M16 413 7 = z_ := ⟨_, rfl⟩
      have b23 : 0 ≤ v23 ∧ v23 ≤ 1600 := by rw [← e23]; exact (CI.r hC_M16 (show kd 413 = 44 from rfl) (by decide) 7)
      have e24 : M16 413 0 = v14 := (hf_M16.g (show kd 413 = 44 from rfl) rfl).trans e14
      have e25 : M16 413 1 = v15 := (hf_M16.g (show kd 413 = 44 from rfl) rfl).trans e15
      exact jr.vreturn rfl rfl (q _ hC_M16 ht_M16  (by rw [e24, e25, ← e14, ← e15]; exact opq_m (by have z := (w6_0.resolve_right (fun z => by omega)).2; rw [g_K, g_S] at z; exact z) (by omega) w13_0) (by rw [e24, ← e14]; exact opw_m w13_0) (w16_0.imp (fun z => by have h0 : M16 413 0 = v14 := e24; omega) id) w16_1)
  · refine jr.aload_n rfl rfl ?_
    refine jr_v rfl rfl (Or.inl rfl) rfl rfl (by decide) rfl ⟨rfl, Nat.le_of_ble_eq_true rfl, Nat.le_of_ble_eq_true rfl⟩ rfl (jc.deep (c_Parser_refuse_z hC_M (FR.rfl _ M)  g_F g_Fa g_Tk g_K (fun M26 hC_M26 hf_M26 w26_0 => ?_)) (by decide))
    have ht_M26 : FR W_c_Parser_open_z T M26 := FR.t ht_M hf_M26 (kw_sub rfl)
    obtain ⟨v27, e27⟩ : ∃ z_, M26 413 0 = z_ := ⟨_, rfl⟩
    have b27 : (-2147483648) ≤ v27 ∧ v27 ≤ 2147483647 := by rw [← e27]; exact (CI.r hC_M26 (show kd 413 = 44 from rfl) (by decide) 0)
    obtain ⟨v28, e28⟩ : ∃ z_, M26 413 1 = z_ := ⟨_, rfl⟩
    have b28 : (-2147483648) ≤ v28 ∧ v28 ≤ 2147483647 := by rw [← e28]; exact (CI.r hC_M26 (show kd 413 = 44 from rfl) (by decide) 1)
    refine jr.goto rfl rfl ?_
    refine jr.aload_n rfl rfl ?_
    have e30 : M26 413 8 = E := (hf_M26.g (show kd 413 = 44 from rfl) rfl).trans g_E
    have e31 : M26 413 3 = v1 := (hf_M26.g (show kd 413 = 44 from rfl) rfl).trans e1
    have e32 : M26 413 6 = K := (hf_M26.g (show kd 413 = 44 from rfl) rfl).trans g_K
    have e33 : M26 413 7 = Tk := (hf_M26.g (show kd 413 = 44 from rfl) rfl).trans g_Tk
    refine jr_v rfl rfl (Or.inl rfl) rfl rfl (by decide) rfl ⟨rfl, Nat.le_of_ble_eq_true rfl, Nat.le_of_ble_eq_true rfl⟩ rfl (jc.deep (c_Parser_advance_z hC_M26 (FR.rfl _ M26)  e27 e30 (by have hq0 : M26 413 3 = v1 := e31; omega) (TXc.fr p1 hf_M26 rfl) (by rw [e30, e32, e33]; rw [g_E, g_K, g_Tk] at p2; exact p2) (fun M29 hC_M29 hf_M29 w29_0 w29_1 => ?_)) (by decide))
    have ht_M29 : FR W_c_Parser_open_z T M29 := FR.t ht_M26 hf_M29 (kw_sub rfl)
    obtain ⟨v34, e34⟩ : ∃ z_, M29 413 8 = z_ := ⟨_, rfl⟩
    have b34 : 0 ≤ v34 ∧ v34 ≤ 1600 := by rw [← e34]; exact (CI.r hC_M29 (show kd 413 = 44 from rfl) (by decide) 8)
    obtain ⟨v35, e35⟩ : ∃ z_, M29 413 6 = z_ := ⟨_, rfl⟩
    have b35 : (-2147483648) ≤ v35 ∧ v35 ≤ 2147483647 := by rw [← e35]; exact (CI.r hC_M29 (show kd 413 = 44 from rfl) (by decide) 6)
    obtain ⟨v36, e36⟩ : ∃ z_, M29 413 7 = z_ := ⟨_, rfl⟩
    have b36 : 0 ≤ v36 ∧ v36 ≤ 1600 := by rw [← e36]; exact (CI.r hC_M29 (show kd 413 = 44 from rfl) (by decide) 7)
    have e37 : M29 413 0 = v27 := (hf_M29.g (show kd 413 = 44 from rfl) rfl).trans e27
    have e38 : M29 413 1 = v28 := (hf_M29.g (show kd 413 = 44 from rfl) rfl).trans e28
    exact jr.vreturn rfl rfl (q _ hC_M29 ht_M29  (by rw [e37, e38, ← e27, ← e28]; exact opq_n (by have z := (w6_0.resolve_left (fun z => by omega)).2; rw [g_K, g_S] at z; exact z) w26_0) (by rw [e37, ← e27]; exact opw_n w26_0) (w29_0.imp (fun z => by have h0 : M29 413 0 = v27 := e37; omega) id) w29_1)
end
section
/-! ===== the class: the jumps that were laid ===== -/
noncomputable def zjl (op ar : Int → Int) : Nat → List Int
  | 0 => []
  | n + 1 => if op (n : Int) = 8 ∨ op (n : Int) = 9 then zjl op ar n ++ [ar (n : Int)] else zjl op ar n
theorem zjl_c {op ar op' ar' : Int → Int} (n : Nat) (h : ∀ i : Int, 0 ≤ i → i < n → op' i = op i ∧ (op i = 8 ∨ op i = 9 → ar' i = ar i)) : zjl op' ar' n = zjl op ar n := by
  induction n with
  | zero => rfl
  | succ n ih =>
    have q := h (n : Int) (by omega) (by omega)
    have e := ih (fun i h0 h1 => h i h0 (by omega))
    unfold zjl
    rw [q.1, e]
    by_cases z : op (n : Int) = 8 ∨ op (n : Int) = 9
    · rw [if_pos z, if_pos z, q.2 z]
    · rw [if_neg z, if_neg z]
/-- a program's jumps -/
noncomputable def JLp (M : jm) (p : Nat) : List Int := zjl (M (p + 1)) (M (p + 2)) (M p 2).toNat
theorem JLp_emit {T M : jm} {p : Nat} {S x y : Int} (e : T p 2 = S) (h0 : 0 ≤ S) (e1 : M p 2 = S + 1) (e2 : M (p + 1) S = x) (e3 : M (p + 2) S = y) (h : ∀ i : Int, i ≠ S → M (p + 1) i = T (p + 1) i ∧ M (p + 2) i = T (p + 2) i) : JLp M p = if x = 8 ∨ x = 9 then JLp T p ++ [y] else JLp T p := by
  obtain ⟨m, rfl⟩ := Int.eq_ofNat_of_zero_le h0
  unfold JLp
  rw [e1, e, show ((m : Int) + 1).toNat = m + 1 by omega, show ((m : Int)).toNat = m by omega]
  have q : zjl (M (p + 1)) (M (p + 2)) m = zjl (T (p + 1)) (T (p + 2)) m := zjl_c m (fun i i0 i1 => ⟨(h i (by omega)).1, fun _ => (h i (by omega)).2⟩)
  rw [zjl, q, e2, e3]
theorem JLp_land {M : jm} {p : Nat} {j v : Int} (h : ¬ (M (p + 1) j = 8 ∨ M (p + 1) j = 9)) : JLp (ju M (p + 2) j v) p = JLp M p := by
  unfold JLp
  rw [ju_c _ _ (show p ≠ p + 2 by omega)]
  refine zjl_c _ (fun i i0 i1 => ⟨ju_c _ _ (show p + 1 ≠ p + 2 by omega), fun z => ?_⟩)
  by_cases q : i = j
  · rw [q] at z
    exact absurd z h
  · exact ju_i _ _ q
/-- an operation was laid behind Z of them -/
noncomputable def EMT (T M : jm) (t : Nat) (Z x y : Int) : Prop := M t 2 = Z + 1 ∧ M (t + 1) Z = x ∧ M (t + 2) Z = y ∧ ∀ i : Int, i ≠ Z → M (t + 1) i = T (t + 1) i ∧ M (t + 2) i = T (t + 2) i
theorem EMT.mk {T M : jm} {t : Nat} {Z x y : Int} (h : T = M) : EMT T (ju (ju (ju M (t + 1) Z x) (t + 2) Z y) t 2 (Z + 1)) t Z x y := by
  subst h
  have n1 : t + 1 ≠ t := by omega
  have n2 : t + 2 ≠ t := by omega
  have n3 : t + 1 ≠ t + 2 := by omega
  refine ⟨ju_same _ _ _ _, ?_, ?_, fun i hi => ⟨?_, ?_⟩⟩
  · rw [ju_c _ _ n1, ju_c _ _ n3, ju_same]
  · rw [ju_c _ _ n2, ju_same]
  · rw [ju_c _ _ n1, ju_c _ _ n3, ju_i _ _ hi]
  · rw [ju_c _ _ n2, ju_i _ _ hi, ju_c _ _ (fun q => n3 q.symm)]
noncomputable def W_c_Program_emit_z : List (Nat × Nat) := [(47, 2), (48, 1000), (51, 1000)]
theorem c_Program_emit_z {A : Nat → Option (Nat × (Nat → Int32))} {Q : Option Value → jm → Prop} {G : Nat → Int → Int} {T : jm} {M : jm} (hC_M : CI M) (ht_M : FR W_c_Program_emit_z T M) {t : Nat} (k_t : kd t = 47) {x : Int} (h_x : (-2147483648) ≤ x ∧ x ≤ 2147483647) {y : Int} (h_y : (-2147483648) ≤ y ∧ y ≤ 2147483647) {Z : Int} (g_Z : M t 2 = Z) (p0 : T = M) (p1 : M 413 2 = ((t : Nat) : Int)) (p2 : MP M G) (q : ∀ (r : Int) (M' : jm), CI M' → FR W_c_Program_emit_z T M' → (-2147483648) ≤ r ∧ r ≤ 2147483647 → (MP M' G) → (Z < 932 → r = Z) → (Z < 932 → EMT T M' t Z x y) → Q (some (.int (Int32.ofInt r))) M') : jc A 1 228 [.ref (t), .int (Int32.ofInt (x)), .int (Int32.ofInt (y))] M Q := by
  refine jc_of (m := xm_228) rfl (Nat.le_of_ble_eq_true rfl) rfl ?_
  have b_Z : 0 ≤ Z ∧ Z ≤ 932 := by rw [← g_Z]; exact (CI.r hC_M k_t (by decide) 2)
  obtain ⟨v1, e1⟩ : ∃ z_, M 413 2 = z_ := ⟨_, rfl⟩
  have b1 : 0 ≤ v1 ∧ v1 ≤ 597 := by rw [← e1]; exact (CI.r hC_M (show kd 413 = 44 from rfl) (by decide) 2)
  refine jr.aload_n rfl rfl ?_
  refine jr.getf (i := 2) (x := Z) (v := .int (Int32.ofInt (Z))) rfl rfl (Nat.lt_trans (kx_47 k_t).1 (by decide)) (kx_47 k_t).2 (by decide) rfl rfl g_Z rfl ?_
  refine jr.sipush rfl (by decide) ?_
  refine jr.icmp_ge rfl rfl (by omega) (by omega) (fun h7 => ?_) (fun h7 => ?_)
  · refine jr.aload_n rfl rfl ?_
    refine jr.getf (i := 2) (x := Z) (v := .int (Int32.ofInt (Z))) rfl rfl (Nat.lt_trans (kx_47 k_t).1 (by decide)) (kx_47 k_t).2 (by decide) rfl rfl g_Z rfl ?_
    refine jr.iconst rfl ?_
    refine jr.isub rfl ?_
    exact jr.ireturn rfl rfl rfl (q _ _ hC_M ht_M (by omega) p2 (fun q => by exfalso; omega) (fun q => by exfalso; omega))
  · refine jr.aload_n rfl rfl ?_
    have k2 := kf_47_0 k_t
    refine jr.getf (i := 0) (v := .ref (t + 1)) rfl rfl (Nat.lt_trans (kx_47 k_t).1 (by decide)) (kx_47 k_t).2 (by decide) rfl rfl rfl (jval_ref rfl k2.1) ?_
    refine jr.aload_n rfl rfl ?_
    refine jr.getf (i := 2) (x := Z) (v := .int (Int32.ofInt (Z))) rfl rfl (Nat.lt_trans (kx_47 k_t).1 (by decide)) (kx_47 k_t).2 (by decide) rfl rfl g_Z rfl ?_
    refine jr.iload_n rfl rfl ?_
    refine jr.iast (i := Z) (x := x) rfl (Nat.lt_trans (kx_51 k2.2).1 (by decide)) (kx_51 k2.2).2 (by decide) (by omega) (by omega) ?_
    refine jr.aload_n rfl rfl ?_
    have k3 := kf_47_1 k_t
    refine jr.getf (i := 1) (v := .ref (t + 2)) rfl rfl (Nat.lt_trans (kx_47 k_t).1 (by decide)) (kx_47 k_t).2 (by decide) rfl rfl rfl (jval_ref rfl k3.1) ?_
    refine jr.aload_n rfl rfl ?_
    refine jr.getf (i := 2) (x := Z) (v := .int (Int32.ofInt (Z))) rfl rfl (Nat.lt_trans (kx_47 k_t).1 (by decide)) (kx_47 k_t).2 (by decide) rfl rfl ((ju_c _ _ (kd_ne (by rw [k_t, k2.2]; decide))).trans g_Z) rfl ?_
    refine jr.iload_n rfl rfl ?_
    refine jr.iast (i := Z) (x := y) rfl (Nat.lt_trans (kx_48 k3.2).1 (by decide)) (kx_48 k3.2).2 (by decide) (by omega) (by omega) ?_
    refine jr.aload_n rfl rfl ?_
    refine jr.dup rfl rfl ?_
    refine jr.getf (i := 2) (x := Z) (v := .int (Int32.ofInt (Z))) rfl rfl (Nat.lt_trans (kx_47 k_t).1 (by decide)) (kx_47 k_t).2 (by decide) rfl rfl ((ju_c _ _ (kd_ne (by rw [k_t, k3.2]; decide))).trans ((ju_c _ _ (kd_ne (by rw [k_t, k2.2]; decide))).trans g_Z)) rfl ?_
    refine jr.iconst rfl ?_
    refine jr.iadd rfl ?_
    refine jr.putf (i := 2) (x := (Z + 1)) rfl rfl (Nat.lt_trans (kx_47 k_t).1 (by decide)) (kx_47 k_t).2 (by decide) rfl rfl rfl rfl rfl ?_
    refine jr.aload_n rfl rfl ?_
    refine jr.getf (i := 2) (x := (Z + 1)) (v := .int (Int32.ofInt (Z + 1))) rfl rfl (Nat.lt_trans (kx_47 k_t).1 (by decide)) (kx_47 k_t).2 (by decide) rfl rfl (ju_same _ _ _ _) rfl ?_
    refine jr.iconst rfl ?_
    refine jr.isub rfl ?_
    exact jr.ireturn rfl rfl rfl (q _ _ (CI.u (CI.u (CI.u hC_M (i := Z) k2.2 (show (-2147483648 : Int) ≤ _ ∧ _ ≤ (2147483647 : Int) from by omega) rfl) (i := Z) k3.2 (show (-2147483648 : Int) ≤ _ ∧ _ ≤ (2147483647 : Int) from by omega) rfl) (i := 2) k_t (show (0 : Int) ≤ _ ∧ _ ≤ (932 : Int) from by omega) rfl) (FR.o (FR.o (FR.o ht_M k2.2 rfl) k3.2 rfl) k_t rfl) (by omega) (MP.w (MP.w (MP.w p2 hC_M e1 ⟨by omega, by omega⟩) (CI.u hC_M (i := Z) k2.2 (show (-2147483648 : Int) ≤ _ ∧ _ ≤ (2147483647 : Int) from by omega) rfl) ((ju_c _ _ (kd_ne (by rw [(show kd 413 = 44 from rfl), k2.2]; decide))).trans e1) ⟨by omega, by omega⟩) (CI.u (CI.u hC_M (i := Z) k2.2 (show (-2147483648 : Int) ≤ _ ∧ _ ≤ (2147483647 : Int) from by omega) rfl) (i := Z) k3.2 (show (-2147483648 : Int) ≤ _ ∧ _ ≤ (2147483647 : Int) from by omega) rfl) ((ju_c _ _ (kd_ne (by rw [(show kd 413 = 44 from rfl), k3.2]; decide))).trans ((ju_c _ _ (kd_ne (by rw [(show kd 413 = 44 from rfl), k2.2]; decide))).trans e1)) ⟨by omega, by omega⟩) (fun _ => by omega) (fun _ => EMT.mk p0))
noncomputable def W_c_Program_land_z : List (Nat × Nat) := [(48, 1000)]
theorem c_Program_land_z {A : Nat → Option (Nat × (Nat → Int32))} {Q : Option Value → jm → Prop} {G : Nat → Int → Int} {T : jm} {M : jm} (hC_M : CI M) (ht_M : FR W_c_Program_land_z T M) {t : Nat} (k_t : kd t = 47) {x : Int} (h_x : (-2147483648) ≤ x ∧ x ≤ 2147483647) {Z : Int} (g_Z : M t 2 = Z) (p0 : T = M) (p1 : M 413 2 = ((t : Nat) : Int)) (p2 : MP M G) (q : ∀ (M' : jm), CI M' → FR W_c_Program_land_z T M' → (MP M' G) → (M' = T ∨ ((0 ≤ x ∧ x < Z) ∧ M' = ju T (t + 2) x Z)) → Q none M') : jc A 1 229 [.ref (t), .int (Int32.ofInt (x))] M Q := by
  refine jc_of (m := xm_229) rfl (Nat.le_of_ble_eq_true rfl) rfl ?_
  have b_Z : 0 ≤ Z ∧ Z ≤ 932 := by rw [← g_Z]; exact (CI.r hC_M k_t (by decide) 2)
  obtain ⟨v1, e1⟩ : ∃ z_, M 413 2 = z_ := ⟨_, rfl⟩
  have b1 : 0 ≤ v1 ∧ v1 ≤ 597 := by rw [← e1]; exact (CI.r hC_M (show kd 413 = 44 from rfl) (by decide) 2)
  refine jr.iload_n rfl rfl ?_
  refine jr.if_lt rfl rfl (by omega) (fun h1 => ?_) (fun h1 => ?_)
  · exact jr.vreturn rfl rfl (q _ hC_M ht_M  p2 (Or.inl p0.symm))
  · refine jr.iload_n rfl rfl ?_
    refine jr.aload_n rfl rfl ?_
    refine jr.getf (i := 2) (x := Z) (v := .int (Int32.ofInt (Z))) rfl rfl (Nat.lt_trans (kx_47 k_t).1 (by decide)) (kx_47 k_t).2 (by decide) rfl rfl g_Z rfl ?_
    refine jr.icmp_ge rfl rfl (by omega) (by omega) (fun h9 => ?_) (fun h9 => ?_)
    · exact jr.vreturn rfl rfl (q _ hC_M ht_M  p2 (Or.inl p0.symm))
    · refine jr.aload_n rfl rfl ?_
      have k2 := kf_47_1 k_t
      refine jr.getf (i := 1) (v := .ref (t + 2)) rfl rfl (Nat.lt_trans (kx_47 k_t).1 (by decide)) (kx_47 k_t).2 (by decide) rfl rfl rfl (jval_ref rfl k2.1) ?_
      refine jr.iload_n rfl rfl ?_
      refine jr.aload_n rfl rfl ?_
      refine jr.getf (i := 2) (x := Z) (v := .int (Int32.ofInt (Z))) rfl rfl (Nat.lt_trans (kx_47 k_t).1 (by decide)) (kx_47 k_t).2 (by decide) rfl rfl g_Z rfl ?_
      refine jr.iast (i := x) (x := Z) rfl (Nat.lt_trans (kx_48 k2.2).1 (by decide)) (kx_48 k2.2).2 (by decide) (by omega) (by omega) ?_
      exact jr.vreturn rfl rfl (q _ (CI.u hC_M (i := x) k2.2 (show (-2147483648 : Int) ≤ _ ∧ _ ≤ (2147483647 : Int) from by omega) rfl) (FR.o ht_M k2.2 rfl)  (MP.w p2 hC_M e1 ⟨by omega, by omega⟩) (Or.inr ⟨by omega, by rw [p0]⟩))
end
section
/-! ===== the class: fault, or token and code ===== -/
/-- the names, while a chain is being read: its own is the last -/
noncomputable def NMi (f : Int → Int) (N : Int) (M : jm) (nm : List Int) : Prop := (nm.length : Int) = M (M 413 2).toNat 3 + 1 ∧ ∀ k : Int, 0 ≤ k → k < nm.length → M 420 k = nm.getD k.toNat 0 ∧ zso f N (nm.getD k.toNat 0) = 1 ∧ 0 ≤ nm.getD k.toNat 0 ∧ nm.getD k.toNat 0 ≤ 1600
theorem NMi.fr {f : Int → Int} {N : Int} {nm : List Int} {W : List (Nat × Nat)} {T M : jm} (h : NMi f N T nm) (hC : CI T) (fr : FR W T M) (h1 : ksep W [(44, 2), (47, 3), (45, 1000)] = true) : NMi f N M nm := by
  have e : M 413 2 = T 413 2 := fr.s h1 (show kd 413 = 44 from rfl) 2 (by decide) 2 (Or.inr rfl)
  have k : kd (T 413 2).toNat = 47 := CI.x hC (show kd 413 = 44 from rfl) 2 rfl (by decide)
  refine ⟨?_, fun i h0 h2 => ?_⟩
  · rw [e, fr.s h1 k 3 (by decide) 3 (Or.inr rfl)]
    exact h.1
  · rw [fr.s h1 (show kd 420 = 45 from rfl) 1000 (by decide) i (Or.inl rfl)]
    exact h.2 i h0 h2
/-- the code that is laid: names, jumps, nodes, what is to spare, operations that stay -/
noncomputable def CKp (f : Int → Int) (N : Int) (M : jm) (k : Int) (nm ak : List Int) (e : Int) (fz : List (Int × Int)) : Prop := NMi f N M nm ∧ (JLp M (M 413 2).toNat = ak ∧ ∀ x, x ∈ ak → zso f N x = 1 ∧ 0 ≤ x ∧ x ≤ 1600) ∧ M (M 413 2).toNat 4 = k ∧ (0 ≤ k ∧ k ≤ 300) ∧ (0 ≤ M (M 413 2).toNat 3 ∧ M (M 413 2).toNat 3 ≤ 15) ∧ 0 ≤ e ∧ e + M (M 413 2).toNat 2 ≤ 3 * k + 2 * M (M 413 2).toNat 3 + 2 ∧ ∀ p, p ∈ fz → 0 ≤ p.1 ∧ p.1 < M (M 413 2).toNat 2 ∧ M ((M 413 2).toNat + 1) p.1 = p.2
noncomputable def CZ (f : Int → Int) (N : Int) (xs : ZS) (M : jm) (t k : Int) (nm ak : List Int) (e : Int) (fz : List (Int × Int)) (Z : Prop) : Prop := (M 413 0 ≠ 0 ∧ zr f N xs (zft (M 413 0) (M 413 1))) ∨ ((M 413 0 = 0 ∧ M 413 1 = -1) ∧ (TKc f N t M ∧ CKp f N M k nm ak e fz) ∧ Z)
section CL
variable {f : Int → Int} {N : Int} {xs : ZS} {T M : jm} {t k e : Int} {nm ak : List Int} {fz : List (Int × Int)} {Z Z' : Prop} {W : List (Nat × Nat)}
theorem k413 : kd 413 = 44 := rfl
theorem CI.pk (h : CI M) : kd (M 413 2).toNat = 47 := CI.x h k413 2 rfl (by decide)
theorem CKp.fr (h : CKp f N T k nm ak e fz) (hC : CI T) (fr : FR W T M) (h1 : ksep W [(44, 2), (47, 3), (45, 1000), (47, 2), (47, 4), (48, 1000), (51, 1000)] = true) : CKp f N M k nm ak e fz := by
  have e2 : M 413 2 = T 413 2 := fr.s h1 k413 2 (by decide) 2 (Or.inr rfl)
  have kp := hC.pk
  have q1 := (kf_47_0 kp).2
  have q2 := (kf_47_1 kp).2
  have g2 := fr.s h1 kp 2 (by decide) 2 (Or.inr rfl)
  have g3 := fr.s h1 kp 3 (by decide) 3 (Or.inr rfl)
  have g4 := fr.s h1 kp 4 (by decide) 4 (Or.inr rfl)
  obtain ⟨a, ⟨b1, b2⟩, c, d, d2, d3, d4, d5⟩ := h
  have nm' : NMi f N M nm := by
    refine ⟨?_, fun i h0 h2 => ?_⟩
    · rw [e2, g3]
      exact a.1
    · rw [fr.s h1 (show kd 420 = 45 from rfl) 1000 (by decide) i (Or.inl rfl)]
      exact a.2 i h0 h2
  refine ⟨nm', ⟨?_, b2⟩, ?_, d, ?_, d3, ?_, fun p hp => ?_⟩
  · rw [e2, ← b1]
    unfold JLp
    rw [g2]
    refine zjl_c _ (fun i i0 i1 => ⟨fr.s h1 q1 1000 (by decide) i (Or.inl rfl), fun _ => fr.s h1 q2 1000 (by decide) i (Or.inl rfl)⟩)
  · rw [e2, g4]
    exact c
  · rw [e2, g3]
    exact d2
  · rw [e2, g2, g3]
    exact d4
  · rw [e2, g2, fr.s h1 q1 1000 (by decide) p.1 (Or.inl rfl)]
    exact d5 p hp
theorem CZ.imp (h : CZ f N xs M t k nm ak e fz Z) (g : Z → Z') : CZ f N xs M t k nm ak e fz Z' := Or.imp id (fun z => ⟨z.1, z.2.1, g z.2.2⟩) h
/-- a fault stays -/
theorem CZ.flt (h : M 413 0 ≠ 0) (h2 : zr f N xs (zft (M 413 0) (M 413 1))) : CZ f N xs M t k nm ak e fz Z := Or.inl ⟨h, h2⟩
theorem CZ.z (h : CZ f N xs M t k nm ak e fz Z) (h0 : M 413 0 = 0) : (TKc f N t M ∧ CKp f N M k nm ak e fz) ∧ Z := (h.resolve_left (fun q => q.1 h0)).2
theorem CZ.yf (h : CZ f N xs M t k nm ak e fz Z) (h0 : M 413 0 ≠ 0) : zr f N xs (zft (M 413 0) (M 413 1)) := (h.resolve_right (fun q => h0 q.1.1)).2
theorem CZ.fr (h : CZ f N xs T t k nm ak e fz Z) (hC : CI T) (fr : FR W T M) (h1 : ksep W [(44, 2), (47, 3), (45, 1000), (47, 2), (47, 4), (48, 1000), (51, 1000)] = true) (h2 : ksep W [(44, 4), (43, 1000), (44, 6), (44, 7), (44, 8), (44, 9), (44, 10), (44, 11)] = true) (h3 : ksep W [(44, 0), (44, 1)] = true) : CZ f N xs M t k nm ak e fz Z := by
  have g0 := fr.s h3 k413 0 (by decide) 0 (Or.inr rfl)
  have g1 := fr.s h3 k413 1 (by decide) 1 (Or.inr rfl)
  unfold CZ
  rw [g0, g1]
  exact Or.imp id (fun z => ⟨z.1, ⟨z.2.1.1.fr fr h2, z.2.1.2.fr hC fr h1⟩, z.2.2⟩) h
theorem CZ.wk {fz' : List (Int × Int)} (h : CZ f N xs M t k nm ak e fz Z) (g : ∀ p, p ∈ fz' → p ∈ fz) : CZ f N xs M t k nm ak e fz' Z := Or.imp id (fun z => ⟨z.1, ⟨z.2.1.1, by obtain ⟨a, b, c, d, d2, d3, d4, d5⟩ := z.2.1.2; exact ⟨a, b, c, d, d2, d3, d4, fun p hp => d5 p (g p hp)⟩⟩, z.2.2⟩) h
theorem CZ.le {e' : Int} (h : CZ f N xs M t k nm ak e fz Z) (g : 0 ≤ e') (g2 : e' ≤ e) : CZ f N xs M t k nm ak e' fz Z := Or.imp id (fun z => ⟨z.1, ⟨z.2.1.1, by obtain ⟨a, b, c, d, d2, d3, d4, d5⟩ := z.2.1.2; exact ⟨a, b, c, d, d2, g, by omega, d5⟩⟩, z.2.2⟩) h
/-- the next token -/
theorem CZ.adv {F E : Int} (h : CZ f N xs T t k nm ak e fz Z) (hC : CI T) (fr : FR W_c_Parser_advance_z T M) (gF : T 413 0 = F) (gE : T 413 8 = E) (g : F ≠ 0 ∨ TKc f N (zsp zbl f N E) M) : CZ f N xs M (znx f N t) k nm ak e fz Z := by
  have g0 : M 413 0 = T 413 0 := fr.g k413 rfl
  have g1 : M 413 1 = T 413 1 := fr.g k413 rfl
  rcases h with q | q
  · exact Or.inl (by rw [g0, g1]; exact q)
  · refine Or.inr ⟨by rw [g0, g1]; exact q.1, ⟨?_, q.2.1.2.fr hC fr rfl⟩, q.2.2⟩
    have w := g.resolve_left (fun z => z (by rw [← gF]; exact q.1.1))
    have hE : E = zte f N t := by rw [← gE]; exact q.2.1.1.2.2.2.1
    rw [hE] at w
    exact w
/-- a node is counted -/
theorem CZ.node {F Fa Tk P k' : Int} (h : CZ f N xs T t k nm ak e fz Z) (hC : CI T) (fr : FR W_c_Parser_countNode_z T M) (gF : T 413 0 = F) (gA : T 413 1 = Fa) (gT : T 413 7 = Tk) (gP : T 413 2 = P) (gk : T P.toNat 4 = k') (g : (F = 0 ∧ k' < 300 ∧ M P.toNat 4 = k' + 1 ∧ M 413 0 = 0 ∧ M 413 1 = Fa) ∨ (F = 0 ∧ 300 ≤ k' ∧ M P.toNat 4 = k' ∧ M 413 0 = 3 ∧ M 413 1 = Tk) ∨ (F ≠ 0 ∧ M 413 0 = F ∧ M 413 1 = Fa)) (hf : Z → 300 ≤ k → zr f N xs (zft 3 t)) : CZ f N xs M t (k + 1) nm ak (e + 3) fz (Z ∧ k < 300) := by
  rcases h with q | q
  · refine Or.inl ?_
    have g3 := g.resolve_left (fun z => q.1 (by omega))
    have g4 := g3.resolve_left (fun z => q.1 (by omega))
    rw [g4.2.1, g4.2.2, ← gF, ← gA]
    exact q
  · obtain ⟨q0, ⟨tk, ck⟩, z⟩ := q
    obtain ⟨a, b, c, d, d2, d3, d4, d5⟩ := id ck
    have hk : k' = k := by rw [← gk, ← gP]; exact c
    have ht : Tk = t := by rw [← gT]; exact tk.2.2.1
    rcases g with g | g | g
    · refine Or.inr ⟨⟨g.2.2.2.1, by rw [g.2.2.2.2, ← gA]; exact q0.2⟩, ⟨tk.fr fr rfl, ?_⟩, z, by omega⟩
      have e2 : M 413 2 = T 413 2 := fr.g k413 rfl
      have kp := hC.pk
      have q1 := (kf_47_0 kp).2
      have q2 := (kf_47_1 kp).2
      have g2 : M (T 413 2).toNat 2 = T (T 413 2).toNat 2 := fr.g kp rfl
      have g3 : M (T 413 2).toNat 3 = T (T 413 2).toNat 3 := fr.g kp rfl
      refine ⟨?_, ⟨?_, b.2⟩, ?_, by omega, ?_, by omega, ?_, fun p hp => ?_⟩
      · exact a.fr hC fr rfl
      · rw [e2, ← b.1]
        unfold JLp
        rw [g2]
        exact zjl_c _ (fun i i0 i1 => ⟨fr.g q1 rfl, fun _ => fr.g q2 rfl⟩)
      · rw [e2, gP, g.2.2.1]
        omega
      · rw [e2, g3]
        exact d2
      · rw [e2, g2, g3]
        omega
      · rw [e2, g2, show M ((T 413 2).toNat + 1) p.1 = T ((T 413 2).toNat + 1) p.1 from fr.g q1 rfl]
        exact d5 p hp
    · refine Or.inl ⟨by omega, ?_⟩
      rw [g.2.2.2.1, g.2.2.2.2, ht]
      exact hf z (by omega)
    · exact absurd q0.1 (by omega)
/-- a sign that must stand -/
theorem CZ.exp {F Fa Tk K E S c : Int} (h : CZ f N xs T t k nm ak e fz Z) (hC : CI T) (fr : FR W_c_Parser_expect_z T M) (gF : T 413 0 = F) (gA : T 413 1 = Fa) (gT : T 413 7 = Tk) (gK : T 413 6 = K) (gE : T 413 8 = E) (gS : T 413 11 = S) (g : (F = 0 ∧ (K = 3 ∧ S = c) ∧ M 413 0 = 0 ∧ M 413 1 = Fa) ∨ (F = 0 ∧ ¬ (K = 3 ∧ S = c) ∧ ((K = 4 ∧ M 413 0 = 1) ∨ (K ≠ 4 ∧ M 413 0 = 2)) ∧ M 413 1 = Tk) ∨ (F ≠ 0 ∧ M 413 0 = F ∧ M 413 1 = Fa)) (g2 : M 413 0 ≠ 0 ∨ TKc f N (zsp zbl f N E) M) (hf : Z → ¬ (zso f N t = 3 ∧ f t = c) → zr f N xs (zrf f N t)) : CZ f N xs M (znx f N t) k nm ak e fz (Z ∧ zso f N t = 3 ∧ f t = c) := by
  rcases h with q | q
  · refine Or.inl ?_
    have g4 := (g.resolve_left (fun z => q.1 (by omega))).resolve_left (fun z => q.1 (by omega))
    rw [g4.2.1, g4.2.2, ← gF, ← gA]
    exact q
  · obtain ⟨q0, ⟨tk, ck⟩, z⟩ := q
    have hK : K = zso f N t := by rw [← gK]; exact tk.2.2.2.2.1
    have hS : zso f N t = 3 → S = f t := fun y => by rw [← gS]; exact tk.2.2.2.2.2.2.2 y
    have hE : E = zte f N t := by rw [← gE]; exact tk.2.2.2.1
    have ht : Tk = t := by rw [← gT]; exact tk.2.2.1
    rcases g with g | g | g
    · have w := g2.resolve_left (fun y => y g.2.2.1)
      rw [hE] at w
      have h3 : zso f N t = 3 := by omega
      exact Or.inr ⟨⟨g.2.2.1, by rw [g.2.2.2, ← gA]; exact q0.2⟩, ⟨w, ck.fr hC fr rfl⟩, z, h3, by rw [← hS h3]; exact g.2.1.2⟩
    · refine Or.inl ⟨by omega, (hf z (fun y => g.2.1 ⟨by omega, by rw [hS y.1]; exact y.2⟩)).rfx ?_ ?_ ?_⟩
      · intro y
        omega
      · intro y
        omega
      · omega
    · exact absurd q0.1 (by omega)
theorem CZ.nam {F Fa Tk K E V : Int} (h : CZ f N xs T t k nm ak e fz Z) (hC : CI T) (fr : FR W_c_Parser_expectName_z T M) (gF : T 413 0 = F) (gA : T 413 1 = Fa) (gT : T 413 7 = Tk) (gK : T 413 6 = K) (gE : T 413 8 = E) (gV : T 413 10 = V) (g : (F = 0 ∧ (K = 1 ∧ V = -1) ∧ M 413 0 = 0 ∧ M 413 1 = Fa) ∨ (F = 0 ∧ ¬ (K = 1 ∧ V = -1) ∧ ((K = 4 ∧ M 413 0 = 1) ∨ (K ≠ 4 ∧ M 413 0 = 2)) ∧ M 413 1 = Tk) ∨ (F ≠ 0 ∧ M 413 0 = F ∧ M 413 1 = Fa)) (g2 : M 413 0 ≠ 0 ∨ TKc f N (zsp zbl f N E) M) (hf : Z → ¬ (zso f N t = 1 ∧ (zwd f N t = -1 ∨ 45 ≤ zwd f N t)) → zr f N xs (zrf f N t)) : CZ f N xs M (znx f N t) k nm ak e fz (Z ∧ zso f N t = 1 ∧ (zwd f N t = -1 ∨ 45 ≤ zwd f N t)) := by
  rcases h with q | q
  · refine Or.inl ?_
    have g4 := (g.resolve_left (fun z => q.1 (by omega))).resolve_left (fun z => q.1 (by omega))
    rw [g4.2.1, g4.2.2, ← gF, ← gA]
    exact q
  · obtain ⟨q0, ⟨tk, ck⟩, z⟩ := q
    have hK : K = zso f N t := by rw [← gK]; exact tk.2.2.2.2.1
    have hV : zso f N t = 1 → V = zcv (zwd f N t) := fun y => by rw [← gV]; exact tk.2.2.2.2.2.1 y
    have hE : E = zte f N t := by rw [← gE]; exact tk.2.2.2.1
    have ht : Tk = t := by rw [← gT]; exact tk.2.2.1
    have hw := zwd_r f N t
    have hn : zcv (zwd f N t) = -1 ↔ (zwd f N t = -1 ∨ 45 ≤ zwd f N t) := by
      unfold zcv
      (repeat' split) <;> omega
    rcases g with g | g | g
    · have w := g2.resolve_left (fun y => y g.2.2.1)
      rw [hE] at w
      have h1 : zso f N t = 1 := by omega
      exact Or.inr ⟨⟨g.2.2.1, by rw [g.2.2.2, ← gA]; exact q0.2⟩, ⟨w, ck.fr hC fr rfl⟩, z, h1, hn.mp (by rw [← hV h1]; exact g.2.1.2)⟩
    · refine Or.inl ⟨by omega, (hf z (fun y => g.2.1 ⟨by omega, by rw [hV y.1]; exact hn.mpr y.2⟩)).rfx ?_ ?_ ?_⟩
      · intro y
        omega
      · intro y
        omega
      · omega
    · exact absurd q0.1 (by omega)
theorem CZ.opn {F Fa Tk K E S c w : Int} (h : CZ f N xs T t k nm ak e fz Z) (hC : CI T) (fr : FR W_c_Parser_open_z T M) (gF : T 413 0 = F) (gA : T 413 1 = Fa) (gT : T 413 7 = Tk) (gK : T 413 6 = K) (gE : T 413 8 = E) (gS : T 413 11 = S) (g : (F = 0 ∧ K = 3 ∧ S = c ∧ w < 12 ∧ M 413 0 = 0 ∧ M 413 1 = Fa) ∨ (F = 0 ∧ K = 3 ∧ S = c ∧ 12 ≤ w ∧ M 413 0 = 3 ∧ M 413 1 = Tk) ∨ (F = 0 ∧ ¬ (K = 3 ∧ S = c) ∧ ((K = 4 ∧ M 413 0 = 1) ∨ (K ≠ 4 ∧ M 413 0 = 2)) ∧ M 413 1 = Tk) ∨ (F ≠ 0 ∧ M 413 0 = F ∧ M 413 1 = Fa)) (g2 : M 413 0 ≠ 0 ∨ TKc f N (zsp zbl f N E) M) (hf : Z → ¬ (zso f N t = 3 ∧ f t = c) → zr f N xs (zrf f N t)) (hd : Z → zso f N t = 3 → f t = c → 12 ≤ w → zr f N xs (zft 3 t)) : CZ f N xs M (znx f N t) k nm ak e fz (Z ∧ zso f N t = 3 ∧ f t = c ∧ w < 12) := by
  rcases h with q | q
  · refine Or.inl ?_
    have g4 := ((g.resolve_left (fun z => q.1 (by omega))).resolve_left (fun z => q.1 (by omega))).resolve_left (fun z => q.1 (by omega))
    rw [g4.2.1, g4.2.2, ← gF, ← gA]
    exact q
  · obtain ⟨q0, ⟨tk, ck⟩, z⟩ := q
    have hK : K = zso f N t := by rw [← gK]; exact tk.2.2.2.2.1
    have hS : zso f N t = 3 → S = f t := fun y => by rw [← gS]; exact tk.2.2.2.2.2.2.2 y
    have hE : E = zte f N t := by rw [← gE]; exact tk.2.2.2.1
    have ht : Tk = t := by rw [← gT]; exact tk.2.2.1
    rcases g with g | g | g | g
    · have y := g2.resolve_left (fun y => y g.2.2.2.2.1)
      rw [hE] at y
      have h3 : zso f N t = 3 := by omega
      exact Or.inr ⟨⟨g.2.2.2.2.1, by rw [g.2.2.2.2.2, ← gA]; exact q0.2⟩, ⟨y, ck.fr hC fr rfl⟩, z, h3, by rw [← hS h3]; exact g.2.2.1, g.2.2.2.1⟩
    · have h3 : zso f N t = 3 := by omega
      refine Or.inl ⟨by omega, ?_⟩
      rw [g.2.2.2.2.1, g.2.2.2.2.2, ht]
      exact hd z h3 (by rw [← hS h3]; exact g.2.2.1) g.2.2.2.1
    · refine Or.inl ⟨by omega, (hf z (fun y => g.2.1 ⟨by omega, by rw [hS y.1]; exact y.2⟩)).rfx ?_ ?_ ?_⟩
      · intro y
        omega
      · intro y
        omega
      · omega
    · exact absurd q0.1 (by omega)
/-- a token that is refused; a fault that is told -/
theorem CZ.rfs {F Fa Tk K : Int} (h : CZ f N xs T t k nm ak e fz Z) (gF : T 413 0 = F) (gA : T 413 1 = Fa) (gT : T 413 7 = Tk) (gK : T 413 6 = K) (g : (F = 0 ∧ ((K = 4 ∧ M 413 0 = 1) ∨ (K ≠ 4 ∧ M 413 0 = 2)) ∧ M 413 1 = Tk) ∨ (F ≠ 0 ∧ M 413 0 = F ∧ M 413 1 = Fa)) (hf : T 413 0 = 0 → TKc f N t T → Z → zr f N xs (zrf f N t)) : CZ f N xs M t k nm ak e fz False := by
  rcases h with q | q
  · refine Or.inl ?_
    have g4 := g.resolve_left (fun z => q.1 (by omega))
    rw [g4.2.1, g4.2.2, ← gF, ← gA]
    exact q
  · obtain ⟨q0, ⟨tk, ck⟩, z⟩ := q
    have hK : K = zso f N t := by rw [← gK]; exact tk.2.2.2.2.1
    have ht : Tk = t := by rw [← gT]; exact tk.2.2.1
    have g4 := g.resolve_right (fun y => y.1 (by omega))
    refine Or.inl ⟨by omega, (hf q0.1 tk z).rfx ?_ ?_ ?_⟩
    · intro y
      omega
    · intro y
      omega
    · omega
theorem CZ.fai {F Fa Tk w : Int} (h : CZ f N xs T t k nm ak e fz Z) (gF : T 413 0 = F) (gA : T 413 1 = Fa) (gT : T 413 7 = Tk) (hw : w ≠ 0) (g : (F = 0 ∧ M 413 0 = w ∧ M 413 1 = Tk) ∨ (F ≠ 0 ∧ M 413 0 = F ∧ M 413 1 = Fa)) (hf : T 413 0 = 0 → TKc f N t T → Z → zr f N xs (zft w t)) : CZ f N xs M t k nm ak e fz False := by
  rcases h with q | q
  · refine Or.inl ?_
    have g4 := g.resolve_left (fun z => q.1 (by omega))
    rw [g4.2.1, g4.2.2, ← gF, ← gA]
    exact q
  · obtain ⟨q0, ⟨tk, ck⟩, z⟩ := q
    have ht : Tk = t := by rw [← gT]; exact tk.2.2.1
    have g4 := g.resolve_right (fun y => y.1 (by omega))
    refine Or.inl ⟨by omega, ?_⟩
    rw [g4.2.1, g4.2.2, ht]
    exact hf q0.1 tk z
/-- an operation is laid -/
theorem CZ.emt {p : Nat} {S x y : Int} (h : CZ f N xs T t k nm ak e fz Z) (hC : CI T) (fr : FR W_c_Program_emit_z T M) (gp : T 413 2 = (p : Int)) (gS : T p 2 = S) (g : S < 932 → EMT T M p S x y) (h1 : 1 ≤ e) (hy : x = 8 ∨ x = 9 → Z → zso f N y = 1 ∧ 0 ≤ y ∧ y ≤ 1600) : CZ f N xs M t k nm (if x = 8 ∨ x = 9 then ak ++ [y] else ak) (e - 1) ((S, x) :: fz) (Z ∧ S < 932) := by
  have g0 : M 413 0 = T 413 0 := fr.g k413 rfl
  have g1 : M 413 1 = T 413 1 := fr.g k413 rfl
  rcases h with q | q
  · exact Or.inl (by rw [g0, g1]; exact q)
  · obtain ⟨q0, ⟨tk, ck⟩, z⟩ := q
    obtain ⟨a, b, c, d, d2, d3, d4, d5⟩ := id ck
    have hp : (T 413 2).toNat = p := by rw [gp]; rfl
    rw [hp] at b c d2 d4 d5
    rw [gS] at d4 d5
    have e2 : M 413 2 = T 413 2 := fr.g k413 rfl
    have hp2 : (M 413 2).toNat = p := by rw [e2]; exact hp
    have kp : kd p = 47 := by have z := hC.pk; rw [hp] at z; exact z
    have g3 : M p 3 = T p 3 := fr.g kp rfl
    have g4 : M p 4 = T p 4 := fr.g kp rfl
    have hS : S < 932 := by omega
    have hS0 : 0 ≤ S := by have r := CI.r hC kp (by decide) 2; rw [gS] at r; exact r.1
    obtain ⟨m1, m2, m3, m4⟩ := g hS
    refine Or.inr ⟨by rw [g0, g1]; exact q0, ⟨tk.fr fr rfl, ?_⟩, z, hS⟩
    unfold CKp
    rw [hp2, m1, g3, g4]
    refine ⟨a.fr hC fr rfl, ⟨?_, ?_⟩, c, d, d2, by omega, by omega, fun w hw => ?_⟩
    · rw [JLp_emit gS hS0 m1 m2 m3 m4, b.1]
    · intro w hw
      split at hw
      · rcases List.mem_append.mp hw with u | u
        · exact b.2 w u
        · rw [List.mem_singleton.mp u]
          exact hy (by assumption) z
      · exact b.2 w hw
    · rcases List.mem_cons.mp hw with u | u
      · rw [u]
        exact ⟨hS0, by show S < S + 1; omega, m2⟩
      · have v := d5 w u
        refine ⟨v.1, by omega, ?_⟩
        rw [(m4 w.1 (by omega)).1]
        exact v.2.2
theorem CZ.emn {p : Nat} {S x y : Int} (h : CZ f N xs T t k nm ak e fz Z) (hC : CI T) (fr : FR W_c_Program_emit_z T M) (gp : T 413 2 = (p : Int)) (gS : T p 2 = S) (g : S < 932 → EMT T M p S x y) (h1 : 1 ≤ e) (hx : ¬ (x = 8 ∨ x = 9)) : CZ f N xs M t k nm ak (e - 1) ((S, x) :: fz) (Z ∧ S < 932) := by
  have q := CZ.emt h hC fr gp gS g h1 (fun z => absurd z hx)
  rw [if_neg hx] at q
  exact q
theorem CZ.lnd {p : Nat} {S j x : Int} (h : CZ f N xs T t k nm ak e ((j, x) :: fz) Z) (hC : CI T) (fr : FR W_c_Program_land_z T M) (gp : T 413 2 = (p : Int)) (g : M = T ∨ ((0 ≤ j ∧ j < S) ∧ M = ju T (p + 2) j S)) (hx : ¬ (x = 8 ∨ x = 9)) : CZ f N xs M t k nm ak e ((j, x) :: fz) Z := by
  rcases g with g | g
  · rw [g]
    exact h
  · have g0 : M 413 0 = T 413 0 := fr.g k413 rfl
    have g1 : M 413 1 = T 413 1 := fr.g k413 rfl
    rcases h with q | q
    · exact Or.inl (by rw [g0, g1]; exact q)
    · obtain ⟨q0, ⟨tk, ck⟩, z⟩ := q
      obtain ⟨a, b, c, d, d2, d3, d4, d5⟩ := id ck
      have hp : (T 413 2).toNat = p := by rw [gp]; rfl
      rw [hp] at b c d2 d4 d5
      have e2 : M 413 2 = T 413 2 := fr.g k413 rfl
      have hp2 : (M 413 2).toNat = p := by rw [e2]; exact hp
      have kp : kd p = 47 := by have z := hC.pk; rw [hp] at z; exact z
      have g2 : M p 2 = T p 2 := fr.g kp rfl
      have g3 : M p 3 = T p 3 := fr.g kp rfl
      have g4 : M p 4 = T p 4 := fr.g kp rfl
      have go : ∀ i : Int, M (p + 1) i = T (p + 1) i := fun i => by rw [g.2]; exact ju_c _ _ (show p + 1 ≠ p + 2 by omega)
      refine Or.inr ⟨by rw [g0, g1]; exact q0, ⟨tk.fr fr rfl, ?_⟩, z⟩
      unfold CKp
      rw [hp2, g2, g3, g4]
      refine ⟨a.fr hC fr rfl, ⟨?_, b.2⟩, c, d, d2, d3, d4, fun w hw => ?_⟩
      · rw [g.2, JLp_land (by have v := (d5 (j, x) List.mem_cons_self).2.2; rw [show T (p + 1) j = x from v]; exact hx), b.1]
      · rw [go]
        exact d5 w hw
/-- a place that was laid is led here -/
theorem CZ.lnd2 {p : Nat} {S S2 r op : Int} (h : CZ f N xs T t k nm ak e fz Z) (hC : CI T) (fr : FR W_c_Program_land_z T M) (gp : T 413 2 = (p : Int)) (g : M = T ∨ ((0 ≤ r ∧ r < S2) ∧ M = ju T (p + 2) r S2)) (hm : (S, op) ∈ fz) (hr : S < 932 → r = S) (hx : ¬ (op = 8 ∨ op = 9)) : CZ f N xs M t k nm ak e fz Z := by
  have g0 : M 413 0 = T 413 0 := fr.g k413 rfl
  have g1 : M 413 1 = T 413 1 := fr.g k413 rfl
  rcases h with q | q
  · exact Or.inl (by rw [g0, g1]; exact q)
  · obtain ⟨a, b, c, d, d2, d3, d4, d5⟩ := id q.2.1.2
    have y := d5 (S, op) hm
    have hS : S < 932 := by
      have y1 : S < T (T 413 2).toNat 2 := y.2.1
      omega
    have hw : CZ f N xs T t k nm ak e ((S, op) :: fz) Z := Or.inr ⟨q.1, ⟨q.2.1.1, a, b, c, d, d2, d3, d4, fun p hp => by
      rcases List.mem_cons.mp hp with u | u
      · rw [u]
        exact y
      · exact d5 p u⟩, q.2.2⟩
    rw [hr hS] at g
    exact (CZ.lnd hw hC fr gp g hx).wk (fun _ h => List.mem_cons_of_mem _ h)
theorem CZ.lndn {p : Nat} {S j : Int} (h : CZ f N xs T t k nm ak e fz Z) (g : M = T ∨ ((0 ≤ j ∧ j < S) ∧ M = ju T (p + 2) j S)) (hj : j < 0) : CZ f N xs M t k nm ak e fz Z := by
  rcases g with g | g
  · rw [g]
    exact h
  · omega
end CL
end
section
/-! ===== the class: operands, expressions, deeds ===== -/
/-- behind an operand that began at u -/
noncomputable def COP (f : Int → Int) (N : Int) (xs : ZS) (M : jm) (dd cc bh : Int) (sg : List (Int × Int × Int × Int)) (nm ak : List Int) (ee : Int) (fz : List (Int × Int)) (u : Int) : Prop := ∃ t k : Int, u < t ∧ CZ f N xs M t k nm ak ee fz (zr f N xs (3, t, k, dd, cc, bh, sg, nm, ak))
theorem COP.mk {f : Int → Int} {N : Int} {xs : ZS} {M : jm} {t k dd cc bh ee u : Int} {sg : List (Int × Int × Int × Int)} {nm ak : List Int} {fz : List (Int × Int)} {Z : Prop} (h : CZ f N xs M t k nm ak ee fz Z) (g : Z → zr f N xs (3, t, k, dd, cc, bh, sg, nm, ak) ∧ u < t) : COP f N xs M dd cc bh sg nm ak ee fz u := by
  rcases h with h | h
  · exact ⟨u + 1, 0, by omega, Or.inl h⟩
  · exact ⟨t, k, (g h.2.2).2, Or.inr ⟨h.1, h.2.1, (g h.2.2).1⟩⟩
theorem zso_z {f : Int → Int} {N t : Int} (h : zso f N t ≠ 0) : t < znx f N t := znx_gt f (zso_lt h)
section CM
variable {f : Int → Int} {N : Int} {xs : ZS} {M : jm} {t k e : Int} {nm ak : List Int} {fz : List (Int × Int)} {Z : Prop}
/-- the token as the memory tells it -/
theorem CZ.tk (h : CZ f N xs M t k nm ak e fz Z) : CZ f N xs M t k nm ak e fz (Z ∧ (0 ≤ t ∧ t ≤ N) ∧ M 413 7 = t ∧ M 413 8 = zte f N t ∧ M 413 6 = zso f N t ∧ (zso f N t = 1 → M 413 10 = zcv (zwd f N t)) ∧ (zso f N t = 2 → M 413 9 = znu f N t) ∧ (zso f N t = 3 → M 413 11 = f t)) := Or.imp id (fun z => ⟨z.1, z.2.1, z.2.2, z.2.1.1.2⟩) h
theorem CZ.t0 (h : CZ f N xs M t k nm ak e fz Z) : CZ f N xs M t k nm ak e fz (Z ∧ M 413 0 = 0) := Or.imp id (fun z => ⟨z.1, z.2.1, z.2.2, z.1.1⟩) h
theorem CZ.le0 (h : CZ f N xs M t k nm ak e fz Z) : CZ f N xs M t k nm ak e fz (Z ∧ 0 ≤ e) := Or.imp id (fun z => ⟨z.1, z.2.1, z.2.2, z.2.1.2.2.2.2.2.2.1⟩) h
end CM
theorem zcv_i {w : Int} (h : w ≠ 2) (h1 : w ≠ 3) (h2 : w < 45) : zcv w = w := by
  unfold zcv
  rw [if_neg h, if_neg h1, if_neg (by omega)]
theorem zcv_k {w : Int} (h : 31 ≤ zcv w) : zcv w = w ∧ w ≤ 44 := by
  by_cases a : w = 2
  · rw [a] at h
    exact absurd h (by decide)
  · by_cases b : w = 3
    · rw [b] at h
      exact absurd h (by decide)
    · by_cases c : 45 ≤ w
      · have z : zcv w = -1 := by
          unfold zcv
          rw [if_neg a, if_neg b, if_pos c]
        omega
      · rw [zcv_i a b (by omega)] at h ⊢
        exact ⟨rfl, by omega⟩
theorem sls_k {k : Int} {x : Nat} (h : 0 ≤ k ∧ k ≤ 13) (hx : (x : Int) = 1000102 + k) : sls x = zjn (zfc.getD k.toNat []) := by
  have q := sls_k0 k.toNat (by omega)
  rw [show x = 1000102 + k.toNat by omega]
  exact q
theorem zwl_k {f : Int → Int} {N t k : Int} {x : Nat} (h : 0 ≤ k ∧ k ≤ 13) (hx : (x : Int) = 1000102 + k) (ht : zso f N t = 1) : zwl f t (zte f N t) (sls x) 0 t true = zfd f N k t := by
  rw [sls_k h hx, zwl_f (by omega) ht, show ((k.toNat : Nat) : Int) = k by omega]
theorem c_Parser_fieldWords_z {A : Nat → Option (Nat × (Nat → Int32))} [HA A] {Q : Option Value → jm → Prop} {M : jm} (hC_M : CI M) {x : Int} (h_x : 0 ≤ x ∧ x ≤ 13) (q : ∀ (r : Nat), sK r = true → (((r : Nat) : Int) = 1000102 + x) → Q (some (.ref r)) M) : jc A 1 213 [.int (Int32.ofInt (x))] M Q := by
  refine jc_of (m := xm_213) rfl (Nat.le_of_ble_eq_true rfl) rfl ?_
  refine jr.iload_n rfl rfl ?_
  rcases (show x = 0 ∨ x = 1 ∨ x = 2 ∨ x = 3 ∨ x = 4 ∨ x = 5 ∨ x = 6 ∨ x = 7 ∨ x = 8 ∨ x = 9 ∨ x = 10 ∨ x = 11 ∨ x = 12 ∨ (x ≠ 0 ∧ x ≠ 1 ∧ x ≠ 2 ∧ x ≠ 3 ∧ x ≠ 4 ∧ x ≠ 5 ∧ x ≠ 6 ∧ x ≠ 7 ∧ x ≠ 8 ∧ x ≠ 9 ∧ x ≠ 10 ∧ x ≠ 11 ∧ x ≠ 12) by omega) with h1 | h1 | h1 | h1 | h1 | h1 | h1 | h1 | h1 | h1 | h1 | h1 | h1 | h1
  · refine jr.tsw_k 0 rfl h1 rfl ?_
    refine jr.ldcs (a := 1000102) rfl rfl ?_
    exact jr_ret rfl rfl (q _ (show sK 1000102 = true from rfl) (by omega))
  · refine jr.tsw_k 1 rfl h1 rfl ?_
    refine jr.ldcs (a := 1000103) rfl rfl ?_
    exact jr_ret rfl rfl (q _ (show sK 1000103 = true from rfl) (by omega))
  · refine jr.tsw_k 2 rfl h1 rfl ?_
    refine jr.ldcs (a := 1000104) rfl rfl ?_
    exact jr_ret rfl rfl (q _ (show sK 1000104 = true from rfl) (by omega))
  · refine jr.tsw_k 3 rfl h1 rfl ?_
    refine jr.ldcs (a := 1000105) rfl rfl ?_
    exact jr_ret rfl rfl (q _ (show sK 1000105 = true from rfl) (by omega))
  · refine jr.tsw_k 4 rfl h1 rfl ?_
    refine jr.ldcs (a := 1000106) rfl rfl ?_
    exact jr_ret rfl rfl (q _ (show sK 1000106 = true from rfl) (by omega))
  · refine jr.tsw_k 5 rfl h1 rfl ?_
    refine jr.ldcs (a := 1000107) rfl rfl ?_
    exact jr_ret rfl rfl (q _ (show sK 1000107 = true from rfl) (by omega))
  · refine jr.tsw_k 6 rfl h1 rfl ?_
    refine jr.ldcs (a := 1000108) rfl rfl ?_
    exact jr_ret rfl rfl (q _ (show sK 1000108 = true from rfl) (by omega))
  · refine jr.tsw_k 7 rfl h1 rfl ?_
    refine jr.ldcs (a := 1000109) rfl rfl ?_
    exact jr_ret rfl rfl (q _ (show sK 1000109 = true from rfl) (by omega))
  · refine jr.tsw_k 8 rfl h1 rfl ?_
    refine jr.ldcs (a := 1000110) rfl rfl ?_
    exact jr_ret rfl rfl (q _ (show sK 1000110 = true from rfl) (by omega))
  · refine jr.tsw_k 9 rfl h1 rfl ?_
    refine jr.ldcs (a := 1000111) rfl rfl ?_
    exact jr_ret rfl rfl (q _ (show sK 1000111 = true from rfl) (by omega))
  · refine jr.tsw_k 10 rfl h1 rfl ?_
    refine jr.ldcs (a := 1000112) rfl rfl ?_
    exact jr_ret rfl rfl (q _ (show sK 1000112 = true from rfl) (by omega))
  · refine jr.tsw_k 11 rfl h1 rfl ?_
    refine jr.ldcs (a := 1000113) rfl rfl ?_
    exact jr_ret rfl rfl (q _ (show sK 1000113 = true from rfl) (by omega))
  · refine jr.tsw_k 12 rfl h1 rfl ?_
    refine jr.ldcs (a := 1000114) rfl rfl ?_
    exact jr_ret rfl rfl (q _ (show sK 1000114 = true from rfl) (by omega))
  · refine jr.tsw_d rfl (by omega) (by omega) rfl ?_
    refine jr.ldcs (a := 1000115) rfl rfl ?_
    exact jr_ret rfl rfl (q _ (show sK 1000115 = true from rfl) (by omega))
noncomputable def W_c_Parser_kindField_z : List (Nat × Nat) := [(44, 0), (44, 1), (44, 6), (44, 7), (44, 8), (44, 9), (44, 10), (44, 11), (47, 2), (47, 4), (48, 1000), (51, 1000)]
theorem c_Parser_kindField_z {A : Nat → Option (Nat × (Nat → Int32))} [HA A] {Q : Option Value → jm → Prop} {G : Nat → Int → Int} {f : Int → Int} {N : Int} {xs : ZS} {tt kk dd cc bh ee : Int} {sg : List (Int × Int × Int × Int)} {nm ak : List Int} {fz : List (Int × Int)} {T : jm} {M : jm} (hC_M : CI M) (ht_M : FR W_c_Parser_kindField_z T M) (p0 : 1 ≤ M 413 3 ∧ M 413 3 ≤ 1) (p1 : MP M G) (p2 : TXc f N M) (p3 : M 413 8 ≤ N ∧ (M 413 6 = 1 → M 413 7 < M 413 8)) (p4 : M 413 6 = 1 ∧ M 413 0 = 0) (p5 : CZ f N xs M tt kk nm ak ee fz (zr f N xs (2, tt, kk, dd, cc, bh, sg, nm, ak))) (p6 : 0 ≤ ee) (p7 : 31 ≤ M 413 10 ∧ M 413 10 ≤ 44) (q : ∀ (M' : jm), CI M' → FR W_c_Parser_kindField_z T M' → (MP M' G) → (M' 413 8 ≤ N ∧ (M' 413 6 = 1 → M' 413 7 < M' 413 8)) → (COP f N xs M' dd cc bh sg nm ak ee fz tt) → Q none M') : jc A 7 206 [.ref (413)] M Q := by
  obtain ⟨⟨⟨hTx, ktt, k7, k8, k6, k10, k9, k11⟩, hck⟩, hzr⟩ := CZ.z p5 p4.2
  have hz1 : zso f N tt = 1 := by omega
  have hw0 := k10 hz1
  have hwk := zcv_k (w := zwd f N tt) (by omega)
  have h_ee := p6
  refine jc_of (m := xm_206) rfl (Nat.le_of_ble_eq_true rfl) rfl ?_
  obtain ⟨v1, e1⟩ : ∃ z_, M 413 3 = z_ := ⟨_, rfl⟩
  have b1 : 1 ≤ v1 ∧ v1 ≤ 419 := by rw [← e1]; exact (CI.r hC_M (show kd 413 = 44 from rfl) (by decide) 3)
  have b2 : 1 ≤ v1 ∧ v1 ≤ 1 := by rw [← e1]; exact p0
  obtain ⟨v3, e3⟩ : ∃ z_, M 413 8 = z_ := ⟨_, rfl⟩
  have b3 : 0 ≤ v3 ∧ v3 ≤ 1600 := by rw [← e3]; exact (CI.r hC_M (show kd 413 = 44 from rfl) (by decide) 8)
  obtain ⟨v4, e4⟩ : ∃ z_, M 413 6 = z_ := ⟨_, rfl⟩
  have b4 : (-2147483648) ≤ v4 ∧ v4 ≤ 2147483647 := by rw [← e4]; exact (CI.r hC_M (show kd 413 = 44 from rfl) (by decide) 6)
  obtain ⟨v5, e5⟩ : ∃ z_, M 413 7 = z_ := ⟨_, rfl⟩
  have b5 : 0 ≤ v5 ∧ v5 ≤ 1600 := by rw [← e5]; exact (CI.r hC_M (show kd 413 = 44 from rfl) (by decide) 7)
  obtain ⟨v6, e6⟩ : ∃ z_, M 413 0 = z_ := ⟨_, rfl⟩
  have b6 : (-2147483648) ≤ v6 ∧ v6 ≤ 2147483647 := by rw [← e6]; exact (CI.r hC_M (show kd 413 = 44 from rfl) (by decide) 0)
  obtain ⟨v7, e7⟩ : ∃ z_, M 413 10 = z_ := ⟨_, rfl⟩
  have b7 : (-2147483648) ≤ v7 ∧ v7 ≤ 2147483647 := by rw [← e7]; exact (CI.r hC_M (show kd 413 = 44 from rfl) (by decide) 10)
  have b8 : 31 ≤ v7 ∧ v7 ≤ 44 := by rw [← e7]; exact p7
  refine jr.aload_n rfl rfl ?_
  refine jr.getf (i := 10) (x := v7) (v := .int (Int32.ofInt (v7))) rfl rfl (by decide) rfl (by decide) rfl rfl e7 rfl ?_
  refine jr.bipush rfl (by decide) ?_
  refine jr.isub rfl ?_
  refine jr.istore_n rfl (by decide) rfl ?_
  refine jr.aload_n rfl rfl ?_
  obtain ⟨v10, e10⟩ : ∃ z_, M 413 1 = z_ := ⟨_, rfl⟩
  have b10 : (-2147483648) ≤ v10 ∧ v10 ≤ 2147483647 := by rw [← e10]; exact (CI.r hC_M (show kd 413 = 44 from rfl) (by decide) 1)
  obtain ⟨v11, e11⟩ : ∃ z_, M 413 2 = z_ := ⟨_, rfl⟩
  have b11 : 0 ≤ v11 ∧ v11 ≤ 597 := by rw [← e11]; exact (CI.r hC_M (show kd 413 = 44 from rfl) (by decide) 2)
  have k9_P : kd (v11).toNat = 47 := (congrArg (fun z : Int => kd z.toNat) e11).symm.trans (CI.x hC_M (show kd 413 = 44 from rfl) 2 rfl (by decide))
  obtain ⟨v12, e12⟩ : ∃ z_, M ((v11.toNat)) 4 = z_ := ⟨_, rfl⟩
  have b12 : (-2147483648) ≤ v12 ∧ v12 ≤ 2147483647 := by rw [← e12]; exact (CI.r hC_M k9_P (by decide) 4)
  refine jr_v rfl rfl (Or.inl rfl) rfl rfl (by decide) rfl ⟨rfl, Nat.le_of_ble_eq_true rfl, Nat.le_of_ble_eq_true rfl⟩ rfl (jc.deep (c_Parser_countNode_z hC_M (FR.rfl _ M)  e6 e10 e5 e11 e12 p1 (fun M9 hC_M9 hf_M9 w9_0 w9_1 => ?_)) (by decide))
  have ht_M9 : FR W_c_Parser_kindField_z T M9 := FR.t ht_M hf_M9 (kw_sub rfl)
  obtain ⟨v13, e13⟩ : ∃ z_, M9 413 0 = z_ := ⟨_, rfl⟩
  have b13 : (-2147483648) ≤ v13 ∧ v13 ≤ 2147483647 := by rw [← e13]; exact (CI.r hC_M9 (show kd 413 = 44 from rfl) (by decide) 0)
  obtain ⟨v14, e14⟩ : ∃ z_, M9 413 1 = z_ := ⟨_, rfl⟩
  have b14 : (-2147483648) ≤ v14 ∧ v14 ≤ 2147483647 := by rw [← e14]; exact (CI.r hC_M9 (show kd 413 = 44 from rfl) (by decide) 1)
  obtain ⟨v15, e15⟩ : ∃ z_, M9 ((v11.toNat)) 4 = z_ := ⟨_, rfl⟩
  have b15 : (-2147483648) ≤ v15 ∧ v15 ≤ 2147483647 := by rw [← e15]; exact (CI.r hC_M9 k9_P (by decide) 4)
  have hq1a := CZ.node p5 hC_M hf_M9 e6 e10 e5 e11 e12 w9_1 (fun z hk => zr.wk z hz1 (by omega) hk)
  have hq1 := hq1a.imp (fun z => zr.wkind z.1 hz1 (by omega) z.2)
  refine jr.aload_n rfl rfl ?_
  have e17 : M9 413 8 = v3 := (hf_M9.g (show kd 413 = 44 from rfl) rfl).trans e3
  have e18 : M9 413 3 = v1 := (hf_M9.g (show kd 413 = 44 from rfl) rfl).trans e1
  have e19 : M9 413 6 = v4 := (hf_M9.g (show kd 413 = 44 from rfl) rfl).trans e4
  have e20 : M9 413 7 = v5 := (hf_M9.g (show kd 413 = 44 from rfl) rfl).trans e5
  refine jr_v rfl rfl (Or.inl rfl) rfl rfl (by decide) rfl ⟨rfl, Nat.le_of_ble_eq_true rfl, Nat.le_of_ble_eq_true rfl⟩ rfl (jc.deep (c_Parser_advance_z hC_M9 (FR.rfl _ M9)  e13 e17 (by have hq0 : M9 413 3 = v1 := e18; omega) (TXc.fr p2 hf_M9 rfl) (by have hq0 : M9 413 8 = v3 := e17; have hq1 : M9 413 6 = v4 := e19; have hq2 : M9 413 7 = v5 := e20; omega) (fun M16 hC_M16 hf_M16 w16_0 w16_1 => ?_)) (by decide))
  have ht_M16 : FR W_c_Parser_kindField_z T M16 := FR.t ht_M9 hf_M16 (kw_sub rfl)
  obtain ⟨v21, e21⟩ : ∃ z_, M16 413 8 = z_ := ⟨_, rfl⟩
  have b21 : 0 ≤ v21 ∧ v21 ≤ 1600 := by rw [← e21]; exact (CI.r hC_M16 (show kd 413 = 44 from rfl) (by decide) 8)
  obtain ⟨v22, e22⟩ : ∃ z_, M16 413 6 = z_ := ⟨_, rfl⟩
  have b22 : (-2147483648) ≤ v22 ∧ v22 ≤ 2147483647 := by rw [← e22]; exact (CI.r hC_M16 (show kd 413 = 44 from rfl) (by decide) 6)
  obtain ⟨v23, e23⟩ : ∃ z_, M16 413 7 = z_ := ⟨_, rfl⟩
  have b23 : 0 ≤ v23 ∧ v23 ≤ 1600 := by rw [← e23]; exact (CI.r hC_M16 (show kd 413 = 44 from rfl) (by decide) 7)
  have hq2 := CZ.adv hq1 hC_M9 hf_M16 e13 e17 w16_0
  refine jr.aload_n rfl rfl ?_
  refine jr.bipush rfl (by decide) ?_
  refine jr_v rfl rfl (Or.inl rfl) rfl rfl (by decide) rfl ⟨rfl, Nat.le_of_ble_eq_true rfl, Nat.le_of_ble_eq_true rfl⟩ rfl (jc.deep (c_Parser_isSign_z hC_M16 (by omega) (fun r24 z24 w24_0 => ?_)) (by decide))
  refine jr.if_ne rfl rfl (by omega) (fun h22 => ?_) (fun h22 => ?_)
  · refine jr.aload_n rfl rfl ?_
    have e26 : M16 413 0 = v13 := (hf_M16.g (show kd 413 = 44 from rfl) rfl).trans e13
    have e27 : M16 413 3 = v1 := (hf_M16.g (show kd 413 = 44 from rfl) rfl).trans e18
    refine jr_v rfl rfl (Or.inl rfl) rfl rfl (by decide) rfl ⟨rfl, Nat.le_of_ble_eq_true rfl, Nat.le_of_ble_eq_true rfl⟩ rfl (jc.deep (c_Parser_advance_z hC_M16 (FR.rfl _ M16)  e26 e21 (by have hq0 : M16 413 3 = v1 := e27; omega) (TXc.fr (TXc.fr p2 hf_M9 rfl) hf_M16 rfl) (by have hq0 : M16 413 8 = v21 := e21; have hq1 : M16 413 6 = v22 := e22; have hq2 : M16 413 7 = v23 := e23; omega) (fun M25 hC_M25 hf_M25 w25_0 w25_1 => ?_)) (by decide))
    have ht_M25 : FR W_c_Parser_kindField_z T M25 := FR.t ht_M16 hf_M25 (kw_sub rfl)
    obtain ⟨v28, e28⟩ : ∃ z_, M25 413 8 = z_ := ⟨_, rfl⟩
    have b28 : 0 ≤ v28 ∧ v28 ≤ 1600 := by rw [← e28]; exact (CI.r hC_M25 (show kd 413 = 44 from rfl) (by decide) 8)
    obtain ⟨v29, e29⟩ : ∃ z_, M25 413 6 = z_ := ⟨_, rfl⟩
    have b29 : (-2147483648) ≤ v29 ∧ v29 ≤ 2147483647 := by rw [← e29]; exact (CI.r hC_M25 (show kd 413 = 44 from rfl) (by decide) 6)
    obtain ⟨v30, e30⟩ : ∃ z_, M25 413 7 = z_ := ⟨_, rfl⟩
    have b30 : 0 ≤ v30 ∧ v30 ≤ 1600 := by rw [← e30]; exact (CI.r hC_M25 (show kd 413 = 44 from rfl) (by decide) 7)
    have hq3 := hq2.tk.imp (fun z => (⟨z.1, by omega, by omega⟩ : _ ∧ zso f N (znx f N tt) = 3 ∧ f (znx f N tt) = 46))
    have hq4 := CZ.adv hq3 hC_M16 hf_M25 e26 e21 w25_0
    refine jr.aload_n rfl rfl ?_
    refine jr.getf (i := 6) (x := v29) (v := .int (Int32.ofInt (v29))) rfl rfl (by decide) rfl (by decide) rfl rfl e29 rfl ?_
    refine jr.iconst rfl ?_
    refine jr.icmp_eq rfl rfl (by omega) (by omega) (fun h38 => ?_) (fun h38 => ?_)
    · refine jr.aload_n rfl rfl ?_
      refine jr.iload_n rfl rfl ?_
      refine jr_s rfl rfl (Or.inl rfl) ⟨Nat.le_of_ble_eq_true rfl, Nat.le_of_ble_eq_true rfl⟩ rfl rfl (jc.deep (c_Parser_fieldWords_z hC_M25 (by omega) (fun r31 z31 w31_0 => ?_)) (by decide))
      have e33 : M25 413 3 = v1 := (hf_M25.g (show kd 413 = 44 from rfl) rfl).trans e27
      refine jr_v rfl rfl (Or.inl rfl) rfl rfl (by decide) rfl ⟨rfl, Nat.le_of_ble_eq_true rfl, Nat.le_of_ble_eq_true rfl⟩ rfl (jc.deep (c_Parser_wordIn_z hC_M25 z31 e30 e28 (by have hq0 : M25 413 3 = v1 := e33; omega) (TXc.fr (TXc.fr (TXc.fr p2 hf_M9 rfl) hf_M16 rfl) hf_M25 rfl) (by omega) (fun r32 z32 w32_0 => ?_)) (by decide))
      have hwo32 := WOQ.mk w32_0
      clear w32_0
      refine jr.istore_n rfl (by decide) rfl ?_
      refine jr.iload_n rfl rfl ?_
      refine jr.iconst rfl ?_
      refine jr.icmp_ne rfl rfl (by omega) (by omega) (fun h57 => ?_) (fun h57 => ?_)
      · refine jr.aload_n rfl rfl ?_
        have e34 : M9 413 2 = v11 := (hf_M9.g (show kd 413 = 44 from rfl) rfl).trans e11
        have e35 : M16 413 2 = v11 := (hf_M16.g (show kd 413 = 44 from rfl) rfl).trans e34
        have e36 : M25 413 2 = v11 := (hf_M25.g (show kd 413 = 44 from rfl) rfl).trans e35
        have k37 : kd (v11).toNat = 47 := ((congrArg (fun z : Int => kd z.toNat) (show M25 413 2 = v11 from e36)).symm.trans (CI.x hC_M25 (show kd 413 = 44 from rfl) 2 rfl (by decide)))
        refine jr.getf (i := 2) (x := v11) (v := .ref (v11.toNat)) rfl rfl (by decide) rfl (by decide) rfl rfl e36 rfl ?_
        refine jr.bipush rfl (by decide) ?_
        refine jr.iload_n rfl rfl ?_
        refine jr.bipush rfl (by decide) ?_
        refine jr.imul rfl ?_
        refine jr.iload_n rfl rfl ?_
        refine jr.iadd rfl ?_
        obtain ⟨v39, e39⟩ : ∃ z_, M ((v11.toNat)) 2 = z_ := ⟨_, rfl⟩
        have b39 : 0 ≤ v39 ∧ v39 ≤ 932 := by rw [← e39]; exact (CI.r hC_M k37 (by decide) 2)
        have e40 : M9 ((v11.toNat)) 2 = v39 := (hf_M9.g k37 rfl).trans e39
        have e41 : M16 ((v11.toNat)) 2 = v39 := (hf_M16.g k37 rfl).trans e40
        have e42 : M25 ((v11.toNat)) 2 = v39 := (hf_M25.g k37 rfl).trans e41
        refine jr_v rfl rfl (Or.inl rfl) rfl rfl (Nat.lt_trans (kx_47 k37).1 (by decide)) (kx_47 k37).2 ⟨rfl, Nat.le_of_ble_eq_true rfl, Nat.le_of_ble_eq_true rfl⟩ rfl (jc.deep (c_Program_emit_z hC_M25 (FR.rfl _ M25) k37 (by omega) (by omega) e42 rfl (by have hq0 : M25 413 2 = v11 := e36; omega) (MP.fr (MP.fr w9_0 hC_M9 hf_M16 rfl) hC_M16 hf_M25 rfl) (fun r38 M38 hC_M38 hf_M38 z38 w38_0 w38_1 w38_2 => ?_)) (by decide))
        have ht_M38 : FR W_c_Parser_kindField_z T M38 := FR.t ht_M25 hf_M38 (kw_sub rfl)
        have hq6 := hq4.tk.imp (fun z => (⟨z.1, by omega, by have q := hwo32; unfold WOQ at q; rw [show v30 = znx f N (znx f N tt) by omega, show v28 = zte f N (znx f N (znx f N tt)) by omega] at q; rw [zwl_k (k := zwd f N tt - 31) (by omega) (by omega) (by omega)] at q; omega⟩ : _ ∧ zso f N (znx f N (znx f N tt)) = 1 ∧ zfd f N (zwd f N tt - 31) (znx f N (znx f N tt)) ≠ -1))
        have hq7 := CZ.emn (p := (v11.toNat)) hq6 hC_M25 hf_M38 (e36.trans (by omega)) e42 w38_2 (by omega) (by omega)
        refine jr.pop rfl rfl ?_
        refine jr.aload_n rfl rfl ?_
        have e44 : M25 413 0 = v13 := (hf_M25.g (show kd 413 = 44 from rfl) rfl).trans e26
        have e45 : M38 413 0 = v13 := (hf_M38.g (show kd 413 = 44 from rfl) rfl).trans e44
        have e46 : M38 413 8 = v28 := (hf_M38.g (show kd 413 = 44 from rfl) rfl).trans e28
        have e47 : M38 413 3 = v1 := (hf_M38.g (show kd 413 = 44 from rfl) rfl).trans e33
        have e48 : M38 413 6 = v29 := (hf_M38.g (show kd 413 = 44 from rfl) rfl).trans e29
        have e49 : M38 413 7 = v30 := (hf_M38.g (show kd 413 = 44 from rfl) rfl).trans e30
        refine jr_v rfl rfl (Or.inl rfl) rfl rfl (by decide) rfl ⟨rfl, Nat.le_of_ble_eq_true rfl, Nat.le_of_ble_eq_true rfl⟩ rfl (jc.deep (c_Parser_advance_z hC_M38 (FR.rfl _ M38)  e45 e46 (by have hq0 : M38 413 3 = v1 := e47; omega) (TXc.fr (TXc.fr (TXc.fr (TXc.fr p2 hf_M9 rfl) hf_M16 rfl) hf_M25 rfl) hf_M38 rfl) (by have hq0 : M38 413 8 = v28 := e46; have hq1 : M38 413 6 = v29 := e48; have hq2 : M38 413 7 = v30 := e49; omega) (fun M43 hC_M43 hf_M43 w43_0 w43_1 => ?_)) (by decide))
        have ht_M43 : FR W_c_Parser_kindField_z T M43 := FR.t ht_M38 hf_M43 (kw_sub rfl)
        obtain ⟨v50, e50⟩ : ∃ z_, M43 413 8 = z_ := ⟨_, rfl⟩
        have b50 : 0 ≤ v50 ∧ v50 ≤ 1600 := by rw [← e50]; exact (CI.r hC_M43 (show kd 413 = 44 from rfl) (by decide) 8)
        obtain ⟨v51, e51⟩ : ∃ z_, M43 413 6 = z_ := ⟨_, rfl⟩
        have b51 : (-2147483648) ≤ v51 ∧ v51 ≤ 2147483647 := by rw [← e51]; exact (CI.r hC_M43 (show kd 413 = 44 from rfl) (by decide) 6)
        obtain ⟨v52, e52⟩ : ∃ z_, M43 413 7 = z_ := ⟨_, rfl⟩
        have b52 : 0 ≤ v52 ∧ v52 ≤ 1600 := by rw [← e52]; exact (CI.r hC_M43 (show kd 413 = 44 from rfl) (by decide) 7)
        have hq8 := CZ.adv hq7 hC_M38 hf_M43 e45 e46 w43_0
        exact jr.vreturn rfl rfl (q _ hC_M43 ht_M43  (MP.fr w38_0 hC_M38 hf_M43 rfl) (by have hq0 : M43 413 8 = v50 := e50; have hq1 : M43 413 6 = v51 := e51; have hq2 : M43 413 7 = v52 := e52; omega) (COP.mk ((hq8.wk (fun _ h => List.mem_cons_of_mem _ h)).le h_ee (by omega)) (fun z => ⟨zr.fld z.1.1.1 z.1.1.2 z.1.2.1 z.1.2.2, by have g1 := znx_gt f (zso_lt (f := f) (N := N) (t := tt) (by omega)); have g2 := znx_ge f N (znx f N tt); have g3 := znx_ge f N (znx f N (znx f N tt)); omega⟩)))
      · refine jr.aload_n rfl rfl ?_
        refine jr.iconst rfl ?_
        have e54 : M25 413 0 = v13 := (hf_M25.g (show kd 413 = 44 from rfl) rfl).trans e26
        have e55 : M16 413 1 = v14 := (hf_M16.g (show kd 413 = 44 from rfl) rfl).trans e14
        have e56 : M25 413 1 = v14 := (hf_M25.g (show kd 413 = 44 from rfl) rfl).trans e55
        refine jr_v rfl rfl (Or.inl rfl) rfl rfl (by decide) rfl ⟨rfl, Nat.le_of_ble_eq_true rfl, Nat.le_of_ble_eq_true rfl⟩ rfl (jc.deep (c_Parser_fail_z hC_M25 (FR.rfl _ M25) (by omega) e54 e56 e30 (fun M53 hC_M53 hf_M53 w53_0 => ?_)) (by decide))
        have ht_M53 : FR W_c_Parser_kindField_z T M53 := FR.t ht_M25 hf_M53 (kw_sub rfl)
        obtain ⟨v57, e57⟩ : ∃ z_, M53 413 0 = z_ := ⟨_, rfl⟩
        have b57 : (-2147483648) ≤ v57 ∧ v57 ≤ 2147483647 := by rw [← e57]; exact (CI.r hC_M53 (show kd 413 = 44 from rfl) (by decide) 0)
        obtain ⟨v58, e58⟩ : ∃ z_, M53 413 1 = z_ := ⟨_, rfl⟩
        have b58 : (-2147483648) ≤ v58 ∧ v58 ≤ 2147483647 := by rw [← e58]; exact (CI.r hC_M53 (show kd 413 = 44 from rfl) (by decide) 1)
        have hq6 := CZ.fai (M := M53) (w := 5) hq4 e54 e56 e30 (by decide) w53_0 (fun h0 tk z => zr.fld2 z.1 z.2 (by obtain ⟨_, _, c7, c8, c6, c10, c9, c11⟩ := tk; omega) (by have q := hwo32; unfold WOQ at q; obtain ⟨_, _, c7, c8, c6, c10, c9, c11⟩ := tk; rw [show v30 = znx f N (znx f N tt) by omega, show v28 = zte f N (znx f N (znx f N tt)) by omega] at q; rw [zwl_k (k := zwd f N tt - 31) (by omega) (by omega) (by omega)] at q; omega))
        refine jr.aload_n rfl rfl ?_
        have e59 : M9 413 2 = v11 := (hf_M9.g (show kd 413 = 44 from rfl) rfl).trans e11
        have e60 : M16 413 2 = v11 := (hf_M16.g (show kd 413 = 44 from rfl) rfl).trans e59
        have e61 : M25 413 2 = v11 := (hf_M25.g (show kd 413 = 44 from rfl) rfl).trans e60
        have e62 : M53 413 2 = v11 := (hf_M53.g (show kd 413 = 44 from rfl) rfl).trans e61
        have k63 : kd (v11).toNat = 47 := ((congrArg (fun z : Int => kd z.toNat) (show M53 413 2 = v11 from e62)).symm.trans (CI.x hC_M53 (show kd 413 = 44 from rfl) 2 rfl (by decide)))
        refine jr.getf (i := 2) (x := v11) (v := .ref (v11.toNat)) rfl rfl (by decide) rfl (by decide) rfl rfl e62 rfl ?_
        refine jr.bipush rfl (by decide) ?_
        refine jr.iload_n rfl rfl ?_
        refine jr.bipush rfl (by decide) ?_
        refine jr.imul rfl ?_
        refine jr.iload_n rfl rfl ?_
        refine jr.iadd rfl ?_
        obtain ⟨v65, e65⟩ : ∃ z_, M ((v11.toNat)) 2 = z_ := ⟨_, rfl⟩
        have b65 : 0 ≤ v65 ∧ v65 ≤ 932 := by rw [← e65]; exact (CI.r hC_M k63 (by decide) 2)
        have e66 : M9 ((v11.toNat)) 2 = v65 := (hf_M9.g k63 rfl).trans e65
        have e67 : M16 ((v11.toNat)) 2 = v65 := (hf_M16.g k63 rfl).trans e66
        have e68 : M25 ((v11.toNat)) 2 = v65 := (hf_M25.g k63 rfl).trans e67
        have e69 : M53 ((v11.toNat)) 2 = v65 := (hf_M53.g k63 rfl).trans e68
        refine jr_v rfl rfl (Or.inl rfl) rfl rfl (Nat.lt_trans (kx_47 k63).1 (by decide)) (kx_47 k63).2 ⟨rfl, Nat.le_of_ble_eq_true rfl, Nat.le_of_ble_eq_true rfl⟩ rfl (jc.deep (c_Program_emit_z hC_M53 (FR.rfl _ M53) k63 (by omega) (by omega) e69 rfl (by have hq0 : M53 413 2 = v11 := e62; omega) (MP.fr (MP.fr (MP.fr w9_0 hC_M9 hf_M16 rfl) hC_M16 hf_M25 rfl) hC_M25 hf_M53 rfl) (fun r64 M64 hC_M64 hf_M64 z64 w64_0 w64_1 w64_2 => ?_)) (by decide))
        have ht_M64 : FR W_c_Parser_kindField_z T M64 := FR.t ht_M53 hf_M64 (kw_sub rfl)
        have hq7 := CZ.emn (p := (v11.toNat)) hq6 hC_M53 hf_M64 (e62.trans (by omega)) e69 w64_2 (by omega) (by omega)
        refine jr.pop rfl rfl ?_
        refine jr.aload_n rfl rfl ?_
        have e71 : M64 413 0 = v57 := (hf_M64.g (show kd 413 = 44 from rfl) rfl).trans e57
        have e72 : M53 413 8 = v28 := (hf_M53.g (show kd 413 = 44 from rfl) rfl).trans e28
        have e73 : M64 413 8 = v28 := (hf_M64.g (show kd 413 = 44 from rfl) rfl).trans e72
        have e74 : M53 413 3 = v1 := (hf_M53.g (show kd 413 = 44 from rfl) rfl).trans e33
        have e75 : M64 413 3 = v1 := (hf_M64.g (show kd 413 = 44 from rfl) rfl).trans e74
        have e76 : M53 413 6 = v29 := (hf_M53.g (show kd 413 = 44 from rfl) rfl).trans e29
        have e77 : M64 413 6 = v29 := (hf_M64.g (show kd 413 = 44 from rfl) rfl).trans e76
        have e78 : M53 413 7 = v30 := (hf_M53.g (show kd 413 = 44 from rfl) rfl).trans e30
        have e79 : M64 413 7 = v30 := (hf_M64.g (show kd 413 = 44 from rfl) rfl).trans e78
        refine jr_v rfl rfl (Or.inl rfl) rfl rfl (by decide) rfl ⟨rfl, Nat.le_of_ble_eq_true rfl, Nat.le_of_ble_eq_true rfl⟩ rfl (jc.deep (c_Parser_advance_z hC_M64 (FR.rfl _ M64)  e71 e73 (by have hq0 : M64 413 3 = v1 := e75; omega) (TXc.fr (TXc.fr (TXc.fr (TXc.fr (TXc.fr p2 hf_M9 rfl) hf_M16 rfl) hf_M25 rfl) hf_M53 rfl) hf_M64 rfl) (by have hq0 : M64 413 8 = v28 := e73; have hq1 : M64 413 6 = v29 := e77; have hq2 : M64 413 7 = v30 := e79; omega) (fun M70 hC_M70 hf_M70 w70_0 w70_1 => ?_)) (by decide))
        have ht_M70 : FR W_c_Parser_kindField_z T M70 := FR.t ht_M64 hf_M70 (kw_sub rfl)
        obtain ⟨v80, e80⟩ : ∃ z_, M70 413 8 = z_ := ⟨_, rfl⟩
        have b80 : 0 ≤ v80 ∧ v80 ≤ 1600 := by rw [← e80]; exact (CI.r hC_M70 (show kd 413 = 44 from rfl) (by decide) 8)
        obtain ⟨v81, e81⟩ : ∃ z_, M70 413 6 = z_ := ⟨_, rfl⟩
        have b81 : (-2147483648) ≤ v81 ∧ v81 ≤ 2147483647 := by rw [← e81]; exact (CI.r hC_M70 (show kd 413 = 44 from rfl) (by decide) 6)
        obtain ⟨v82, e82⟩ : ∃ z_, M70 413 7 = z_ := ⟨_, rfl⟩
        have b82 : 0 ≤ v82 ∧ v82 ≤ 1600 := by rw [← e82]; exact (CI.r hC_M70 (show kd 413 = 44 from rfl) (by decide) 7)
        have hq8 := CZ.adv hq7 hC_M64 hf_M70 e71 e73 w70_0
        exact jr.vreturn rfl rfl (q _ hC_M70 ht_M70  (MP.fr w64_0 hC_M64 hf_M70 rfl) (by have hq0 : M70 413 8 = v80 := e80; have hq1 : M70 413 6 = v81 := e81; have hq2 : M70 413 7 = v82 := e82; omega) (COP.mk ((hq8.wk (fun _ h => List.mem_cons_of_mem _ h)).le h_ee (by omega)) (fun z => z.1.elim)))
    · refine jr.aload_n rfl rfl ?_
      have e84 : M25 413 0 = v13 := (hf_M25.g (show kd 413 = 44 from rfl) rfl).trans e26
      have e85 : M16 413 1 = v14 := (hf_M16.g (show kd 413 = 44 from rfl) rfl).trans e14
      have e86 : M25 413 1 = v14 := (hf_M25.g (show kd 413 = 44 from rfl) rfl).trans e85
      refine jr_v rfl rfl (Or.inl rfl) rfl rfl (by decide) rfl ⟨rfl, Nat.le_of_ble_eq_true rfl, Nat.le_of_ble_eq_true rfl⟩ rfl (jc.deep (c_Parser_refuse_z hC_M25 (FR.rfl _ M25)  e84 e86 e30 e29 (fun M83 hC_M83 hf_M83 w83_0 => ?_)) (by decide))
      have ht_M83 : FR W_c_Parser_kindField_z T M83 := FR.t ht_M25 hf_M83 (kw_sub rfl)
      obtain ⟨v87, e87⟩ : ∃ z_, M83 413 0 = z_ := ⟨_, rfl⟩
      have b87 : (-2147483648) ≤ v87 ∧ v87 ≤ 2147483647 := by rw [← e87]; exact (CI.r hC_M83 (show kd 413 = 44 from rfl) (by decide) 0)
      obtain ⟨v88, e88⟩ : ∃ z_, M83 413 1 = z_ := ⟨_, rfl⟩
      have b88 : (-2147483648) ≤ v88 ∧ v88 ≤ 2147483647 := by rw [← e88]; exact (CI.r hC_M83 (show kd 413 = 44 from rfl) (by decide) 1)
      have hq5 := CZ.rfs (M := M83) hq4 e84 e86 e30 e29 w83_0 (fun h0 tk z => zr.fld1 z.1 z.2 (by obtain ⟨_, _, c7, c8, c6, c10, c9, c11⟩ := tk; omega))
      have e89 : M83 413 8 = v28 := (hf_M83.g (show kd 413 = 44 from rfl) rfl).trans e28
      have e90 : M83 413 6 = v29 := (hf_M83.g (show kd 413 = 44 from rfl) rfl).trans e29
      have e91 : M83 413 7 = v30 := (hf_M83.g (show kd 413 = 44 from rfl) rfl).trans e30
      exact jr.vreturn rfl rfl (q _ hC_M83 ht_M83  (MP.fr (MP.fr (MP.fr w9_0 hC_M9 hf_M16 rfl) hC_M16 hf_M25 rfl) hC_M25 hf_M83 rfl) (by have hq0 : M83 413 8 = v28 := e89; have hq1 : M83 413 6 = v29 := e90; have hq2 : M83 413 7 = v30 := e91; omega) (COP.mk (hq5.le h_ee (by omega)) (fun z => z.elim)))
  · refine jr.aload_n rfl rfl ?_
    have e93 : M16 413 0 = v13 := (hf_M16.g (show kd 413 = 44 from rfl) rfl).trans e13
    have e94 : M16 413 1 = v14 := (hf_M16.g (show kd 413 = 44 from rfl) rfl).trans e14
    refine jr_v rfl rfl (Or.inl rfl) rfl rfl (by decide) rfl ⟨rfl, Nat.le_of_ble_eq_true rfl, Nat.le_of_ble_eq_true rfl⟩ rfl (jc.deep (c_Parser_refuse_z hC_M16 (FR.rfl _ M16)  e93 e94 e23 e22 (fun M92 hC_M92 hf_M92 w92_0 => ?_)) (by decide))
    have ht_M92 : FR W_c_Parser_kindField_z T M92 := FR.t ht_M16 hf_M92 (kw_sub rfl)
    obtain ⟨v95, e95⟩ : ∃ z_, M92 413 0 = z_ := ⟨_, rfl⟩
    have b95 : (-2147483648) ≤ v95 ∧ v95 ≤ 2147483647 := by rw [← e95]; exact (CI.r hC_M92 (show kd 413 = 44 from rfl) (by decide) 0)
    obtain ⟨v96, e96⟩ : ∃ z_, M92 413 1 = z_ := ⟨_, rfl⟩
    have b96 : (-2147483648) ≤ v96 ∧ v96 ≤ 2147483647 := by rw [← e96]; exact (CI.r hC_M92 (show kd 413 = 44 from rfl) (by decide) 1)
    have hq3 := CZ.rfs (M := M92) hq2 e93 e94 e23 e22 w92_0 (fun h0 tk z => zr.fld0 z (by obtain ⟨_, _, c7, c8, c6, c10, c9, c11⟩ := tk; omega))
    refine jr.aload_n rfl rfl ?_
    have e98 : M92 413 8 = v21 := (hf_M92.g (show kd 413 = 44 from rfl) rfl).trans e21
    have e99 : M16 413 3 = v1 := (hf_M16.g (show kd 413 = 44 from rfl) rfl).trans e18
    have e100 : M92 413 3 = v1 := (hf_M92.g (show kd 413 = 44 from rfl) rfl).trans e99
    have e101 : M92 413 6 = v22 := (hf_M92.g (show kd 413 = 44 from rfl) rfl).trans e22
    have e102 : M92 413 7 = v23 := (hf_M92.g (show kd 413 = 44 from rfl) rfl).trans e23
    refine jr_v rfl rfl (Or.inl rfl) rfl rfl (by decide) rfl ⟨rfl, Nat.le_of_ble_eq_true rfl, Nat.le_of_ble_eq_true rfl⟩ rfl (jc.deep (c_Parser_advance_z hC_M92 (FR.rfl _ M92)  e95 e98 (by have hq0 : M92 413 3 = v1 := e100; omega) (TXc.fr (TXc.fr (TXc.fr p2 hf_M9 rfl) hf_M16 rfl) hf_M92 rfl) (by have hq0 : M92 413 8 = v21 := e98; have hq1 : M92 413 6 = v22 := e101; have hq2 : M92 413 7 = v23 := e102; omega) (fun M97 hC_M97 hf_M97 w97_0 w97_1 => ?_)) (by decide))
    have ht_M97 : FR W_c_Parser_kindField_z T M97 := FR.t ht_M92 hf_M97 (kw_sub rfl)
    obtain ⟨v103, e103⟩ : ∃ z_, M97 413 8 = z_ := ⟨_, rfl⟩
    have b103 : 0 ≤ v103 ∧ v103 ≤ 1600 := by rw [← e103]; exact (CI.r hC_M97 (show kd 413 = 44 from rfl) (by decide) 8)
    obtain ⟨v104, e104⟩ : ∃ z_, M97 413 6 = z_ := ⟨_, rfl⟩
    have b104 : (-2147483648) ≤ v104 ∧ v104 ≤ 2147483647 := by rw [← e104]; exact (CI.r hC_M97 (show kd 413 = 44 from rfl) (by decide) 6)
    obtain ⟨v105, e105⟩ : ∃ z_, M97 413 7 = z_ := ⟨_, rfl⟩
    have b105 : 0 ≤ v105 ∧ v105 ≤ 1600 := by rw [← e105]; exact (CI.r hC_M97 (show kd 413 = 44 from rfl) (by decide) 7)
    have hq4 := CZ.adv hq3 hC_M92 hf_M97 e95 e98 w97_0
    refine jr.aload_n rfl rfl ?_
    refine jr.getf (i := 6) (x := v104) (v := .int (Int32.ofInt (v104))) rfl rfl (by decide) rfl (by decide) rfl rfl e104 rfl ?_
    refine jr.iconst rfl ?_
    refine jr.icmp_eq rfl rfl (by omega) (by omega) (fun h38 => ?_) (fun h38 => ?_)
    · refine jr.aload_n rfl rfl ?_
      refine jr.iload_n rfl rfl ?_
      refine jr_s rfl rfl (Or.inl rfl) ⟨Nat.le_of_ble_eq_true rfl, Nat.le_of_ble_eq_true rfl⟩ rfl rfl (jc.deep (c_Parser_fieldWords_z hC_M97 (by omega) (fun r106 z106 w106_0 => ?_)) (by decide))
      have e108 : M97 413 3 = v1 := (hf_M97.g (show kd 413 = 44 from rfl) rfl).trans e100
      refine jr_v rfl rfl (Or.inl rfl) rfl rfl (by decide) rfl ⟨rfl, Nat.le_of_ble_eq_true rfl, Nat.le_of_ble_eq_true rfl⟩ rfl (jc.deep (c_Parser_wordIn_z hC_M97 z106 e105 e103 (by have hq0 : M97 413 3 = v1 := e108; omega) (TXc.fr (TXc.fr (TXc.fr (TXc.fr p2 hf_M9 rfl) hf_M16 rfl) hf_M92 rfl) hf_M97 rfl) (by omega) (fun r107 z107 w107_0 => ?_)) (by decide))
      have hwo107 := WOQ.mk w107_0
      clear w107_0
      refine jr.istore_n rfl (by decide) rfl ?_
      refine jr.iload_n rfl rfl ?_
      refine jr.iconst rfl ?_
      refine jr.icmp_ne rfl rfl (by omega) (by omega) (fun h57 => ?_) (fun h57 => ?_)
      · refine jr.aload_n rfl rfl ?_
        have e109 : M9 413 2 = v11 := (hf_M9.g (show kd 413 = 44 from rfl) rfl).trans e11
        have e110 : M16 413 2 = v11 := (hf_M16.g (show kd 413 = 44 from rfl) rfl).trans e109
        have e111 : M92 413 2 = v11 := (hf_M92.g (show kd 413 = 44 from rfl) rfl).trans e110
        have e112 : M97 413 2 = v11 := (hf_M97.g (show kd 413 = 44 from rfl) rfl).trans e111
        have k113 : kd (v11).toNat = 47 := ((congrArg (fun z : Int => kd z.toNat) (show M97 413 2 = v11 from e112)).symm.trans (CI.x hC_M97 (show kd 413 = 44 from rfl) 2 rfl (by decide)))
        refine jr.getf (i := 2) (x := v11) (v := .ref (v11.toNat)) rfl rfl (by decide) rfl (by decide) rfl rfl e112 rfl ?_
        refine jr.bipush rfl (by decide) ?_
        refine jr.iload_n rfl rfl ?_
        refine jr.bipush rfl (by decide) ?_
        refine jr.imul rfl ?_
        refine jr.iload_n rfl rfl ?_
        refine jr.iadd rfl ?_
        obtain ⟨v115, e115⟩ : ∃ z_, M ((v11.toNat)) 2 = z_ := ⟨_, rfl⟩
        have b115 : 0 ≤ v115 ∧ v115 ≤ 932 := by rw [← e115]; exact (CI.r hC_M k113 (by decide) 2)
        have e116 : M9 ((v11.toNat)) 2 = v115 := (hf_M9.g k113 rfl).trans e115
        have e117 : M16 ((v11.toNat)) 2 = v115 := (hf_M16.g k113 rfl).trans e116
        have e118 : M92 ((v11.toNat)) 2 = v115 := (hf_M92.g k113 rfl).trans e117
        have e119 : M97 ((v11.toNat)) 2 = v115 := (hf_M97.g k113 rfl).trans e118
        refine jr_v rfl rfl (Or.inl rfl) rfl rfl (Nat.lt_trans (kx_47 k113).1 (by decide)) (kx_47 k113).2 ⟨rfl, Nat.le_of_ble_eq_true rfl, Nat.le_of_ble_eq_true rfl⟩ rfl (jc.deep (c_Program_emit_z hC_M97 (FR.rfl _ M97) k113 (by omega) (by omega) e119 rfl (by have hq0 : M97 413 2 = v11 := e112; omega) (MP.fr (MP.fr (MP.fr w9_0 hC_M9 hf_M16 rfl) hC_M16 hf_M92 rfl) hC_M92 hf_M97 rfl) (fun r114 M114 hC_M114 hf_M114 z114 w114_0 w114_1 w114_2 => ?_)) (by decide))
        have ht_M114 : FR W_c_Parser_kindField_z T M114 := FR.t ht_M97 hf_M114 (kw_sub rfl)
        have hq7 := CZ.emn (p := (v11.toNat)) hq4 hC_M97 hf_M114 (e112.trans (by omega)) e119 w114_2 (by omega) (by omega)
        refine jr.pop rfl rfl ?_
        refine jr.aload_n rfl rfl ?_
        have e121 : M97 413 0 = v95 := (hf_M97.g (show kd 413 = 44 from rfl) rfl).trans e95
        have e122 : M114 413 0 = v95 := (hf_M114.g (show kd 413 = 44 from rfl) rfl).trans e121
        have e123 : M114 413 8 = v103 := (hf_M114.g (show kd 413 = 44 from rfl) rfl).trans e103
        have e124 : M114 413 3 = v1 := (hf_M114.g (show kd 413 = 44 from rfl) rfl).trans e108
        have e125 : M114 413 6 = v104 := (hf_M114.g (show kd 413 = 44 from rfl) rfl).trans e104
        have e126 : M114 413 7 = v105 := (hf_M114.g (show kd 413 = 44 from rfl) rfl).trans e105
        refine jr_v rfl rfl (Or.inl rfl) rfl rfl (by decide) rfl ⟨rfl, Nat.le_of_ble_eq_true rfl, Nat.le_of_ble_eq_true rfl⟩ rfl (jc.deep (c_Parser_advance_z hC_M114 (FR.rfl _ M114)  e122 e123 (by have hq0 : M114 413 3 = v1 := e124; omega) (TXc.fr (TXc.fr (TXc.fr (TXc.fr (TXc.fr p2 hf_M9 rfl) hf_M16 rfl) hf_M92 rfl) hf_M97 rfl) hf_M114 rfl) (by have hq0 : M114 413 8 = v103 := e123; have hq1 : M114 413 6 = v104 := e125; have hq2 : M114 413 7 = v105 := e126; omega) (fun M120 hC_M120 hf_M120 w120_0 w120_1 => ?_)) (by decide))
        have ht_M120 : FR W_c_Parser_kindField_z T M120 := FR.t ht_M114 hf_M120 (kw_sub rfl)
        obtain ⟨v127, e127⟩ : ∃ z_, M120 413 8 = z_ := ⟨_, rfl⟩
        have b127 : 0 ≤ v127 ∧ v127 ≤ 1600 := by rw [← e127]; exact (CI.r hC_M120 (show kd 413 = 44 from rfl) (by decide) 8)
        obtain ⟨v128, e128⟩ : ∃ z_, M120 413 6 = z_ := ⟨_, rfl⟩
        have b128 : (-2147483648) ≤ v128 ∧ v128 ≤ 2147483647 := by rw [← e128]; exact (CI.r hC_M120 (show kd 413 = 44 from rfl) (by decide) 6)
        obtain ⟨v129, e129⟩ : ∃ z_, M120 413 7 = z_ := ⟨_, rfl⟩
        have b129 : 0 ≤ v129 ∧ v129 ≤ 1600 := by rw [← e129]; exact (CI.r hC_M120 (show kd 413 = 44 from rfl) (by decide) 7)
        have hq8 := CZ.adv hq7 hC_M114 hf_M120 e122 e123 w120_0
        exact jr.vreturn rfl rfl (q _ hC_M120 ht_M120  (MP.fr w114_0 hC_M114 hf_M120 rfl) (by have hq0 : M120 413 8 = v127 := e127; have hq1 : M120 413 6 = v128 := e128; have hq2 : M120 413 7 = v129 := e129; omega) (COP.mk ((hq8.wk (fun _ h => List.mem_cons_of_mem _ h)).le h_ee (by omega)) (fun z => z.1.elim)))
      · refine jr.aload_n rfl rfl ?_
        refine jr.iconst rfl ?_
        have e131 : M97 413 0 = v95 := (hf_M97.g (show kd 413 = 44 from rfl) rfl).trans e95
        have e132 : M97 413 1 = v96 := (hf_M97.g (show kd 413 = 44 from rfl) rfl).trans e96
        refine jr_v rfl rfl (Or.inl rfl) rfl rfl (by decide) rfl ⟨rfl, Nat.le_of_ble_eq_true rfl, Nat.le_of_ble_eq_true rfl⟩ rfl (jc.deep (c_Parser_fail_z hC_M97 (FR.rfl _ M97) (by omega) e131 e132 e105 (fun M130 hC_M130 hf_M130 w130_0 => ?_)) (by decide))
        have ht_M130 : FR W_c_Parser_kindField_z T M130 := FR.t ht_M97 hf_M130 (kw_sub rfl)
        obtain ⟨v133, e133⟩ : ∃ z_, M130 413 0 = z_ := ⟨_, rfl⟩
        have b133 : (-2147483648) ≤ v133 ∧ v133 ≤ 2147483647 := by rw [← e133]; exact (CI.r hC_M130 (show kd 413 = 44 from rfl) (by decide) 0)
        obtain ⟨v134, e134⟩ : ∃ z_, M130 413 1 = z_ := ⟨_, rfl⟩
        have b134 : (-2147483648) ≤ v134 ∧ v134 ≤ 2147483647 := by rw [← e134]; exact (CI.r hC_M130 (show kd 413 = 44 from rfl) (by decide) 1)
        have hq6 := CZ.fai (M := M130) (w := 5) hq4 e131 e132 e105 (by decide) w130_0 (fun _ _ z => z.elim)
        refine jr.aload_n rfl rfl ?_
        have e135 : M9 413 2 = v11 := (hf_M9.g (show kd 413 = 44 from rfl) rfl).trans e11
        have e136 : M16 413 2 = v11 := (hf_M16.g (show kd 413 = 44 from rfl) rfl).trans e135
        have e137 : M92 413 2 = v11 := (hf_M92.g (show kd 413 = 44 from rfl) rfl).trans e136
        have e138 : M97 413 2 = v11 := (hf_M97.g (show kd 413 = 44 from rfl) rfl).trans e137
        have e139 : M130 413 2 = v11 := (hf_M130.g (show kd 413 = 44 from rfl) rfl).trans e138
        have k140 : kd (v11).toNat = 47 := ((congrArg (fun z : Int => kd z.toNat) (show M130 413 2 = v11 from e139)).symm.trans (CI.x hC_M130 (show kd 413 = 44 from rfl) 2 rfl (by decide)))
        refine jr.getf (i := 2) (x := v11) (v := .ref (v11.toNat)) rfl rfl (by decide) rfl (by decide) rfl rfl e139 rfl ?_
        refine jr.bipush rfl (by decide) ?_
        refine jr.iload_n rfl rfl ?_
        refine jr.bipush rfl (by decide) ?_
        refine jr.imul rfl ?_
        refine jr.iload_n rfl rfl ?_
        refine jr.iadd rfl ?_
        obtain ⟨v142, e142⟩ : ∃ z_, M ((v11.toNat)) 2 = z_ := ⟨_, rfl⟩
        have b142 : 0 ≤ v142 ∧ v142 ≤ 932 := by rw [← e142]; exact (CI.r hC_M k140 (by decide) 2)
        have e143 : M9 ((v11.toNat)) 2 = v142 := (hf_M9.g k140 rfl).trans e142
        have e144 : M16 ((v11.toNat)) 2 = v142 := (hf_M16.g k140 rfl).trans e143
        have e145 : M92 ((v11.toNat)) 2 = v142 := (hf_M92.g k140 rfl).trans e144
        have e146 : M97 ((v11.toNat)) 2 = v142 := (hf_M97.g k140 rfl).trans e145
        have e147 : M130 ((v11.toNat)) 2 = v142 := (hf_M130.g k140 rfl).trans e146
        refine jr_v rfl rfl (Or.inl rfl) rfl rfl (Nat.lt_trans (kx_47 k140).1 (by decide)) (kx_47 k140).2 ⟨rfl, Nat.le_of_ble_eq_true rfl, Nat.le_of_ble_eq_true rfl⟩ rfl (jc.deep (c_Program_emit_z hC_M130 (FR.rfl _ M130) k140 (by omega) (by omega) e147 rfl (by have hq0 : M130 413 2 = v11 := e139; omega) (MP.fr (MP.fr (MP.fr (MP.fr w9_0 hC_M9 hf_M16 rfl) hC_M16 hf_M92 rfl) hC_M92 hf_M97 rfl) hC_M97 hf_M130 rfl) (fun r141 M141 hC_M141 hf_M141 z141 w141_0 w141_1 w141_2 => ?_)) (by decide))
        have ht_M141 : FR W_c_Parser_kindField_z T M141 := FR.t ht_M130 hf_M141 (kw_sub rfl)
        have hq7 := CZ.emn (p := (v11.toNat)) hq6 hC_M130 hf_M141 (e139.trans (by omega)) e147 w141_2 (by omega) (by omega)
        refine jr.pop rfl rfl ?_
        refine jr.aload_n rfl rfl ?_
        have e149 : M141 413 0 = v133 := (hf_M141.g (show kd 413 = 44 from rfl) rfl).trans e133
        have e150 : M130 413 8 = v103 := (hf_M130.g (show kd 413 = 44 from rfl) rfl).trans e103
        have e151 : M141 413 8 = v103 := (hf_M141.g (show kd 413 = 44 from rfl) rfl).trans e150
        have e152 : M130 413 3 = v1 := (hf_M130.g (show kd 413 = 44 from rfl) rfl).trans e108
        have e153 : M141 413 3 = v1 := (hf_M141.g (show kd 413 = 44 from rfl) rfl).trans e152
        have e154 : M130 413 6 = v104 := (hf_M130.g (show kd 413 = 44 from rfl) rfl).trans e104
        have e155 : M141 413 6 = v104 := (hf_M141.g (show kd 413 = 44 from rfl) rfl).trans e154
        have e156 : M130 413 7 = v105 := (hf_M130.g (show kd 413 = 44 from rfl) rfl).trans e105
        have e157 : M141 413 7 = v105 := (hf_M141.g (show kd 413 = 44 from rfl) rfl).trans e156
        refine jr_v rfl rfl (Or.inl rfl) rfl rfl (by decide) rfl ⟨rfl, Nat.le_of_ble_eq_true rfl, Nat.le_of_ble_eq_true rfl⟩ rfl (jc.deep (c_Parser_advance_z hC_M141 (FR.rfl _ M141)  e149 e151 (by have hq0 : M141 413 3 = v1 := e153; omega) (TXc.fr (TXc.fr (TXc.fr (TXc.fr (TXc.fr (TXc.fr p2 hf_M9 rfl) hf_M16 rfl) hf_M92 rfl) hf_M97 rfl) hf_M130 rfl) hf_M141 rfl) (by have hq0 : M141 413 8 = v103 := e151; have hq1 : M141 413 6 = v104 := e155; have hq2 : M141 413 7 = v105 := e157; omega) (fun M148 hC_M148 hf_M148 w148_0 w148_1 => ?_)) (by decide))
        have ht_M148 : FR W_c_Parser_kindField_z T M148 := FR.t ht_M141 hf_M148 (kw_sub rfl)
        obtain ⟨v158, e158⟩ : ∃ z_, M148 413 8 = z_ := ⟨_, rfl⟩
        have b158 : 0 ≤ v158 ∧ v158 ≤ 1600 := by rw [← e158]; exact (CI.r hC_M148 (show kd 413 = 44 from rfl) (by decide) 8)
        obtain ⟨v159, e159⟩ : ∃ z_, M148 413 6 = z_ := ⟨_, rfl⟩
        have b159 : (-2147483648) ≤ v159 ∧ v159 ≤ 2147483647 := by rw [← e159]; exact (CI.r hC_M148 (show kd 413 = 44 from rfl) (by decide) 6)
        obtain ⟨v160, e160⟩ : ∃ z_, M148 413 7 = z_ := ⟨_, rfl⟩
        have b160 : 0 ≤ v160 ∧ v160 ≤ 1600 := by rw [← e160]; exact (CI.r hC_M148 (show kd 413 = 44 from rfl) (by decide) 7)
        have hq8 := CZ.adv hq7 hC_M141 hf_M148 e149 e151 w148_0
        exact jr.vreturn rfl rfl (q _ hC_M148 ht_M148  (MP.fr w141_0 hC_M141 hf_M148 rfl) (by have hq0 : M148 413 8 = v158 := e158; have hq1 : M148 413 6 = v159 := e159; have hq2 : M148 413 7 = v160 := e160; omega) (COP.mk ((hq8.wk (fun _ h => List.mem_cons_of_mem _ h)).le h_ee (by omega)) (fun z => z.1.elim)))
    · refine jr.aload_n rfl rfl ?_
      have e162 : M97 413 0 = v95 := (hf_M97.g (show kd 413 = 44 from rfl) rfl).trans e95
      have e163 : M97 413 1 = v96 := (hf_M97.g (show kd 413 = 44 from rfl) rfl).trans e96
      refine jr_v rfl rfl (Or.inl rfl) rfl rfl (by decide) rfl ⟨rfl, Nat.le_of_ble_eq_true rfl, Nat.le_of_ble_eq_true rfl⟩ rfl (jc.deep (c_Parser_refuse_z hC_M97 (FR.rfl _ M97)  e162 e163 e105 e104 (fun M161 hC_M161 hf_M161 w161_0 => ?_)) (by decide))
      have ht_M161 : FR W_c_Parser_kindField_z T M161 := FR.t ht_M97 hf_M161 (kw_sub rfl)
      obtain ⟨v164, e164⟩ : ∃ z_, M161 413 0 = z_ := ⟨_, rfl⟩
      have b164 : (-2147483648) ≤ v164 ∧ v164 ≤ 2147483647 := by rw [← e164]; exact (CI.r hC_M161 (show kd 413 = 44 from rfl) (by decide) 0)
      obtain ⟨v165, e165⟩ : ∃ z_, M161 413 1 = z_ := ⟨_, rfl⟩
      have b165 : (-2147483648) ≤ v165 ∧ v165 ≤ 2147483647 := by rw [← e165]; exact (CI.r hC_M161 (show kd 413 = 44 from rfl) (by decide) 1)
      have hq5 := CZ.rfs (M := M161) hq4 e162 e163 e105 e104 w161_0 (fun _ _ z => z.elim)
      have e166 : M161 413 8 = v103 := (hf_M161.g (show kd 413 = 44 from rfl) rfl).trans e103
      have e167 : M161 413 6 = v104 := (hf_M161.g (show kd 413 = 44 from rfl) rfl).trans e104
      have e168 : M161 413 7 = v105 := (hf_M161.g (show kd 413 = 44 from rfl) rfl).trans e105
      exact jr.vreturn rfl rfl (q _ hC_M161 ht_M161  (MP.fr (MP.fr (MP.fr (MP.fr w9_0 hC_M9 hf_M16 rfl) hC_M16 hf_M92 rfl) hC_M92 hf_M97 rfl) hC_M97 hf_M161 rfl) (by have hq0 : M161 413 8 = v103 := e166; have hq1 : M161 413 6 = v104 := e167; have hq2 : M161 413 7 = v105 := e168; omega) (COP.mk (hq5.le h_ee (by omega)) (fun z => z.elim)))
end
section
/-! ===== what is left of a step's ends: a fault stays ===== -/
theorem ndF {P R : Prop} {F Fa a b : Int} (w : (F = 0 ∧ P) ∨ (F = 0 ∧ R) ∨ (F ≠ 0 ∧ a = F ∧ b = Fa)) : F = 0 ∨ a ≠ 0 := by
  rcases w with w | w | w
  · exact Or.inl w.1
  · exact Or.inl w.1
  · exact Or.inr (fun e => w.1 (w.2.1.symm.trans e))
theorem exF {P R : Prop} {F Fa a b : Int} (w : (F = 0 ∧ P) ∨ (F = 0 ∧ R) ∨ (F ≠ 0 ∧ a = F ∧ b = Fa)) : F = 0 ∨ a ≠ 0 := ndF w
theorem opF {P R S : Prop} {F Fa a b : Int} (w : (F = 0 ∧ P) ∨ (F = 0 ∧ R) ∨ (F = 0 ∧ S) ∨ (F ≠ 0 ∧ a = F ∧ b = Fa)) : F = 0 ∨ a ≠ 0 := by
  rcases w with w | w
  · exact Or.inl w.1
  · exact ndF w
theorem rfA {F K Tk Fa a b : Int} (w : (F = 0 ∧ ((K = 4 ∧ a = 1) ∨ (K ≠ 4 ∧ a = 2)) ∧ b = Tk) ∨ (F ≠ 0 ∧ a = F ∧ b = Fa)) : a ≠ 0 := by
  rcases w with w | w
  · rcases w.2.1 with v | v
    · exact fun e => absurd (v.2.symm.trans e) (by decide)
    · exact fun e => absurd (v.2.symm.trans e) (by decide)
  · exact fun e => w.1 (w.2.1.symm.trans e)
theorem faA {F x Tk Fa a b : Int} (h : x ≠ 0) (w : (F = 0 ∧ a = x ∧ b = Tk) ∨ (F ≠ 0 ∧ a = F ∧ b = Fa)) : a ≠ 0 := by
  rcases w with w | w
  · exact fun e => h (w.2.1.symm.trans e)
  · exact fun e => w.1 (w.2.1.symm.trans e)
/-! ===== the class: ranks; what stands behind an expression ===== -/
noncomputable def zRK (f : Int → Int) (N x t c : Int) : Prop := zrk f N t < x ∨ 4 < zrk f N t ∨ (zrk f N t = 2 ∧ c = 1)
noncomputable def ZAX (a w e x : Int) : Prop := (a = 21 ∧ zar w = x) ∨ (a = 10 ∧ e = 0 ∧ zex w = x)
theorem zrs_nn (c : Int) : 0 ≤ zrs c := by
  unfold zrs
  (repeat' split) <;> omega
section CR
variable {f : Int → Int} {N : Int} {x : ZS} {t k d c b a w n e m : Int} {s : List (Int × Int × Int × Int)} {nm ak : List Int}
theorem zrk_nn (f : Int → Int) (N t : Int) : 0 ≤ zrk f N t := by
  unfold zrk
  split
  · exact zrs_nn _
  · decide
theorem zrk_sg (h : zso f N t = 3 ∧ f t = c) : zrk f N t = zrs c := by
  unfold zrk
  rw [if_pos h.1, h.2]
theorem zrk_2s (h : zrk f N t ≤ 4) : zso f N t = 3 := by
  by_cases q : zso f N t = 3
  · exact q
  · unfold zrk at h
    rw [if_neg q] at h
    exact absurd h (by decide)
/-- the class's rank of a sign -/
theorem zrk_r {r v6 v11 : Int} (h6 : v6 = zso f N t) (h11 : zso f N t = 3 → v11 = f t) (h : (v6 ≠ 3 ∧ r = 9) ∨ (v6 = 3 ∧ r = zrs v11)) : zrk f N t = r := by
  rcases h with q | q
  · unfold zrk
    rw [if_neg (by omega), q.2]
  · have h3 : zso f N t = 3 := by omega
    unfold zrk
    rw [if_pos h3, q.2, h11 h3]
theorem zr.bcR (h : zr f N x (3, t, k, d, c, b, (a, w, n, e) :: s, nm, ak)) (ha : a ≠ 20) (hc : zrk f N t = 2 ∧ c = 1) : zr f N x (zrf f N t) := by
  have q := zr.binc h ha hc
  have h3 := zrk_2s (f := f) (N := N) (t := t) (by omega)
  unfold zrf
  rw [if_neg (by omega)]
  exact q
theorem zRK.z0 (h : zRK f N 0 t c) : 4 < zrk f N t ∨ (zrk f N t = 2 ∧ c = 1) := by
  have q := zrk_nn f N t
  rcases h with h | h
  · omega
  · exact h
theorem zRK.up {y : Int} (h : zRK f N (y + 1) t c) (hn : zrk f N t ≠ y) : zRK f N y t c := by
  rcases h with h | h
  · exact Or.inl (by omega)
  · exact Or.inr h
theorem zr.clR (h : zr f N x (3, t, k, d, c, b, (21, w, n, e) :: s, nm, ak)) (hn : zar w ≤ n) (g : zso f N t = 3 ∧ f t = 41) : zr f N x (3, znx f N t, k, d - 1, e, b, s, nm, ak) := zr.clo h (by rw [zrk_sg g]; decide) hn g
theorem zr.clfR (h : zr f N x (3, t, k, d, c, b, (21, w, n, e) :: s, nm, ak)) (hr : zRK f N 0 t c) (hn : zar w ≤ n) (g : ¬ (zso f N t = 3 ∧ f t = 41)) : zr f N x (zrf f N t) := by
  rcases hr.z0 with q | q
  · exact zr.clof h q hn g
  · exact zr.bcR h (by decide) q
theorem zr.nxR (h : zr f N x (3, t, k, d, c, b, (a, w, n, e) :: s, nm, ak)) (ha : ZAX a w e m) (hn : n < m) (g : zso f N t = 3 ∧ f t = 44) : zr f N x (2, znx f N t, k, d, 0, b, (a, w, n + 1, e) :: s, nm, ak) := by
  have q : 4 < zrk f N t := by rw [zrk_sg g]; decide
  rcases ha with ⟨rfl, z⟩ | ⟨rfl, rfl, z⟩
  · exact zr.arg h q (by omega) g
  · exact zr.exa h q (by omega) g
theorem zr.nxfR (h : zr f N x (3, t, k, d, c, b, (a, w, n, e) :: s, nm, ak)) (ha : ZAX a w e m) (hr : zRK f N 0 t c) (hn : n < m) (g : ¬ (zso f N t = 3 ∧ f t = 44)) : zr f N x (zrf f N t) := by
  rcases hr.z0 with q | q
  · rcases ha with ⟨rfl, z⟩ | ⟨rfl, rfl, z⟩
    · exact zr.argf h q (by omega) g
    · exact zr.exaf h q (by omega) g
  · rcases ha with ⟨rfl, z⟩ | ⟨rfl, rfl, z⟩
    · exact zr.bcR h (by decide) q
    · exact zr.bcR h (by decide) q
/-- no operand can begin here -/
theorem zr.opr (h : zr f N x (2, t, k, d, c, b, s, nm, ak)) (h3 : zso f N t = 3 → f t ≠ 45 ∧ f t ≠ 33 ∧ f t ≠ 40) (h2 : zso f N t ≠ 2) (h1 : zso f N t = 1 → zwd f N t ≠ 10 ∧ (zwd f N t < 19 ∨ 44 < zwd f N t)) : zr f N x (zrf f N t) := by
  have q := zso_r f N t
  have z4 : ∀ z : Int, zso f N t = z → z ≠ 4 → zrf f N t = zft 2 t := fun z e z2 => by
    unfold zrf
    rw [if_neg (by omega)]
  rcases (show zso f N t = 3 ∨ zso f N t = 1 ∨ (zso f N t = 0 ∨ zso f N t = 4) by omega) with z | z | z
  · rw [z4 3 z (by decide)]
    exact zr.sgf h z (h3 z).1 (h3 z).2.1 (h3 z).2.2
  · rw [z4 1 z (by decide)]
    exact zr.wno h z (h1 z).1 (h1 z).2
  · exact zr.ono h z
end CR
/-- behind an expression of rank r that began at u -/
noncomputable def CXP (f : Int → Int) (N : Int) (xs : ZS) (M : jm) (r dd cc bh : Int) (sg : List (Int × Int × Int × Int)) (nm ak : List Int) (ee : Int) (fz : List (Int × Int)) (u : Int) : Prop := ∃ t k c : Int, u < t ∧ CZ f N xs M t k nm ak ee fz (zr f N xs (3, t, k, dd, c, bh, sg, nm, ak) ∧ zRK f N r t c ∧ (3 ≤ r → c = cc))
/-- in the loop of rank r: i operators were read -/
noncomputable def CXL (f : Int → Int) (N : Int) (xs : ZS) (M : jm) (r dd cc bh : Int) (sg : List (Int × Int × Int × Int)) (nm ak : List Int) (ee : Int) (fz : List (Int × Int)) (u i : Int) : Prop := ∃ t k c : Int, u + i < t ∧ CZ f N xs M t k nm ak ee fz (zr f N xs (3, t, k, dd, c, bh, sg, nm, ak) ∧ zRK f N (r + 1) t c ∧ (3 ≤ r → c = cc) ∧ (r = 2 → c = 0))
/-- before the i-th expression; behind all of them -/
noncomputable def CEL (f : Int → Int) (N : Int) (xs : ZS) (M : jm) (i tt kk dd bh a w e : Int) (sg : List (Int × Int × Int × Int)) (nm ak : List Int) (ee : Int) (fz : List (Int × Int)) (Z0 : Prop) : Prop := (i = 0 ∧ CZ f N xs M tt kk nm ak ee fz Z0) ∨ (1 ≤ i ∧ CXP f N xs M 0 dd 0 bh ((a, w, i, e) :: sg) nm ak ee fz tt)
section CS
variable {f : Int → Int} {N : Int} {xs : ZS} {M : jm} {r dd cc bh ee u i t k e tt kk a w we : Int} {sg : List (Int × Int × Int × Int)} {nm ak : List Int} {fz : List (Int × Int)} {Z Z0 : Prop}
theorem COP.flt (h0 : M 413 0 ≠ 0) (h : CZ f N xs M t k nm ak e fz Z) : COP f N xs M dd cc bh sg nm ak ee fz u := ⟨u + 1, 0, by omega, CZ.flt h0 (h.yf h0)⟩
theorem CXP.flt (h0 : M 413 0 ≠ 0) (h : CZ f N xs M t k nm ak e fz Z) : CXP f N xs M r dd cc bh sg nm ak ee fz u := ⟨u + 1, 0, 0, by omega, CZ.flt h0 (h.yf h0)⟩
theorem CXP.mk {c : Int} (h : CZ f N xs M t k nm ak ee fz Z) (hu : u < t) (g : Z → zr f N xs (3, t, k, dd, c, bh, sg, nm, ak) ∧ zRK f N r t c ∧ (3 ≤ r → c = cc)) : CXP f N xs M r dd cc bh sg nm ak ee fz u := ⟨t, k, c, hu, h.imp g⟩
theorem CXL.mk {c : Int} (h : CZ f N xs M t k nm ak ee fz Z) (hu : u + i < t) (g : Z → zr f N xs (3, t, k, dd, c, bh, sg, nm, ak) ∧ zRK f N (r + 1) t c ∧ (3 ≤ r → c = cc) ∧ (r = 2 → c = 0)) : CXL f N xs M r dd cc bh sg nm ak ee fz u i := ⟨t, k, c, hu, h.imp g⟩
/-- one is an expression of rank 5 -/
theorem COP.xp (h : COP f N xs M dd cc bh sg nm ak ee fz u) : CXP f N xs M 5 dd cc bh sg nm ak ee fz u := by
  obtain ⟨t, k, hu, h⟩ := h
  refine ⟨t, k, cc, hu, h.imp (fun z => ⟨z, ?_, fun _ => rfl⟩)⟩
  by_cases q : zrk f N t < 5
  · exact Or.inl q
  · exact Or.inr (Or.inl (by omega))
theorem CXP.dn {v : Int} (h : CXP f N xs M r dd cc bh sg nm ak ee fz u) (hv : v ≤ u) : CXP f N xs M r dd cc bh sg nm ak ee fz v := by
  obtain ⟨t, k, c, hu, h⟩ := h
  exact ⟨t, k, c, by omega, h⟩
theorem CEL.z0 (h : CEL f N xs M i tt kk dd bh a w we sg nm ak ee fz Z0) (e : i = 0) : CZ f N xs M tt kk nm ak ee fz Z0 := by
  rcases h with h | h
  · exact h.2
  · exact absurd h.1 (by omega)
theorem CEL.z1 (h : CEL f N xs M i tt kk dd bh a w we sg nm ak ee fz Z0) (e : 1 ≤ i) : CXP f N xs M 0 dd 0 bh ((a, w, i, we) :: sg) nm ak ee fz tt := by
  rcases h with h | h
  · exact absurd h.1 (by omega)
  · exact h.2
/-- a fault ends the loop -/
theorem CEL.flt {j : Int} (h : CEL f N xs M i tt kk dd bh a w we sg nm ak ee fz Z0) (h0 : M 413 0 ≠ 0) (hj : 1 ≤ j) : CEL f N xs M j tt kk dd bh a w we sg nm ak ee fz Z0 := by
  refine Or.inr ⟨hj, ?_⟩
  rcases h with h | h
  · exact CXP.flt h0 h.2
  · obtain ⟨t, k, c, hu, h⟩ := h.2
    exact CXP.flt h0 h
end CS
theorem zcv_ask {w : Int} (h : zcv w ≠ 10) (h1 : zcv w < 19) : w ≠ 10 ∧ (w < 19 ∨ 44 < w) := by
  by_cases c : 45 ≤ w
  · exact ⟨by omega, Or.inr (by omega)⟩
  · by_cases a : w = 2
    · exact ⟨by omega, Or.inl (by omega)⟩
    · by_cases b : w = 3
      · exact ⟨by omega, Or.inl (by omega)⟩
      · rw [zcv_i a b (by omega)] at h h1
        exact ⟨h, Or.inl h1⟩
theorem zcv_j {w : Int} (h : zcv w = 10 ∨ 4 ≤ zcv w) : zcv w = w ∧ w ≤ 44 := by
  by_cases a : w = 2
  · rw [a] at h
    exact absurd h (by decide)
  · by_cases b : w = 3
    · rw [b] at h
      exact absurd h (by decide)
    · by_cases c : 45 ≤ w
      · have z : zcv w = -1 := by
          unfold zcv
          rw [if_neg a, if_neg b, if_pos c]
        omega
      · rw [zcv_i a b (by omega)]
        exact ⟨rfl, by omega⟩
theorem zcv_ge {w : Int} (h : -1 ≤ w) : -1 ≤ zcv w := by
  unfold zcv
  (repeat' split) <;> omega
theorem jw31 {x : Int} (h : -2147483648 ≤ x ∧ x ≤ 2147483647) : (-2147483648 ≤ j_w (x - 31) ∧ j_w (x - 31) ≤ 2147483647) ∧ (x < -2147483617 ∨ j_w (x - 31) = x - 31) := by
  refine ⟨jb_any _, ?_⟩
  by_cases q : x < -2147483617
  · exact Or.inl q
  · exact Or.inr (j_w_id (by omega))
theorem zar_1 (w : Int) : 1 ≤ zar w := by
  unfold zar
  (repeat' split) <;> decide
/-- how many expressions a word wants -/
noncomputable def zeo (w : Int) : Int := if 25 ≤ w ∧ w ≤ 30 then zar w else if 10 ≤ w ∧ w ≤ 18 then zex w else 0
theorem c_Parser_expsOf_z {A : Nat → Option (Nat × (Nat → Int32))} [HA A] {Q : Option Value → jm → Prop} {M : jm} (hC_M : CI M) {x : Int} (h_x : (-2147483648) ≤ x ∧ x ≤ 2147483647) (q : ∀ (r : Int), 0 ≤ r ∧ r ≤ 5 → (r = zeo x) → Q (some (.int (Int32.ofInt r))) M) : jc A 1 201 [.int (Int32.ofInt (x))] M Q := by
  refine jc_of (m := xm_201) rfl (Nat.le_of_ble_eq_true rfl) rfl ?_
  refine jr.iload_n rfl rfl ?_
  rcases (show x = 10 ∨ x = 11 ∨ x = 12 ∨ x = 13 ∨ x = 14 ∨ x = 15 ∨ x = 16 ∨ x = 17 ∨ x = 18 ∨ x = 19 ∨ x = 20 ∨ x = 21 ∨ x = 22 ∨ x = 23 ∨ x = 24 ∨ x = 25 ∨ x = 26 ∨ x = 27 ∨ x = 28 ∨ x = 29 ∨ x = 30 ∨ (x ≠ 10 ∧ x ≠ 11 ∧ x ≠ 12 ∧ x ≠ 13 ∧ x ≠ 14 ∧ x ≠ 15 ∧ x ≠ 16 ∧ x ≠ 17 ∧ x ≠ 18 ∧ x ≠ 19 ∧ x ≠ 20 ∧ x ≠ 21 ∧ x ≠ 22 ∧ x ≠ 23 ∧ x ≠ 24 ∧ x ≠ 25 ∧ x ≠ 26 ∧ x ≠ 27 ∧ x ≠ 28 ∧ x ≠ 29 ∧ x ≠ 30) by omega) with h1 | h1 | h1 | h1 | h1 | h1 | h1 | h1 | h1 | h1 | h1 | h1 | h1 | h1 | h1 | h1 | h1 | h1 | h1 | h1 | h1 | h1
  · refine jr.tsw_k 10 rfl h1 rfl ?_
    refine jr.iconst rfl ?_
    exact jr.ireturn rfl rfl rfl (q _ (by omega) (by unfold zeo zar zex; (repeat' split) <;> omega))
  · refine jr.tsw_k 11 rfl h1 rfl ?_
    refine jr.iconst rfl ?_
    exact jr.ireturn rfl rfl rfl (q _ (by omega) (by unfold zeo zar zex; (repeat' split) <;> omega))
  · refine jr.tsw_k 12 rfl h1 rfl ?_
    refine jr.iconst rfl ?_
    exact jr.ireturn rfl rfl rfl (q _ (by omega) (by unfold zeo zar zex; (repeat' split) <;> omega))
  · refine jr.tsw_k 13 rfl h1 rfl ?_
    refine jr.iconst rfl ?_
    exact jr.ireturn rfl rfl rfl (q _ (by omega) (by unfold zeo zar zex; (repeat' split) <;> omega))
  · refine jr.tsw_k 14 rfl h1 rfl ?_
    refine jr.iconst rfl ?_
    exact jr.ireturn rfl rfl rfl (q _ (by omega) (by unfold zeo zar zex; (repeat' split) <;> omega))
  · refine jr.tsw_k 15 rfl h1 rfl ?_
    refine jr.iconst rfl ?_
    exact jr.ireturn rfl rfl rfl (q _ (by omega) (by unfold zeo zar zex; (repeat' split) <;> omega))
  · refine jr.tsw_k 16 rfl h1 rfl ?_
    refine jr.iconst rfl ?_
    exact jr.ireturn rfl rfl rfl (q _ (by omega) (by unfold zeo zar zex; (repeat' split) <;> omega))
  · refine jr.tsw_k 17 rfl h1 rfl ?_
    refine jr.iconst rfl ?_
    exact jr.ireturn rfl rfl rfl (q _ (by omega) (by unfold zeo zar zex; (repeat' split) <;> omega))
  · refine jr.tsw_k 18 rfl h1 rfl ?_
    refine jr.iconst rfl ?_
    exact jr.ireturn rfl rfl rfl (q _ (by omega) (by unfold zeo zar zex; (repeat' split) <;> omega))
  · refine jr.tsw_k 19 rfl h1 rfl ?_
    refine jr.iconst rfl ?_
    exact jr.ireturn rfl rfl rfl (q _ (by omega) (by unfold zeo zar zex; (repeat' split) <;> omega))
  · refine jr.tsw_k 20 rfl h1 rfl ?_
    refine jr.iconst rfl ?_
    exact jr.ireturn rfl rfl rfl (q _ (by omega) (by unfold zeo zar zex; (repeat' split) <;> omega))
  · refine jr.tsw_k 21 rfl h1 rfl ?_
    refine jr.iconst rfl ?_
    exact jr.ireturn rfl rfl rfl (q _ (by omega) (by unfold zeo zar zex; (repeat' split) <;> omega))
  · refine jr.tsw_k 22 rfl h1 rfl ?_
    refine jr.iconst rfl ?_
    exact jr.ireturn rfl rfl rfl (q _ (by omega) (by unfold zeo zar zex; (repeat' split) <;> omega))
  · refine jr.tsw_k 23 rfl h1 rfl ?_
    refine jr.iconst rfl ?_
    exact jr.ireturn rfl rfl rfl (q _ (by omega) (by unfold zeo zar zex; (repeat' split) <;> omega))
  · refine jr.tsw_k 24 rfl h1 rfl ?_
    refine jr.iconst rfl ?_
    exact jr.ireturn rfl rfl rfl (q _ (by omega) (by unfold zeo zar zex; (repeat' split) <;> omega))
  · refine jr.tsw_k 25 rfl h1 rfl ?_
    refine jr.iconst rfl ?_
    exact jr.ireturn rfl rfl rfl (q _ (by omega) (by unfold zeo zar zex; (repeat' split) <;> omega))
  · refine jr.tsw_k 26 rfl h1 rfl ?_
    refine jr.iconst rfl ?_
    exact jr.ireturn rfl rfl rfl (q _ (by omega) (by unfold zeo zar zex; (repeat' split) <;> omega))
  · refine jr.tsw_k 27 rfl h1 rfl ?_
    refine jr.iconst rfl ?_
    exact jr.ireturn rfl rfl rfl (q _ (by omega) (by unfold zeo zar zex; (repeat' split) <;> omega))
  · refine jr.tsw_k 28 rfl h1 rfl ?_
    refine jr.iconst rfl ?_
    exact jr.ireturn rfl rfl rfl (q _ (by omega) (by unfold zeo zar zex; (repeat' split) <;> omega))
  · refine jr.tsw_k 29 rfl h1 rfl ?_
    refine jr.iconst rfl ?_
    exact jr.ireturn rfl rfl rfl (q _ (by omega) (by unfold zeo zar zex; (repeat' split) <;> omega))
  · refine jr.tsw_k 30 rfl h1 rfl ?_
    refine jr.iconst rfl ?_
    exact jr.ireturn rfl rfl rfl (q _ (by omega) (by unfold zeo zar zex; (repeat' split) <;> omega))
  · refine jr.tsw_d rfl (by omega) (by omega) rfl ?_
    refine jr.iconst rfl ?_
    exact jr.ireturn rfl rfl rfl (q _ (by omega) (by unfold zeo zar zex; (repeat' split) <;> omega))
theorem zRK_2 {f : Int → Int} {N r t c c2 : Int} (h : zRK f N (r + 1) t c) (hr : r = 2) (hc : c = c2) (h1 : c2 = 1) : zRK f N r t c := by
  subst hr
  rcases h with q | q
  · by_cases z : zrk f N t = 2
    · exact Or.inr (Or.inr ⟨z, by omega⟩)
    · exact Or.inl (by omega)
  · exact Or.inr q
/-- the comparison behind an operator of rank x -/
noncomputable def zc2 (x cc : Int) : Int := if x ≤ 1 then 0 else if x = 2 then 1 else cc
theorem zc2_0 {x cc : Int} (h : x ≤ 1) : zc2 x cc = 0 := if_pos h
theorem zc2_2 {x cc : Int} (h : x = 2) : zc2 x cc = 1 := by
  unfold zc2
  rw [if_neg (by omega), if_pos h]
theorem zc2_3 {x cc : Int} (h : 3 ≤ x) : zc2 x cc = cc := by
  unfold zc2
  rw [if_neg (by omega), if_neg (by omega)]
theorem zc2_e {x cc c0 z : Int} (h : z = x) (hc : 3 ≤ x → c0 = cc) : zc2 x cc = (if z ≤ 1 then 0 else if z = 2 then 1 else c0) := by
  subst h
  by_cases a : z ≤ 1
  · rw [zc2_0 a, if_pos a]
  · by_cases b : z = 2
    · rw [zc2_2 b, if_neg a, if_pos b]
    · rw [zc2_3 (by omega), if_neg a, if_neg b, hc (by omega)]
/-- behind a deed that began at u; behind a block, at its last sign -/
noncomputable def CDP (f : Int → Int) (N : Int) (xs : ZS) (M : jm) (dd bh : Int) (sg : List (Int × Int × Int × Int)) (nm : List Int) (ee : Int) (fz : List (Int × Int)) (u : Int) : Prop := ∃ (t k : Int) (ak : List Int), u < t ∧ CZ f N xs M t k nm ak ee fz (zr f N xs (1, t, k, dd, 0, bh, sg, nm, ak))
noncomputable def CBP (f : Int → Int) (N : Int) (xs : ZS) (M : jm) (dd bh : Int) (BB : Int × Int × Int × Int) (sg : List (Int × Int × Int × Int)) (nm : List Int) (ee : Int) (fz : List (Int × Int)) (u : Int) : Prop := ∃ (t k : Int) (ak : List Int), u < t ∧ CZ f N xs M (znx f N t) k nm ak ee fz (zr f N xs (1, t, k, dd, 0, bh, BB :: sg, nm, ak) ∧ zso f N t = 3 ∧ f t = 125)
section CD
variable {f : Int → Int} {N : Int} {xs : ZS} {M : jm} {dd bh ee u t k e : Int} {BB : Int × Int × Int × Int} {sg : List (Int × Int × Int × Int)} {nm ak : List Int} {fz : List (Int × Int)} {Z : Prop}
theorem CDP.flt (h0 : M 413 0 ≠ 0) (h : CZ f N xs M t k nm ak e fz Z) : CDP f N xs M dd bh sg nm ee fz u := ⟨u + 1, 0, [], by omega, CZ.flt h0 (h.yf h0)⟩
theorem CDP.mk (h : CZ f N xs M t k nm ak ee fz Z) (g : Z → zr f N xs (1, t, k, dd, 0, bh, sg, nm, ak) ∧ u < t) : CDP f N xs M dd bh sg nm ee fz u := by
  rcases h with h | h
  · exact ⟨u + 1, 0, [], by omega, Or.inl h⟩
  · exact ⟨t, k, ak, (g h.2.2).2, Or.inr ⟨h.1, h.2.1, (g h.2.2).1⟩⟩
theorem CDP.dn {v ee' : Int} {fz' : List (Int × Int)} (h : CDP f N xs M dd bh sg nm ee fz u) (hv : v ≤ u) (h0 : 0 ≤ ee') (he : ee' ≤ ee) (g : ∀ p, p ∈ fz' → p ∈ fz) : CDP f N xs M dd bh sg nm ee' fz' v := by
  obtain ⟨t, k, ak, hu, h⟩ := h
  exact ⟨t, k, ak, by omega, (h.wk g).le h0 he⟩
theorem CBP.mk (h : CZ f N xs M (znx f N t) k nm ak ee fz Z) (hu : u < t) (g : Z → zr f N xs (1, t, k, dd, 0, bh, BB :: sg, nm, ak) ∧ zso f N t = 3 ∧ f t = 125) : CBP f N xs M dd bh BB sg nm ee fz u := ⟨t, k, ak, hu, h.imp g⟩
end CD
theorem zcv_d {w : Int} (h : ¬ (3 ≤ zcv w ∧ zcv w ≤ 18)) : ¬ (w = 2 ∨ (4 ≤ w ∧ w ≤ 18)) := by
  intro q
  rcases q with q | q
  · rw [q] at h
    exact h (by decide)
  · rw [zcv_i (by omega) (by omega) (by omega)] at h
    exact h (by omega)
theorem zcv_3 {w : Int} (h : zcv w = 3) : w = 2 := by
  unfold zcv at h
  by_cases a : w = 2
  · exact a
  · rw [if_neg a] at h
    by_cases b : w = 3
    · rw [if_pos b] at h
      omega
    · rw [if_neg b] at h
      split at h <;> omega
theorem zcv_2 {w : Int} : zcv w = 2 ↔ w = 3 := by
  refine ⟨fun h => ?_, fun h => by rw [h]; decide⟩
  unfold zcv at h
  by_cases a : w = 2
  · rw [if_pos a] at h
    omega
  · rw [if_neg a] at h
    by_cases b : w = 3
    · exact b
    · rw [if_neg b] at h
      split at h <;> omega
theorem zrk_b {f : Int → Int} {N t : Int} (g : zso f N t = 3 ∧ f t = 123) : 4 < zrk f N t := by
  rw [zrk_sg g]
  decide
theorem zr.iffR {f : Int → Int} {N : Int} {x : ZS} {t k d c b : Int} {s : List (Int × Int × Int × Int)} {nm ak : List Int} (h : zr f N x (3, t, k, d, c, b, (11, 0, 0, 0) :: s, nm, ak)) (hr : zRK f N 0 t c) (g : ¬ (zso f N t = 3 ∧ f t = 123)) : zr f N x (zrf f N t) := by
  rcases hr.z0 with q | q
  · exact zr.iffa h q g
  · exact zr.bcR h (by decide) q
noncomputable def CDL (f : Int → Int) (N : Int) (xs : ZS) (M : jm) (x bh : Int) (BB : Int × Int × Int × Int) (sg : List (Int × Int × Int × Int)) (nm : List Int) (ee : Int) (fz : List (Int × Int)) (tt i : Int) : Prop := ∃ (t k : Int) (ak1 : List Int), tt + i < t ∧ CZ f N xs M t k nm ak1 ee fz (zr f N xs (1, t, k, x + 1, 0, bh, BB :: sg, nm, ak1))
theorem CDL.mk {f : Int → Int} {N : Int} {xs : ZS} {M : jm} {x bh ee tt i t k : Int} {BB : Int × Int × Int × Int} {sg : List (Int × Int × Int × Int)} {nm ak : List Int} {fz : List (Int × Int)} {Z : Prop} (h : CZ f N xs M t k nm ak ee fz Z) (g : Z → zr f N xs (1, t, k, x + 1, 0, bh, BB :: sg, nm, ak) ∧ tt + i < t) : CDL f N xs M x bh BB sg nm ee fz tt i := by
  rcases h with h | h
  · exact ⟨tt + i + 1, 0, [], by omega, Or.inl h⟩
  · exact ⟨t, k, ak, (g h.2.2).2, Or.inr ⟨h.1, h.2.1, (g h.2.2).1⟩⟩
theorem CEL.un {f : Int → Int} {N : Int} {xs : ZS} {M : jm} {i tt kk dd bh a w we ee : Int} {sg : List (Int × Int × Int × Int)} {nm ak : List Int} {fz : List (Int × Int)} {Z0 : Prop} (h : CEL f N xs M i tt kk dd bh a w we sg nm ak ee fz Z0) : ∃ t k c : Int, tt ≤ t ∧ CZ f N xs M t k nm ak ee fz ((i = 0 ∧ t = tt ∧ k = kk ∧ Z0) ∨ (1 ≤ i ∧ tt < t ∧ zr f N xs (3, t, k, dd, c, bh, (a, w, i, we) :: sg, nm, ak) ∧ zRK f N 0 t c)) := by
  rcases h with h | h
  · exact ⟨tt, kk, 0, Int.le_refl _, h.2.imp (fun z => Or.inl ⟨h.1, rfl, rfl, z⟩)⟩
  · obtain ⟨t, k, c, hu, hq⟩ := h.2
    exact ⟨t, k, c, by omega, hq.imp (fun z => Or.inr ⟨h.1, hu, z.1, z.2.1⟩)⟩
theorem zeo_1 {w : Int} (h : 4 ≤ w ∧ w ≤ 18) : (w ≤ 9 ∧ zeo w = 0) ∨ (10 ≤ w ∧ zeo w = zex w ∧ 1 ≤ zex w) := by
  by_cases q : 10 ≤ w
  · refine Or.inr ⟨q, ?_, ?_⟩
    · unfold zeo
      rw [if_neg (by omega), if_pos (by omega)]
    · unfold zex
      (repeat' split) <;> omega
  · refine Or.inl ⟨by omega, ?_⟩
    unfold zeo
    rw [if_neg (by omega), if_neg (by omega)]
theorem zr.exfR {f : Int → Int} {N : Int} {x : ZS} {t k d c b w n e : Int} {s : List (Int × Int × Int × Int)} {nm ak : List Int} (h : zr f N x (3, t, k, d, c, b, (10, w, n, e) :: s, nm, ak)) (hr : zRK f N 0 t c) (hn : zex w ≤ n) (g : ¬ (zso f N t = 3 ∧ f t = 59)) : zr f N x (zrf f N t) := by
  rcases hr.z0 with q | q
  · exact zr.exef h q hn g
  · exact zr.bcR h (by decide) q
theorem CZ.emj {f : Int → Int} {N : Int} {xs : ZS} {T M : jm} {t k e : Int} {nm ak : List Int} {fz : List (Int × Int)} {Z : Prop} {p : Nat} {S x y y1 : Int} (h : CZ f N xs T t k nm ak e fz Z) (hC : CI T) (fr : FR W_c_Program_emit_z T M) (gp : T 413 2 = (p : Int)) (gS : T p 2 = S) (g : S < 932 → EMT T M p S x y) (h1 : 1 ≤ e) (hx : x = 8 ∨ x = 9) (hy : Z → y = y1 ∧ zso f N y1 = 1 ∧ 0 ≤ y1 ∧ y1 ≤ 1600) : CZ f N xs M t k nm (ak ++ [y1]) (e - 1) ((S, x) :: fz) (Z ∧ S < 932) := by
  have g0 : M 413 0 = T 413 0 := fr.g k413 rfl
  have g1 : M 413 1 = T 413 1 := fr.g k413 rfl
  rcases h with q | q
  · exact Or.inl (by rw [g0, g1]; exact q)
  · have z := hy q.2.2
    obtain ⟨rfl, z1, z2, z3⟩ := z
    have r := CZ.emt (xs := xs) (Z := Z) (Or.inr q) hC fr gp gS g h1 (fun _ _ => ⟨z1, z2, z3⟩)
    rw [if_pos hx] at r
    exact r
/-- hidden from omega -/
noncomputable def HID (P : Prop) : Prop := P
theorem HID.i {P : Prop} (h : P) : HID P := h
theorem HID.e {P : Prop} (h : HID P) : P := h
theorem hal_of {w b : Int} (h : 3 ≤ zcv w ∧ zcv w ≤ 18 ∧ ¬ (b = 1 ∧ 4 ≤ zcv w ∧ zcv w ≤ 9)) : w = 2 ∨ (4 ≤ w ∧ w ≤ 18 ∧ ¬ (b = 1 ∧ w ≤ 9)) := by
  by_cases h3 : zcv w = 3
  · exact Or.inl (zcv_3 h3)
  · have hj := zcv_j (w := w) (by omega)
    exact Or.inr (by omega)
theorem dno_c (w b : Int) (h : w = 2 ∨ (4 ≤ w ∧ w ≤ 18 ∧ ¬ (b = 1 ∧ w ≤ 9))) (h2 : zcv w < 3 ∨ 18 < zcv w ∨ (b = 1 ∧ 4 ≤ zcv w ∧ zcv w ≤ 9)) : False := by
  rcases h with q | q
  · rw [q, show zcv 2 = 3 by decide] at h2
    omega
  · rw [zcv_i (by omega) (by omega) (by omega)] at h2
    omega
noncomputable def PXz_ask (A : Nat → Option (Nat × (Nat → Int32))) [HA A] (n : Nat) : Prop := ∀ {Q : Option Value → jm → Prop} {G : Nat → Int → Int} {f : Int → Int} {N : Int} {xs : ZS} {tt kk dd cc bh ee : Int} {sg : List (Int × Int × Int × Int)} {nm ak : List Int} {fz : List (Int × Int)} {T : jm} {M : jm} (hC_M : CI M) (ht_M : FR W_par T M) {x : Int} (h_x : 0 ≤ x ∧ x ≤ 12) (p0 : 1 ≤ M 413 3 ∧ M 413 3 ≤ 1) (p1 : MP M G) (p2 : 20 * (13 - x) + 1 ≤ (n : Int)) (p3 : TXc f N M) (p4 : M 413 8 ≤ N ∧ (M 413 6 = 1 → M 413 7 < M 413 8)) (p5 : CZ f N xs M tt kk nm ak ee fz (zr f N xs (2, tt, kk, dd, cc, bh, sg, nm, ak))) (p6 : dd = x) (p7 : 0 ≤ ee) (p8 : M 413 0 = 0) (p9 : (zso f N tt = 3 → f tt ≠ 45 ∧ f tt ≠ 33 ∧ f tt ≠ 40)) (p10 : zso f N tt ≠ 2) (p11 : (zso f N tt = 1 → zcv (zwd f N tt) < 31)) (q : ∀ (M' : jm), CI M' → FR W_par T M' → (MP M' G) → (M' 413 8 ≤ N ∧ (M' 413 6 = 1 → M' 413 7 < M' 413 8)) → (COP f N xs M' dd cc bh sg nm ak ee fz tt) → Q none M'), jc A (n + 60) 207 [.ref (413), .int (Int32.ofInt (x))] M Q
noncomputable def PXz_one (A : Nat → Option (Nat × (Nat → Int32))) [HA A] (n : Nat) : Prop := ∀ {Q : Option Value → jm → Prop} {G : Nat → Int → Int} {f : Int → Int} {N : Int} {xs : ZS} {tt kk dd cc bh ee : Int} {sg : List (Int × Int × Int × Int)} {nm ak : List Int} {fz : List (Int × Int)} {T : jm} {M : jm} (hC_M : CI M) (ht_M : FR W_par T M) {x : Int} (h_x : 0 ≤ x ∧ x ≤ 13) {F : Int} (g_F : M 413 0 = F) (p0 : 1 ≤ M 413 3 ∧ M 413 3 ≤ 1) (p1 : x ≤ 12 ∨ M 413 0 ≠ 0) (p2 : MP M G) (p3 : 20 * (13 - x) + 2 ≤ (n : Int)) (p4 : TXc f N M) (p5 : M 413 8 ≤ N ∧ (M 413 6 = 1 → M 413 7 < M 413 8)) (p6 : CZ f N xs M tt kk nm ak ee fz (zr f N xs (2, tt, kk, dd, cc, bh, sg, nm, ak))) (p7 : dd = x) (p8 : 0 ≤ ee) (q : ∀ (M' : jm), CI M' → FR W_par T M' → (MP M' G) → (F = 0 ∨ M' 413 0 ≠ 0) → (M' 413 8 ≤ N ∧ (M' 413 6 = 1 → M' 413 7 < M' 413 8)) → (COP f N xs M' dd cc bh sg nm ak ee fz tt) → Q none M'), jc A (n + 60) 205 [.ref (413), .int (Int32.ofInt (x))] M Q
noncomputable def PXz_exp (A : Nat → Option (Nat × (Nat → Int32))) [HA A] (n : Nat) : Prop := ∀ {Q : Option Value → jm → Prop} {G : Nat → Int → Int} {f : Int → Int} {N : Int} {xs : ZS} {tt kk dd cc bh ee : Int} {sg : List (Int × Int × Int × Int)} {nm ak : List Int} {fz : List (Int × Int)} {T : jm} {M : jm} (hC_M : CI M) (ht_M : FR W_par T M) {x : Int} (h_x : 0 ≤ x ∧ x ≤ 5) {y : Int} (h_y : 0 ≤ y ∧ y ≤ 13) {F : Int} (g_F : M 413 0 = F) (p0 : 1 ≤ M 413 3 ∧ M 413 3 ≤ 1) (p1 : y ≤ 12 ∨ M 413 0 ≠ 0) (p2 : MP M G) (p3 : 20 * (13 - y) + (8 - x) ≤ (n : Int)) (p4 : TXc f N M) (p5 : M 413 8 ≤ N ∧ (M 413 6 = 1 → M 413 7 < M 413 8)) (p6 : CZ f N xs M tt kk nm ak ee fz (zr f N xs (2, tt, kk, dd, cc, bh, sg, nm, ak))) (p7 : dd = y) (p8 : 0 ≤ ee) (p9 : (x ≤ 2 → cc = 0)) (p10 : ∃ (a w n e : Int) (r : List (Int × Int × Int × Int)), sg = (a, w, n, e) :: r ∧ a ≠ 20) (q : ∀ (M' : jm), CI M' → FR W_par T M' → (MP M' G) → (F = 0 ∨ M' 413 0 ≠ 0) → (M' 413 8 ≤ N ∧ (M' 413 6 = 1 → M' 413 7 < M' 413 8)) → (CXP f N xs M' x dd cc bh sg nm ak ee fz tt) → Q none M'), jc A (n + 60) 203 [.ref (413), .int (Int32.ofInt (x)), .int (Int32.ofInt (y))] M Q
noncomputable def PXz_exps (A : Nat → Option (Nat × (Nat → Int32))) [HA A] (n : Nat) : Prop := ∀ {Q : Option Value → jm → Prop} {G : Nat → Int → Int} {f : Int → Int} {N : Int} {xs : ZS} {tt kk dd bh ee : Int} {sg : List (Int × Int × Int × Int)} {nm ak : List Int} {fz : List (Int × Int)} {aw ww we : Int} {Z0 : Prop} {T : jm} {M : jm} (hC_M : CI M) (ht_M : FR W_par T M) {x : Int} (h_x : 0 ≤ x ∧ x ≤ 5) {y : Int} (h_y : 0 ≤ y ∧ y ≤ 13) (p0 : 1 ≤ M 413 3 ∧ M 413 3 ≤ 1) (p1 : y ≤ 12 ∨ M 413 0 ≠ 0) (p2 : MP M G) (p3 : 20 * (13 - y) + 9 ≤ (n : Int)) (p4 : TXc f N M) (p5 : M 413 8 ≤ N ∧ (M 413 6 = 1 → M 413 7 < M 413 8)) (p6 : CZ f N xs M tt kk nm ak ee fz Z0) (p7 : dd = y) (p8 : 0 ≤ ee) (p9 : (1 ≤ x → ZAX aw ww we x)) (p10 : (1 ≤ x → Z0 → zr f N xs (2, tt, kk, dd, 0, bh, (aw, ww, 1, we) :: sg, nm, ak))) (p11 : aw ≠ 20) (q : ∀ (M' : jm), CI M' → FR W_par T M' → (MP M' G) → (M' 413 8 ≤ N ∧ (M' 413 6 = 1 → M' 413 7 < M' 413 8)) → (CEL f N xs M' x tt kk dd bh aw ww we sg nm ak ee fz Z0) → Q none M'), jc A (n + 60) 202 [.ref (413), .int (Int32.ofInt (x)), .int (Int32.ofInt (y))] M Q
noncomputable def PXz_block (A : Nat → Option (Nat × (Nat → Int32))) [HA A] (n : Nat) : Prop := ∀ {Q : Option Value → jm → Prop} {G : Nat → Int → Int} {f : Int → Int} {N : Int} {xs : ZS} {tt kk bh ee : Int} {sg : List (Int × Int × Int × Int)} {nm ak : List Int} {fz : List (Int × Int)} {BB : Int × Int × Int × Int} {Z0 : Prop} {T : jm} {M : jm} (hC_M : CI M) (ht_M : FR W_par T M) {x : Int} (h_x : 0 ≤ x ∧ x ≤ 12) {y : Int} (h_y : 0 ≤ y ∧ y ≤ 1) (p0 : 1 ≤ M 413 3 ∧ M 413 3 ≤ 1) (p1 : MP M G) (p2 : 20 * (13 - x) + 10 ≤ (n : Int)) (p3 : TXc f N M) (p4 : M 413 8 ≤ N ∧ (M 413 6 = 1 → M 413 7 < M 413 8)) (p5 : CZ f N xs M tt kk nm ak ee fz Z0) (p6 : 0 ≤ ee) (p7 : bh = y) (p8 : (Z0 → (zso f N tt = 3 ∧ f tt = 123) → x < 12 → zr f N xs (1, znx f N tt, kk, x + 1, 0, bh, BB :: sg, nm, ak))) (p9 : (Z0 → (zso f N tt = 3 ∧ f tt = 123) → 12 ≤ x → zr f N xs (zft 3 tt))) (p10 : (Z0 → ¬ (zso f N tt = 3 ∧ f tt = 123) → zr f N xs (zrf f N tt))) (q : ∀ (M' : jm), CI M' → FR W_par T M' → (MP M' G) → (M' 413 8 ≤ N ∧ (M' 413 6 = 1 → M' 413 7 < M' 413 8)) → (CBP f N xs M' (x + 1) bh BB sg nm ee fz tt) → Q none M'), jc A (n + 60) 198 [.ref (413), .int (Int32.ofInt (x)), .int (Int32.ofInt (y))] M Q
noncomputable def PXz_choice (A : Nat → Option (Nat × (Nat → Int32))) [HA A] (n : Nat) : Prop := ∀ {Q : Option Value → jm → Prop} {G : Nat → Int → Int} {f : Int → Int} {N : Int} {xs : ZS} {tt kk dd bh ee : Int} {sg : List (Int × Int × Int × Int)} {nm ak : List Int} {fz : List (Int × Int)} {T : jm} {M : jm} (hC_M : CI M) (ht_M : FR W_par T M) {x : Int} (h_x : 0 ≤ x ∧ x ≤ 12) {y : Int} (h_y : 0 ≤ y ∧ y ≤ 1) (p0 : 1 ≤ M 413 3 ∧ M 413 3 ≤ 1) (p1 : MP M G) (p2 : 20 * (13 - x) + 11 ≤ (n : Int)) (p3 : TXc f N M) (p4 : M 413 8 ≤ N ∧ (M 413 6 = 1 → M 413 7 < M 413 8)) (p5 : CZ f N xs M tt kk nm ak ee fz (zr f N xs (2, tt, kk, dd, 0, bh, (11, 0, 0, 0) :: sg, nm, ak))) (p6 : dd = x) (p7 : 2 ≤ ee) (p8 : bh = y) (q : ∀ (M' : jm), CI M' → FR W_par T M' → (MP M' G) → (M' 413 8 ≤ N ∧ (M' 413 6 = 1 → M' 413 7 < M' 413 8)) → (CDP f N xs M' dd bh sg nm (ee - 2) fz tt) → Q none M'), jc A (n + 60) 200 [.ref (413), .int (Int32.ofInt (x)), .int (Int32.ofInt (y))] M Q
noncomputable def PXz_deed (A : Nat → Option (Nat × (Nat → Int32))) [HA A] (n : Nat) : Prop := ∀ {Q : Option Value → jm → Prop} {G : Nat → Int → Int} {f : Int → Int} {N : Int} {xs : ZS} {tt kk dd bh ee : Int} {sg : List (Int × Int × Int × Int)} {nm ak : List Int} {fz : List (Int × Int)} {T : jm} {M : jm} (hC_M : CI M) (ht_M : FR W_par T M) {x : Int} (h_x : 0 ≤ x ∧ x ≤ 12) {y : Int} (h_y : 0 ≤ y ∧ y ≤ 1) (p0 : 1 ≤ M 413 3 ∧ M 413 3 ≤ 1) (p1 : MP M G) (p2 : 20 * (13 - x) + 12 ≤ (n : Int)) (p3 : TXc f N M) (p4 : M 413 8 ≤ N ∧ (M 413 6 = 1 → M 413 7 < M 413 8)) (p5 : CZ f N xs M tt kk nm ak ee fz (zr f N xs (1, tt, kk, dd, 0, bh, sg, nm, ak) ∧ ¬ (zso f N tt = 3 ∧ f tt = 125))) (p6 : dd = x) (p7 : 0 ≤ ee) (p8 : bh = y) (p9 : sg ≠ []) (p10 : M 413 0 = 0) (q : ∀ (M' : jm), CI M' → FR W_par T M' → (MP M' G) → (M' 413 8 ≤ N ∧ (M' 413 6 = 1 → M' 413 7 < M' 413 8)) → (CDP f N xs M' dd bh sg nm ee fz tt) → Q none M'), jc A (n + 60) 199 [.ref (413), .int (Int32.ofInt (x)), .int (Int32.ofInt (y))] M Q
noncomputable def PXz (A : Nat → Option (Nat × (Nat → Int32))) [HA A] (n : Nat) : Prop := PXz_ask A n ∧ PXz_one A n ∧ PXz_exp A n ∧ PXz_exps A n ∧ PXz_block A n ∧ PXz_choice A n ∧ PXz_deed A n
end
