section
theorem c_Flows_isTold_x_L2 {A : Nat → Option (Nat × (Nat → Int32))} {Q : Option Value → jm → Prop} {M : jm} (hC_M : CI M) {W_ : Int} {x : Int} (q : ∀ (r : Int), 0 ≤ r ∧ r ≤ 1 → ((r = 1 ∧ ∃ a : Int, 0 ≤ a ∧ a < x ∧ sdF M (xe W_.toNat a) (xe W_.toNat x) ≠ -1) ∨ (r = 0 ∧ ∀ a : Int, 0 ≤ a → a < x → sdF M (xe W_.toNat a) (xe W_.toNat x) = -1)) → Q (some (.int (Int32.ofInt r))) M) : ∀ (nM : Nat) (i : Int), 0 ≤ x ∧ x ≤ 23 → 0 ≤ i ∧ i ≤ 24 → M 15 1 = W_ → (∀ a : Int, 0 ≤ a → a < i → sdF M (xe W_.toNat a) (xe W_.toNat x) = -1) → 24 - i ≤ nM → jr A 2 xm_85 2 [(1, .int (Int32.ofInt (x))), (2, .int (Int32.ofInt (i))), (0, .ref (15))] [] M Q := by
  intro nM
  induction nM using Nat.strongRecOn with
  | ind nM ih =>
    intro i h_x h_i g_W_ hy0 hm
    have b_W_ : 16 ≤ W_ ∧ W_ ≤ 17 := by rw [← g_W_]; exact (CI.r hC_M (show kd 15 = 9 from rfl) (by decide) 1)
    refine jr.iload_n rfl rfl ?_
    refine jr.iload_n rfl rfl ?_
    refine jr.icmp_ge rfl rfl (by omega) (by omega) (fun h4 => ?_) (fun h4 => ?_)
    · refine jr.iconst rfl ?_
      exact jr.ireturn rfl rfl rfl (q _ (by omega) (Or.inr ⟨rfl, fun a a0 a1 => hy0 a a0 (by omega)⟩))
    · refine jr.aload_n rfl rfl ?_
      have k1 : kd (W_).toNat = 13 := by rcases (show W_ = 16 ∨ W_ = 17 by omega) with h | h <;> (rw [h]; rfl)
      refine jr.getf (i := 1) (x := W_) (v := .ref (W_.toNat)) rfl rfl (by decide) rfl (by decide) rfl rfl g_W_ rfl ?_
      refine jr.iload_n rfl rfl ?_
      have k2 := kxe_13 k1 (i := i) (by omega) (by omega)
      refine jr.aald (c := (xe ((W_.toNat)) i)) rfl (Nat.lt_trans (kx_13 k1).1 (by decide)) (kx_13 k1).2 (by decide) (by decide) rfl (by decide) (by omega) (by omega) k2.1 ?_
      refine jr.aload_n rfl rfl ?_
      have k3 : kd (W_).toNat = 13 := by rcases (show W_ = 16 ∨ W_ = 17 by omega) with h | h <;> (rw [h]; rfl)
      refine jr.getf (i := 1) (x := W_) (v := .ref (W_.toNat)) rfl rfl (by decide) rfl (by decide) rfl rfl g_W_ rfl ?_
      refine jr.iload_n rfl rfl ?_
      have k4 := kxe_13 k3 (i := x) (by omega) (by omega)
      refine jr.aald (c := (xe ((W_.toNat)) x)) rfl (Nat.lt_trans (kx_13 k3).1 (by decide)) (kx_13 k3).2 (by decide) (by decide) rfl (by decide) (by omega) (by omega) k4.1 ?_
      refine jr_v rfl rfl (Or.inl rfl) rfl rfl (Nat.lt_trans (kx_1 k2.2).1 (by decide)) (kx_1 k2.2).2 ⟨rfl, Nat.le_of_ble_eq_true rfl, Nat.le_of_ble_eq_true rfl⟩ rfl (jc.deep (c_Flow_sideOf_x hC_M k2.2 k4.2 (fun r5 z5 w5_0 => ?_)) (by decide))
      refine jr.iconst rfl ?_
      refine jr.icmp_eq rfl rfl (by omega) (by omega) (fun h23 => ?_) (fun h23 => ?_)
      · refine jr.iinc (ls' := [_, _, _]) rfl rfl (by decide) rfl ?_
        refine jr.goto rfl rfl ?_
        refine jr.pick (ls := [_, _, _]) [1, 0, 2] rfl rfl ?_
        exact ih (nM - 1) (by omega) (i + 1) (by omega) (by omega) g_W_ (fun a a0 a1 => by by_cases q : a = i; (subst q; rw [← w5_0]; omega); (exact hy0 a a0 (by omega))) (by omega)
      · have sx23 : (0 : Int) ≤ r5 := by omega
        clear h23
        refine jr.iconst rfl ?_
        exact jr.ireturn rfl rfl rfl (q _ (by omega) (Or.inl ⟨rfl, i, by omega, by omega, by rw [← w5_0]; omega⟩))
theorem c_Flows_isTold_x {A : Nat → Option (Nat × (Nat → Int32))} {Q : Option Value → jm → Prop} {M : jm} (hC_M : CI M) {x : Int} (h_x : 0 ≤ x ∧ x ≤ 23) {W_ : Int} (g_W_ : M 15 1 = W_) (q : ∀ (r : Int), 0 ≤ r ∧ r ≤ 1 → ((r = 1 ∧ ∃ a : Int, 0 ≤ a ∧ a < x ∧ sdF M (xe W_.toNat a) (xe W_.toNat x) ≠ -1) ∨ (r = 0 ∧ ∀ a : Int, 0 ≤ a → a < x → sdF M (xe W_.toNat a) (xe W_.toNat x) = -1)) → Q (some (.int (Int32.ofInt r))) M) : jc A 3 85 [.ref (15), .int (Int32.ofInt (x))] M Q := by
  refine jc_of (m := xm_85) rfl (Nat.le_of_ble_eq_true rfl) rfl ?_
  have b_W_ : 16 ≤ W_ ∧ W_ ≤ 17 := by rw [← g_W_]; exact (CI.r hC_M (show kd 15 = 9 from rfl) (by decide) 1)
  refine jr.iconst rfl ?_
  refine jr.istore_n (ls' := [_, _, _]) rfl (by decide) rfl ?_
  refine jr.pick (ls := [_, _, _]) [2, 0, 1] rfl rfl ?_
  exact c_Flows_isTold_x_L2 hC_M  q 24 0 (by omega) (by omega) g_W_ (fun a a0 a1 => absurd a1 (by omega)) (by omega)
end
section
/-! ===== the class: restore ===== -/
/-- cells of the flows of W -/
noncomputable def inF (W : Int) (b : Nat) : Prop := ∃ i : Int, (0 ≤ i ∧ i < 24) ∧ xe W.toNat i ≤ b ∧ b ≤ xe W.toNat i + 7
theorem inF_n {W : Int} {b : Nat} (hW : 16 ≤ W ∧ W ≤ 17) (hb : b < 29) : ¬ inF W b := by
  rintro ⟨i, h0, h1, h2⟩
  have q := xfl hW h0
  omega
theorem fr7.n {T M : jm} {W i : Int} (h : fr7 T M (xe W.toNat i)) (hi : 0 ≤ i ∧ i < 24) {b : Nat} (hb : ¬ inF W b) (k : Int) : M b k = T b k := by
  refine h b k ?_
  rcases Nat.lt_or_ge b (xe W.toNat i) with q | q
  · exact Or.inl q
  · right
    rcases Nat.lt_or_ge (xe W.toNat i + 7) b with q2 | q2
    · exact q2
    · exact absurd ⟨i, hi, q, q2⟩ hb
theorem xfl_d {W i k : Int} (hW : 16 ≤ W ∧ W ≤ 17) (hi : 0 ≤ i ∧ i < 24) (hk : 0 ≤ k ∧ k < 24) (h : k ≠ i) : xe W.toNat k + 7 < xe W.toNat i ∨ xe W.toNat i + 7 < xe W.toNat k := by
  have q := xfl hW hi
  have q2 := xfl hW hk
  omega
/-- rows below i are read -/
noncomputable def TBS (T M : jm) (W y z i : Int) : Prop := (∀ k : Int, 0 ≤ k → k < i → okR (T 1) y k ∧ RRD M (xe W.toNat k) (T 1) (48 * k) z) ∧ ∀ (b : Nat) (k : Int), ¬ inF W b → M b k = T b k
theorem TBS.le {T M : jm} {W y z i : Int} (h : TBS T M W y z i) : i ≤ 24 := by
  by_cases q : i ≤ 0
  · omega
  · have := (h.1 (i - 1) (by omega) (by omega)).1.1.2
    omega
theorem TBS.t {T M : jm} {W y z i : Int} (h : TBS T M W y z i) (hW : 16 ≤ W ∧ W ≤ 17) : M 1 = T 1 := funext (fun k => h.2 1 k (inF_n hW (by decide)))
theorem TBS.f {T M M2 : jm} {W y z i j : Int} (h : TBS T M W y z i) (hW : 16 ≤ W ∧ W ≤ 17) (hi : 0 ≤ i ∧ i < 24) (hj : j = i * 48) (g : fr7 M M2 (xe W.toNat i)) (hr : RRD M2 (xe W.toNat i) (M 1) j z) : (∀ k : Int, 0 ≤ k → k < i + 1 → RRD M2 (xe W.toNat k) (T 1) (48 * k) z) ∧ ∀ (b : Nat) (k : Int), ¬ inF W b → M2 b k = T b k := by
  refine ⟨fun k k0 k1 => ?_, fun b k hb => (g.n hi hb k).trans (h.2 b k hb)⟩
  by_cases e : k = i
  · subst e
    rw [h.t hW, hj, Int.mul_comm] at hr
    exact hr
  · exact (h.1 k k0 (by omega)).2.fr g (xfl_d hW hi (by omega) e)
theorem TBS.ok {T M M2 : jm} {W y z i j : Int} (h : TBS T M W y z i) (hW : 16 ≤ W ∧ W ≤ 17) (hi : 0 ≤ i ∧ i < 24) (hj : j = i * 48) (g : fr7 M M2 (xe W.toNat i)) (hr : RRD M2 (xe W.toNat i) (M 1) j z) (hl : (i + 1) * 48 ≤ y) (hg : rGood (M 1) j) (ht : ∀ a : Int, 0 ≤ a → a < i → sdF M2 (xe W.toNat a) (xe W.toNat i) = -1) : TBS T M2 W y z (i + 1) := by
  have q := h.f hW hi hj g hr
  refine ⟨fun k k0 k1 => ⟨?_, q.1 k k0 k1⟩, q.2⟩
  by_cases e : k = i
  · subst e
    rw [h.t hW, hj, Int.mul_comm] at hg
    refine ⟨⟨by omega, hi.2⟩, hg, fun a a0 a1 u => ?_⟩
    exact (RRD.like (q.1 a a0 (by omega)) (q.1 k k0 k1)).2 u (ht a a0 a1)
  · exact (h.1 k k0 (by omega)).1
theorem TBS.no {T M M2 : jm} {W y z i j : Int} (h : TBS T M W y z i) (hW : 16 ≤ W ∧ W ≤ 17) (hi : 0 ≤ i ∧ i < 24) (hj : j = i * 48) (g : fr7 M M2 (xe W.toNat i)) (hr : RRD M2 (xe W.toNat i) (M 1) j z) (ht : ∃ a : Int, 0 ≤ a ∧ a < i ∧ sdF M2 (xe W.toNat a) (xe W.toNat i) ≠ -1) : ¬ okR (T 1) y i := by
  have q := h.f hW hi hj g hr
  obtain ⟨a, a0, a1, a2⟩ := ht
  exact fun u => u.2.2 a a0 a1 ((RRD.like (q.1 a a0 (by omega)) (q.1 i hi.1 (by omega))).1 a2)
theorem TBS.bad {T M : jm} {W y z i j : Int} (h : TBS T M W y z i) (hW : 16 ≤ W ∧ W ≤ 17) (hj : j = i * 48) (hg : ¬ rGood (M 1) j) : ¬ okR (T 1) y i := by
  rw [h.t hW, hj, Int.mul_comm] at hg
  exact fun u => hg u.2.1
noncomputable def TBZ (T M : jm) (W y z w i : Int) : Prop := (∀ k : Int, 0 ≤ k → k < w → okR (T 1) y k ∧ RRD M (xe W.toNat k) (T 1) (48 * k) z) ∧ ∀ k : Int, w ≤ k → k < i → M (xe W.toNat k) 0 = 0
theorem TBZ.s {T M : jm} {W y z w i : Int} (h : TBZ T M W y z w i) (hW : 16 ≤ W ∧ W ≤ 17) (hi : 0 ≤ i ∧ i < 24) (hw : 0 ≤ w ∧ w ≤ i) : TBZ T (ju M (xe W.toNat i) 0 0) W y z w (i + 1) := by
  have g : fr7 M (ju M (xe W.toNat i) 0 0) (xe W.toNat i) := fr7.u (fun _ _ _ => rfl) (by omega)
  refine ⟨fun k k0 k1 => ⟨(h.1 k k0 k1).1, (h.1 k k0 k1).2.fr g (xfl_d hW hi (by omega) (by omega))⟩, fun k k0 k1 => ?_⟩
  by_cases e : k = i
  · subst e
    exact ju_same _ _ _ _
  · have d := xfl_d hW hi (k := k) (by omega) e
    rw [ju_c _ _ (by omega)]
    exact h.2 k k0 (by omega)
theorem RRD.o {T M : jm} {t : Nat} {f : Int → Int} {y Z : Int} (h : RRD T t f y Z) (ht : 15 < t) (g : ∀ (b : Nat) (k : Int), b ≠ 15 → M b k = T b k) : RRD M t f y Z := by
  unfold RRD RR0 rSA rS1 at h ⊢
  simp only [g t _ (by omega), g (t + 1) _ (by omega), g (t + 2) _ (by omega), g (t + 3) _ (by omega), g (t + 4) _ (by omega), g (t + 5) _ (by omega), g (t + 6) _ (by omega), g (t + 7) _ (by omega)]
  exact h
/-- what readTable leaves behind -/
noncomputable def RTQ (T M : jm) (V W y z r : Int) : Prop := RTR (T 1) y r ∧ ((r < 0 ∧ ∀ (b : Nat) (k : Int), ¬ inF W b → M b k = T b k) ∨ ((0 ≤ r ∧ r ≤ 24) ∧ (M 15 0 = W ∧ M 15 1 = V) ∧ (∀ k : Int, 0 ≤ k → k < r → (0 ≤ k ∧ okR (T 1) y k) ∧ RRD M (xe W.toNat k) (T 1) (48 * k) z) ∧ ∀ k : Int, r ≤ k → k < 24 → M (xe W.toNat k) 0 = 0))
theorem TBZ.q {T M : jm} {V W y z w : Int} (h : TBZ T M W y z w 24) (hW : 16 ≤ W ∧ W ≤ 17) (hw : 0 ≤ w ∧ w ≤ 24) (hy : w = (y + 47) / 48) : RTQ T (ju (ju M 15 0 W) 15 1 V) V W y z w := by
  have g : ∀ (b : Nat) (k : Int), b ≠ 15 → ju (ju M 15 0 W) 15 1 V b k = M b k := fun b k hb => by rw [ju_c _ _ hb, ju_c _ _ hb]
  refine ⟨Or.inr ⟨fun k k0 k1 => (h.1 k k0 (by omega)).1, hy⟩, Or.inr ⟨hw, ⟨by rw [ju_i _ _ (by decide), ju_same], ju_same _ _ _ _⟩, fun k k0 k1 => ⟨⟨k0, (h.1 k k0 k1).1⟩, (h.1 k k0 k1).2.o (by have q := xfl (V := W) (i := k) hW (by omega); omega) g⟩, fun k k0 k1 => ?_⟩⟩
  rw [g _ _ (by have q := xfl (V := W) (i := k) hW (by omega); omega)]
  exact h.2 k k0 k1
theorem TBS.r {T M : jm} {V W y z i : Int} (h : TBS T M W y z i) (hi : 0 ≤ i) (hw : i < (y + 47) / 48) (hn : ¬ okR (T 1) y i) {M2 : jm} (g : ∀ (b : Nat) (k : Int), ¬ inF W b → M2 b k = T b k) : RTQ T M2 V W y z (-10 - i) := ⟨Or.inl ⟨i, ⟨hi, hw⟩, fun k k0 k1 => (h.1 k k0 k1).1, hn, rfl⟩, Or.inl ⟨by omega, g⟩⟩
end
