/-! ===== the class: restore ===== -/
/-- cells of the flows of W -/
def inF (W : Int) (b : Nat) : Prop := ∃ i : Int, (0 ≤ i ∧ i < 24) ∧ xe W.toNat i ≤ b ∧ b ≤ xe W.toNat i + 7
theorem inF_n {W : Int} {b : Nat} (hW : 16 ≤ W ∧ W ≤ 17) (hb : b < 29) : ¬ inF W b := by
  rintro ⟨i, h0, h1, h2⟩
  have q := xfl hW h0
  omega
theorem fr7.n {T M : jm} {W i : Int} (h : fr7 T M (xe W.toNat i)) (hi : 0 ≤ i ∧ i < 24) {b : Nat} (hb : ¬ inF W b) (k : Int) : M b k = T b k := by
  refine h b k ?_
  rcases Nat.lt_or_ge b (xe W.toNat i) with q | q
  · exact Or.inl q
  · right
    rcases Nat.lt_or_ge (xe W.toNat i + 7) b with q2 | q2
    · exact q2
    · exact absurd ⟨i, hi, q, q2⟩ hb
theorem xfl_d {W i k : Int} (hW : 16 ≤ W ∧ W ≤ 17) (hi : 0 ≤ i ∧ i < 24) (hk : 0 ≤ k ∧ k < 24) (h : k ≠ i) : xe W.toNat k + 7 < xe W.toNat i ∨ xe W.toNat i + 7 < xe W.toNat k := by
  have q := xfl hW hi
  have q2 := xfl hW hk
  omega
/-- rows below i are read -/
def TBS (T M : jm) (W y z i : Int) : Prop := (∀ k : Int, 0 ≤ k → k < i → okR (T 1) y k ∧ RRD M (xe W.toNat k) (T 1) (48 * k) z) ∧ ∀ (b : Nat) (k : Int), ¬ inF W b → M b k = T b k
theorem TBS.le {T M : jm} {W y z i : Int} (h : TBS T M W y z i) : i ≤ 24 := by
  by_cases q : i ≤ 0
  · omega
  · have := (h.1 (i - 1) (by omega) (by omega)).1.1.2
    omega
theorem TBS.t {T M : jm} {W y z i : Int} (h : TBS T M W y z i) (hW : 16 ≤ W ∧ W ≤ 17) : M 1 = T 1 := funext (fun k => h.2 1 k (inF_n hW (by decide)))
theorem TBS.f {T M M2 : jm} {W y z i j : Int} (h : TBS T M W y z i) (hW : 16 ≤ W ∧ W ≤ 17) (hi : 0 ≤ i ∧ i < 24) (hj : j = i * 48) (g : fr7 M M2 (xe W.toNat i)) (hr : RRD M2 (xe W.toNat i) (M 1) j z) : (∀ k : Int, 0 ≤ k → k < i + 1 → RRD M2 (xe W.toNat k) (T 1) (48 * k) z) ∧ ∀ (b : Nat) (k : Int), ¬ inF W b → M2 b k = T b k := by
  refine ⟨fun k k0 k1 => ?_, fun b k hb => (g.n hi hb k).trans (h.2 b k hb)⟩
  by_cases e : k = i
  · subst e
    rw [h.t hW, hj, Int.mul_comm] at hr
    exact hr
  · exact (h.1 k k0 (by omega)).2.fr g (xfl_d hW hi (by omega) e)
theorem TBS.ok {T M M2 : jm} {W y z i j : Int} (h : TBS T M W y z i) (hW : 16 ≤ W ∧ W ≤ 17) (hi : 0 ≤ i ∧ i < 24) (hj : j = i * 48) (g : fr7 M M2 (xe W.toNat i)) (hr : RRD M2 (xe W.toNat i) (M 1) j z) (hl : (i + 1) * 48 ≤ y) (hg : rGood (M 1) j) (ht : ∀ a : Int, 0 ≤ a → a < i → sdF M2 (xe W.toNat a) (xe W.toNat i) = -1) : TBS T M2 W y z (i + 1) := by
  have q := h.f hW hi hj g hr
  refine ⟨fun k k0 k1 => ⟨?_, q.1 k k0 k1⟩, q.2⟩
  by_cases e : k = i
  · subst e
    rw [h.t hW, hj, Int.mul_comm] at hg
    refine ⟨⟨by omega, hi.2⟩, hg, fun a a0 a1 u => ?_⟩
    exact (RRD.like (q.1 a a0 (by omega)) (q.1 k k0 k1)).2 u (ht a a0 a1)
  · exact (h.1 k k0 (by omega)).1
theorem TBS.no {T M M2 : jm} {W y z i j : Int} (h : TBS T M W y z i) (hW : 16 ≤ W ∧ W ≤ 17) (hi : 0 ≤ i ∧ i < 24) (hj : j = i * 48) (g : fr7 M M2 (xe W.toNat i)) (hr : RRD M2 (xe W.toNat i) (M 1) j z) (ht : ∃ a : Int, 0 ≤ a ∧ a < i ∧ sdF M2 (xe W.toNat a) (xe W.toNat i) ≠ -1) : ¬ okR (T 1) y i := by
  have q := h.f hW hi hj g hr
  obtain ⟨a, a0, a1, a2⟩ := ht
  exact fun u => u.2.2 a a0 a1 ((RRD.like (q.1 a a0 (by omega)) (q.1 i hi.1 (by omega))).1 a2)
theorem TBS.bad {T M : jm} {W y z i j : Int} (h : TBS T M W y z i) (hW : 16 ≤ W ∧ W ≤ 17) (hj : j = i * 48) (hg : ¬ rGood (M 1) j) : ¬ okR (T 1) y i := by
  rw [h.t hW, hj, Int.mul_comm] at hg
  exact fun u => hg u.2.1
def TBZ (T M : jm) (W y z w i : Int) : Prop := (∀ k : Int, 0 ≤ k → k < w → okR (T 1) y k ∧ RRD M (xe W.toNat k) (T 1) (48 * k) z) ∧ ∀ k : Int, w ≤ k → k < i → M (xe W.toNat k) 0 = 0
theorem TBZ.s {T M : jm} {W y z w i : Int} (h : TBZ T M W y z w i) (hW : 16 ≤ W ∧ W ≤ 17) (hi : 0 ≤ i ∧ i < 24) (hw : 0 ≤ w ∧ w ≤ i) : TBZ T (ju M (xe W.toNat i) 0 0) W y z w (i + 1) := by
  have g : fr7 M (ju M (xe W.toNat i) 0 0) (xe W.toNat i) := fr7.u (fun _ _ _ => rfl) (by omega)
  refine ⟨fun k k0 k1 => ⟨(h.1 k k0 k1).1, (h.1 k k0 k1).2.fr g (xfl_d hW hi (by omega) (by omega))⟩, fun k k0 k1 => ?_⟩
  by_cases e : k = i
  · subst e
    exact ju_same _ _ _ _
  · have d := xfl_d hW hi (k := k) (by omega) e
    rw [ju_c _ _ (by omega)]
    exact h.2 k k0 (by omega)
theorem RRD.o {T M : jm} {t : Nat} {f : Int → Int} {y Z : Int} (h : RRD T t f y Z) (ht : 15 < t) (g : ∀ (b : Nat) (k : Int), b ≠ 15 → M b k = T b k) : RRD M t f y Z := by
  unfold RRD RR0 rSA rS1 at h ⊢
  simp only [g t _ (by omega), g (t + 1) _ (by omega), g (t + 2) _ (by omega), g (t + 3) _ (by omega), g (t + 4) _ (by omega), g (t + 5) _ (by omega), g (t + 6) _ (by omega), g (t + 7) _ (by omega)]
  exact h
/-- what readTable leaves behind -/
def RTQ (T M : jm) (V W y z r : Int) : Prop := RTR (T 1) y r ∧ ((r < 0 ∧ ∀ (b : Nat) (k : Int), ¬ inF W b → M b k = T b k) ∨ ((0 ≤ r ∧ r ≤ 24) ∧ (M 15 0 = W ∧ M 15 1 = V) ∧ (∀ k : Int, 0 ≤ k → k < r → (0 ≤ k ∧ okR (T 1) y k) ∧ RRD M (xe W.toNat k) (T 1) (48 * k) z) ∧ ∀ k : Int, r ≤ k → k < 24 → M (xe W.toNat k) 0 = 0))
theorem TBZ.q {T M : jm} {V W y z w : Int} (h : TBZ T M W y z w 24) (hW : 16 ≤ W ∧ W ≤ 17) (hw : 0 ≤ w ∧ w ≤ 24) (hy : w = (y + 47) / 48) : RTQ T (ju (ju M 15 0 W) 15 1 V) V W y z w := by
  have g : ∀ (b : Nat) (k : Int), b ≠ 15 → ju (ju M 15 0 W) 15 1 V b k = M b k := fun b k hb => by rw [ju_c _ _ hb, ju_c _ _ hb]
  refine ⟨Or.inr ⟨fun k k0 k1 => (h.1 k k0 (by omega)).1, hy⟩, Or.inr ⟨hw, ⟨by rw [ju_i _ _ (by decide), ju_same], ju_same _ _ _ _⟩, fun k k0 k1 => ⟨⟨k0, (h.1 k k0 k1).1⟩, (h.1 k k0 k1).2.o (by have q := xfl (V := W) (i := k) hW (by omega); omega) g⟩, fun k k0 k1 => ?_⟩⟩
  rw [g _ _ (by have q := xfl (V := W) (i := k) hW (by omega); omega)]
  exact h.2 k k0 k1
theorem TBS.r {T M : jm} {V W y z i : Int} (h : TBS T M W y z i) (hi : 0 ≤ i) (hw : i < (y + 47) / 48) (hn : ¬ okR (T 1) y i) {M2 : jm} (g : ∀ (b : Nat) (k : Int), ¬ inF W b → M2 b k = T b k) : RTQ T M2 V W y z (-10 - i) := ⟨Or.inl ⟨i, ⟨hi, hw⟩, fun k k0 k1 => (h.1 k k0 k1).1, hn, rfl⟩, Or.inl ⟨by omega, g⟩⟩
def W_c_Flows_readTable_x : List (Nat × Nat) := [(1, 0), (1, 1), (1, 2), (1, 5), (1, 6), (1, 12), (1, 13), (1, 15), (2, 1000), (3, 1000), (4, 1000), (5, 1000), (6, 1000), (7, 1000), (8, 1000), (9, 0), (9, 1)]
theorem c_Flows_readTable_x_L96 {A : Nat → Option (Nat × (Nat → Int32))} {Q : Option Value → jm → Prop} {T : jm} {V : Int} {W_ : Int} {y : Int} {z : Int} (q : ∀ (r : Int) (M' : jm), CI M' → FR W_c_Flows_readTable_x T M' → (-50) ≤ r ∧ r ≤ 34 → (RTQ T M' V W_ y z r) → Q (some (.int (Int32.ofInt r))) M') : ∀ (nM : Nat) (M : jm) (w : Int) (i : Int), CI M → FR W_c_Flows_readTable_x T M → 0 ≤ w ∧ w ≤ 24 → 0 ≤ i ∧ i ≤ 24 → M 15 0 = V → M 15 1 = W_ → (TBZ T M W_ y z w i) → (w ≤ i) → (w = (y + 47) / 48) → 24 - i ≤ nM → jr A 3 xm_84 96 [(4, .int (Int32.ofInt (w))), (5, .int (Int32.ofInt (i))), (0, .ref (15)), (1, .ref (1))] [] M Q := by
  intro nM
  induction nM using Nat.strongRecOn with
  | ind nM ih =>
    intro M w i hC_M ht_M h_w h_i g_V g_W_ hy0 hy1 hy2 hm
    have b_V : 16 ≤ V ∧ V ≤ 17 := by rw [← g_V]; exact (CI.r hC_M (show kd 15 = 9 from rfl) (by decide) 0)
    have b_W_ : 16 ≤ W_ ∧ W_ ≤ 17 := by rw [← g_W_]; exact (CI.r hC_M (show kd 15 = 9 from rfl) (by decide) 1)
    refine jr.iload rfl rfl ?_
    refine jr.bipush rfl (by decide) ?_
    refine jr.icmp_ge rfl rfl (by omega) (by omega) (fun h100 => ?_) (fun h100 => ?_)
    · refine jr.aload_n rfl rfl ?_
      have k1 : kd (V).toNat = 13 := by rcases (show V = 16 ∨ V = 17 by omega) with h | h <;> (rw [h]; rfl)
      refine jr.getf (i := 0) (x := V) (v := .ref (V.toNat)) rfl rfl (by decide) rfl (by decide) rfl rfl g_V rfl ?_
      refine jr.astore rfl (by decide) rfl ?_
      refine jr.aload_n rfl rfl ?_
      refine jr.aload_n rfl rfl ?_
      have k2 : kd (W_).toNat = 13 := by rcases (show W_ = 16 ∨ W_ = 17 by omega) with h | h <;> (rw [h]; rfl)
      refine jr.getf (i := 1) (x := W_) (v := .ref (W_.toNat)) rfl rfl (by decide) rfl (by decide) rfl rfl g_W_ rfl ?_
      refine jr.putf (i := 0) (x := W_) rfl rfl (by decide) rfl (by decide) rfl rfl rfl rfl rfl ?_
      refine jr.aload_n rfl rfl ?_
      refine jr.aload rfl rfl ?_
      refine jr.putf (i := 1) (x := V) rfl rfl (by decide) rfl (by decide) rfl rfl rfl rfl rfl ?_
      refine jr.iload rfl rfl ?_
      exact jr.ireturn rfl rfl rfl (q _ _ (CI.u (CI.u hC_M (i := 0) (show kd 15 = 9 from rfl) (show (16 : Int) ≤ _ ∧ _ ≤ (17 : Int) from by omega) rfl) (i := 1) (show kd 15 = 9 from rfl) (show (16 : Int) ≤ _ ∧ _ ≤ (17 : Int) from by omega) rfl) (FR.o (FR.o ht_M (show kd 15 = 9 from rfl) rfl) (show kd 15 = 9 from rfl) rfl) (by omega) (by have h9 := hy0; rw [show i = 24 from by omega] at h9; exact TBZ.q h9 (by omega) (by omega) (by omega)))
    · refine jr.aload_n rfl rfl ?_
      have k3 : kd (W_).toNat = 13 := by rcases (show W_ = 16 ∨ W_ = 17 by omega) with h | h <;> (rw [h]; rfl)
      refine jr.getf (i := 1) (x := W_) (v := .ref (W_.toNat)) rfl rfl (by decide) rfl (by decide) rfl rfl g_W_ rfl ?_
      refine jr.iload rfl rfl ?_
      have k4 := kxe_13 k3 (i := i) (by omega) (by omega)
      refine jr.aald (c := (xe ((W_.toNat)) i)) rfl (Nat.lt_trans (kx_13 k3).1 (by decide)) (kx_13 k3).2 (by decide) (by decide) rfl (by decide) (by omega) (by omega) k4.1 ?_
      refine jr.iconst rfl ?_
      refine jr.putf (i := 0) (x := 0) rfl rfl (Nat.lt_trans (kx_1 k4.2).1 (by decide)) (kx_1 k4.2).2 (by decide) rfl rfl rfl rfl rfl ?_
      refine jr.iinc rfl rfl (by decide) rfl ?_
      refine jr.goto rfl rfl ?_
      refine jr.pick [1, 0, 2, 3] rfl rfl ?_
      exact ih (nM - 1) (by omega) ((ju M ((xe ((W_.toNat)) i)) 0 0)) w (i + 1) (CI.u hC_M (i := 0) k4.2 (show (0 : Int) ≤ _ ∧ _ ≤ (1 : Int) from by omega) rfl) (FR.o ht_M k4.2 rfl) (by omega) (by omega) ((ju_c _ _ (kd_ne (by rw [(show kd 15 = 9 from rfl), k4.2]; decide))).trans g_V) ((ju_i _ _ (by decide)).trans g_W_) (TBZ.s hy0 (by omega) (by omega) (by omega)) (by omega) (by omega) (by omega)
theorem c_Flows_readTable_x_L14 {A : Nat → Option (Nat × (Nat → Int32))} {Q : Option Value → jm → Prop} {T : jm} {V : Int} {W_ : Int} {y : Int} {z : Int} (q : ∀ (r : Int) (M' : jm), CI M' → FR W_c_Flows_readTable_x T M' → (-50) ≤ r ∧ r ≤ 34 → (RTQ T M' V W_ y z r) → Q (some (.int (Int32.ofInt r))) M') : ∀ (nM : Nat) (M : jm) (w : Int) (i : Int), CI M → FR W_c_Flows_readTable_x T M → 0 ≤ y ∧ y ≤ 1600 → 0 ≤ z ∧ z ≤ 2000000000 → 0 ≤ w ∧ w ≤ 34 → 0 ≤ i ∧ i ≤ 34 → M 15 0 = V → M 15 1 = W_ → (w = (y + 47) / 48) → (i ≤ w) → (TBS T M W_ y z i) → (V + W_ = 33) → 34 - i ≤ nM → jr A 3 xm_84 14 [(2, .int (Int32.ofInt (y))), (3, .int (Int32.ofInt (z))), (4, .int (Int32.ofInt (w))), (5, .int (Int32.ofInt (i))), (0, .ref (15)), (1, .ref (1))] [] M Q := by
  intro nM
  induction nM using Nat.strongRecOn with
  | ind nM ih =>
    intro M w i hC_M ht_M h_y h_z h_w h_i g_V g_W_ hy0 hy1 hy2 hy3 hm
    have b_V : 16 ≤ V ∧ V ≤ 17 := by rw [← g_V]; exact (CI.r hC_M (show kd 15 = 9 from rfl) (by decide) 0)
    have b_W_ : 16 ≤ W_ ∧ W_ ≤ 17 := by rw [← g_W_]; exact (CI.r hC_M (show kd 15 = 9 from rfl) (by decide) 1)
    have hi24 := TBS.le hy2
    refine jr.iload rfl rfl ?_
    refine jr.iload rfl rfl ?_
    refine jr.icmp_ge rfl rfl (by omega) (by omega) (fun h18 => ?_) (fun h18 => ?_)
    · refine jr.iload rfl rfl ?_
      refine jr.istore rfl (by decide) rfl ?_
      refine jr.pick [3, 0, 4, 5] rfl rfl ?_
      exact c_Flows_readTable_x_L96  q 24 M w w hC_M ht_M (by omega) (by omega) g_V g_W_ ⟨fun k k0 k1 => hy2.1 k k0 (by omega), fun k k0 k1 => absurd k1 (by omega)⟩ (by omega) (by omega) (by omega)
    · refine jr.iload rfl rfl ?_
      refine jr.iconst rfl ?_
      refine jr.iadd rfl ?_
      refine jr.bipush rfl (by decide) ?_
      refine jr.imul rfl ?_
      refine jr.iload_n rfl rfl ?_
      refine jr.icmp_gt rfl rfl (by omega) (by omega) (fun h29 => ?_) (fun h29 => ?_)
      · refine jr.iconst rfl ?_
        refine jr.istore rfl (by decide) rfl ?_
        refine jr.iload rfl rfl ?_
        refine jr.bipush rfl (by decide) ?_
        refine jr.icmp_ge rfl rfl (by omega) (by omega) (fun h43 => ?_) (fun h43 => ?_)
        · refine jr.bipush rfl (by decide) ?_
          refine jr.iload rfl rfl ?_
          refine jr.isub rfl ?_
          exact jr.ireturn rfl rfl rfl (q _ _ hC_M ht_M (by omega) (TBS.r hy2 (by omega) (by omega) (fun u => by have u1 := u.1; omega) hy2.2))
        · refine jr.iload rfl rfl ?_
          refine jr.if_eq rfl rfl (by omega) (fun _ => ?_) (fun h => absurd (by decide) h)
          refine jr.bipush rfl (by decide) ?_
          refine jr.iload rfl rfl ?_
          refine jr.isub rfl ?_
          exact jr.ireturn rfl rfl rfl (q _ _ hC_M ht_M (by omega) (TBS.r hy2 (by omega) (by omega) (fun u => by have u1 := u.1; omega) hy2.2))
      · refine jr.iconst rfl ?_
        refine jr.goto rfl rfl ?_
        refine jr.istore rfl (by decide) rfl ?_
        refine jr.iload rfl rfl ?_
        refine jr.bipush rfl (by decide) ?_
        refine jr.icmp_ge rfl rfl (by omega) (by omega) (fun h43 => ?_) (fun h43 => ?_)
        · refine jr.bipush rfl (by decide) ?_
          refine jr.iload rfl rfl ?_
          refine jr.isub rfl ?_
          exact jr.ireturn rfl rfl rfl (q _ _ hC_M ht_M (by omega) (TBS.r hy2 (by omega) (by omega) (fun u => by have u1 := u.1; omega) hy2.2))
        · refine jr.iload rfl rfl ?_
          refine jr.if_eq rfl rfl (by omega) (fun h => absurd h (by decide)) (fun _ => ?_)
          refine jr.aload_n rfl rfl ?_
          have k1 : kd (W_).toNat = 13 := by rcases (show W_ = 16 ∨ W_ = 17 by omega) with h | h <;> (rw [h]; rfl)
          refine jr.getf (i := 1) (x := W_) (v := .ref (W_.toNat)) rfl rfl (by decide) rfl (by decide) rfl rfl g_W_ rfl ?_
          refine jr.iload rfl rfl ?_
          have k2 := kxe_13 k1 (i := i) (by omega) (by omega)
          refine jr.aald (c := (xe ((W_.toNat)) i)) rfl (Nat.lt_trans (kx_13 k1).1 (by decide)) (kx_13 k1).2 (by decide) (by decide) rfl (by decide) (by omega) (by omega) k2.1 ?_
          refine jr.aload_n rfl rfl ?_
          refine jr.iload rfl rfl ?_
          refine jr.bipush rfl (by decide) ?_
          refine jr.imul rfl ?_
          refine jr.iload_n rfl rfl ?_
          refine jr_v rfl rfl (Or.inl rfl) rfl rfl (Nat.lt_trans (kx_1 k2.2).1 (by decide)) (kx_1 k2.2).2 ⟨rfl, Nat.le_of_ble_eq_true rfl, Nat.le_of_ble_eq_true rfl⟩ rfl (jc.deep (c_Flow_readRow_x hC_M (FR.rfl _ M) k2.2 (by omega) (by omega) rfl (fun r3 M3 hC_M3 hf_M3 z3 w3_0 => ?_)) (by decide))
          have ht_M3 : FR W_c_Flows_readTable_x T M3 := FR.t ht_M hf_M3 (kw_sub rfl)
          refine jr.if_eq rfl rfl (by omega) (fun h68 => ?_) (fun h68 => ?_)
          · refine jr.bipush rfl (by decide) ?_
            refine jr.iload rfl rfl ?_
            refine jr.isub rfl ?_
            exact jr.ireturn rfl rfl rfl (q _ _ hC_M3 ht_M3 (by omega) (TBS.r hy2 (by omega) (by omega) (TBS.bad hy2 (by omega) rfl ((w3_0.2.2.resolve_left (fun h => by omega)).2)) (TBS.f hy2 (by omega) (by omega) rfl w3_0.2.1 w3_0.1).2))
          · refine jr.aload_n rfl rfl ?_
            refine jr.iload rfl rfl ?_
            have e5 : M3 15 1 = W_ := (hf_M3.g (show kd 15 = 9 from rfl) rfl).trans g_W_
            refine jr_v rfl rfl (Or.inl rfl) rfl rfl (by decide) rfl ⟨rfl, Nat.le_of_ble_eq_true rfl, Nat.le_of_ble_eq_true rfl⟩ rfl (jc.deep (c_Flows_isTold_x hC_M3 (by omega) e5 (fun r4 z4 w4_0 => ?_)) (by decide))
            refine jr.if_eq rfl rfl (by omega) (fun h77 => ?_) (fun h77 => ?_)
            · refine jr.iinc rfl rfl (by decide) rfl ?_
              refine jr.goto rfl rfl ?_
              have e6 : M3 15 0 = V := (hf_M3.g (show kd 15 = 9 from rfl) rfl).trans g_V
              refine jr.pick [2, 3, 4, 0, 5, 6] rfl rfl ?_
              exact ih (nM - 1) (by omega) M3 w (i + 1) hC_M3 ht_M3 (by omega) (by omega) (by omega) (by omega) e6 e5 (by omega) (by omega) (TBS.ok hy2 (by omega) (by omega) rfl w3_0.2.1 w3_0.1 (by omega) ((w3_0.2.2.resolve_right (fun h => by omega)).2) ((w4_0.resolve_left (fun h => by omega)).2)) (by omega) (by omega)
            · refine jr.bipush rfl (by decide) ?_
              refine jr.iload rfl rfl ?_
              refine jr.isub rfl ?_
              exact jr.ireturn rfl rfl rfl (q _ _ hC_M3 ht_M3 (by omega) (TBS.r hy2 (by omega) (by omega) (TBS.no hy2 (by omega) (by omega) rfl w3_0.2.1 w3_0.1 ((w4_0.resolve_right (fun h => by omega)).2)) (TBS.f hy2 (by omega) (by omega) rfl w3_0.2.1 w3_0.1).2))
theorem c_Flows_readTable_x {A : Nat → Option (Nat × (Nat → Int32))} {Q : Option Value → jm → Prop} {T : jm} {M : jm} (hC_M : CI M) (ht_M : FR W_c_Flows_readTable_x T M) {y : Int} (h_y : 0 ≤ y ∧ y ≤ 1600) {z : Int} (h_z : 0 ≤ z ∧ z ≤ 2000000000) {V : Int} (g_V : M 15 0 = V) {W_ : Int} (g_W_ : M 15 1 = W_) (p0 : T = M) (p1 : V + W_ = 33) (q : ∀ (r : Int) (M' : jm), CI M' → FR W_c_Flows_readTable_x T M' → (-50) ≤ r ∧ r ≤ 34 → (RTQ T M' V W_ y z r) → Q (some (.int (Int32.ofInt r))) M') : jc A 4 84 [.ref (15), .ref (1), .int (Int32.ofInt (y)), .int (Int32.ofInt (z))] M Q := by
  refine jc_of (m := xm_84) rfl (Nat.le_of_ble_eq_true rfl) rfl ?_
  have b_V : 16 ≤ V ∧ V ≤ 17 := by rw [← g_V]; exact (CI.r hC_M (show kd 15 = 9 from rfl) (by decide) 0)
  have b_W_ : 16 ≤ W_ ∧ W_ ≤ 17 := by rw [← g_W_]; exact (CI.r hC_M (show kd 15 = 9 from rfl) (by decide) 1)
  refine jr.iload_n rfl rfl ?_
  refine jr.bipush rfl (by decide) ?_
  refine jr.iadd rfl ?_
  refine jr.iconst rfl ?_
  refine jr.isub rfl ?_
  refine jr.bipush rfl (by decide) ?_
  refine jr.idiv rfl (by decide) ?_
  have b1 : j_div ((y + 48) - 1) 48 = ((y + 48) - 1) / 48 := j_div_ex (by omega) (by omega)
  generalize j_div ((y + 48) - 1) 48 = v1 at b1 ⊢
  refine jr.istore rfl (by decide) rfl ?_
  refine jr.iconst rfl ?_
  refine jr.istore rfl (by decide) rfl ?_
  refine jr.pick [4, 5, 1, 0, 2, 3] rfl rfl ?_
  exact c_Flows_readTable_x_L14  q 34 M v1 0 hC_M ht_M (by omega) (by omega) (by omega) (by omega) g_V g_W_ (by omega) (by omega) ⟨fun k k0 k1 => absurd k1 (by omega), fun _ _ _ => by rw [p0]⟩ (by omega) (by omega)
def W_c_PacketWall_restore_x : List (Nat × Nat) := [(1, 0), (1, 1), (1, 2), (1, 5), (1, 6), (1, 12), (1, 13), (1, 15), (2, 1000), (3, 1000), (4, 1000), (5, 1000), (6, 1000), (7, 1000), (8, 1000), (9, 0), (9, 1), (35, 1)]
theorem c_PacketWall_restore_x {A : Nat → Option (Nat × (Nat → Int32))} {Q : Option Value → jm → Prop} {T : jm} {M : jm} (hC_M : CI M) (ht_M : FR W_c_PacketWall_restore_x T M) {S : Int} (g_S : M 0 1 = S) {Z : Int} (g_Z : M 0 8 = Z) {V : Int} (g_V : M 15 0 = V) {W_ : Int} (g_W_ : M 15 1 = W_) (p0 : T = M) (p1 : 0 ≤ Z ∧ Z ≤ 2000000000) (p2 : V + W_ = 33) (q : ∀ (r : Int) (M' : jm), CI M' → FR W_c_PacketWall_restore_x T M' → (-50) ≤ r ∧ r ≤ 34 → (RTQ (ju T 0 1 0) M' V W_ S Z r) → (M' 0 1 = 0) → Q (some (.int (Int32.ofInt r))) M') : jc A 5 38 [.ref (0)] M Q := by
  refine jc_of (m := xm_38) rfl (Nat.le_of_ble_eq_true rfl) rfl ?_
  have b_S : 0 ≤ S ∧ S ≤ 1600 := by rw [← g_S]; exact (CI.r hC_M (show kd 0 = 35 from rfl) (by decide) 1)
  have b_Z : (-2147483648) ≤ Z ∧ Z ≤ 2147483647 := by rw [← g_Z]; exact (CI.r hC_M (show kd 0 = 35 from rfl) (by decide) 8)
  have b_V : 16 ≤ V ∧ V ≤ 17 := by rw [← g_V]; exact (CI.r hC_M (show kd 15 = 9 from rfl) (by decide) 0)
  have b_W_ : 16 ≤ W_ ∧ W_ ≤ 17 := by rw [← g_W_]; exact (CI.r hC_M (show kd 15 = 9 from rfl) (by decide) 1)
  refine jr.aload_n rfl rfl ?_
  refine jr.getf (i := 1) (x := S) (v := .int (Int32.ofInt (S))) rfl rfl (by decide) rfl (by decide) rfl rfl g_S rfl ?_
  refine jr.istore_n rfl (by decide) rfl ?_
  refine jr.aload_n rfl rfl ?_
  refine jr.iconst rfl ?_
  refine jr.putf (i := 1) (x := 0) rfl rfl (by decide) rfl (by decide) rfl rfl rfl rfl rfl ?_
  refine jr.aload_n rfl rfl ?_
  refine jr.getf (i := 9) (v := .ref 15) rfl rfl (by decide) rfl (by decide) rfl rfl rfl rfl ?_
  refine jr.aload_n rfl rfl ?_
  refine jr.getf (i := 0) (v := .ref 1) rfl rfl (by decide) rfl (by decide) rfl rfl rfl rfl ?_
  refine jr.iload_n rfl rfl ?_
  refine jr.aload_n rfl rfl ?_
  refine jr.getf (i := 8) (x := Z) (v := .int (Int32.ofInt (Z))) rfl rfl (by decide) rfl (by decide) rfl rfl ((ju_i _ _ (by decide)).trans g_Z) rfl ?_
  refine jr_v rfl rfl (Or.inl rfl) rfl rfl (by decide) rfl ⟨rfl, Nat.le_of_ble_eq_true rfl, Nat.le_of_ble_eq_true rfl⟩ rfl (jc.deep (c_Flows_readTable_x (CI.u hC_M (i := 1) (show kd 0 = 35 from rfl) (show (0 : Int) ≤ _ ∧ _ ≤ (1600 : Int) from by omega) rfl) (FR.rfl _ ((ju M 0 1 0))) (by omega) (by omega) ((ju_c _ _ (by decide)).trans g_V) ((ju_c _ _ (by decide)).trans g_W_) rfl (by omega) (fun r1 M1 hC_M1 hf_M1 z1 w1_0 => ?_)) (by decide))
  have ht_M1 : FR W_c_PacketWall_restore_x T M1 := FR.t (FR.o ht_M (show kd 0 = 35 from rfl) rfl) hf_M1 (kw_sub rfl)
  have e2 : M1 0 1 = 0 := (hf_M1.g (show kd 0 = 35 from rfl) rfl).trans (ju_same _ _ _ _)
  exact jr.ireturn rfl rfl rfl (q _ _ hC_M1 ht_M1 (by omega) (by rw [p0]; exact w1_0) (by have hq0 : M1 0 1 = 0 := e2; omega))
