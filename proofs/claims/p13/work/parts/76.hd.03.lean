section
theorem HS2.o {T M : jm} {t : Nat} {f g g2 : Int → Int} {N S : Int} (h : HS2 T t f g N) (hk : kd t = 18) (hS : T t 7 = S) (k1 : kd S.toNat = 33) (o : OR1 T M (S.toNat + 1)) (hb : BY8 M (S.toNat + 1) g2) : HS2 M t f g2 N := by
  have hc := (kf_33_0 k1).2
  have n0 : t ≠ S.toNat + 1 := kd_ne (by rw [hk, hc]; decide)
  have e7 : M t 7 = S := by rw [o t 7 n0]; exact hS
  refine ⟨by rw [e7]; exact hb, ?_, h.2.2.1, h.2.2.2.1.o hk hc o, h.2.2.2.2⟩
  rw [e7, o S.toNat 1 (by omega), ← hS]
  exact h.2.1
/-- repair goes on: headers below i + 1 are left, o were changed -/
noncomputable def RPI (M : jm) (t : Nat) (f : Int → Int) (N C i o : Int) : Prop := ∃ g : Int → Int, HS2 M t f g N ∧ rpF f N C (i + 1).toNat g = rpF f N C C.toNat f ∧ o + rpN f N C (i + 1).toNat g = rpN f N C C.toNat f
theorem RPI.s {M M2 : jm} {t : Nat} {f g : Int → Int} {N C i o S r : Int} (h1 : HS2 M t f g N) (h2 : rpF f N C (i + 1).toNat g = rpF f N C C.toNat f) (h3 : o + rpN f N C (i + 1).toNat g = rpN f N C C.toNat f) (hi : 0 ≤ i) (hk : kd t = 18) (hS : M t 7 = S) (k1 : kd S.toNat = 33) (w : r = mdR f N C i g ∧ BY8 M2 (S.toNat + 1) (mdF f N C i g) ∧ OR1 M M2 (S.toNat + 1)) {i2 o2 : Int} (ei : i2 = i - 1) (eo : o2 = o + r) : RPI M2 t f N C i2 o2 := by
  subst ei
  refine ⟨mdF f N C i g, h1.o hk hS k1 w.2.2 w.2.1, ?_, ?_⟩
  · rw [show i - 1 + 1 = i by omega, ← (rp_s hi).1]; exact h2
  · rw [show i - 1 + 1 = i by omega, ← h3, (rp_s hi).2, eo, w.1]; omega
theorem RPI.e {M : jm} {t : Nat} {f : Int → Int} {N C i o S : Int} (h : RPI M t f N C i o) (hi : i < 0) (hS : M t 7 = S) : o = rpN f N C C.toNat f ∧ BY8 M (S.toNat + 1) (rpF f N C C.toNat f) := by
  obtain ⟨g, h1, h2, h3⟩ := h
  rw [(rp_0 hi).1] at h2
  rw [(rp_0 hi).2] at h3
  refine ⟨by omega, ?_⟩
  rw [← h2, ← hS]
  exact h1.1
/-- of the packets' rows only c may have changed -/
noncomputable def OP (T M : jm) (c : Nat) : Prop := ∀ (b : Nat) (k : Int), b ≠ c → kd b = 34 → M b k = T b k
theorem OP.f {W : List (Nat × Nat)} {T M : jm} (c : Nat) (h : FR W T M) (h1 : ksep W [(34, 1000)] = true) : OP T M c := fun b k _ hb => h.s h1 hb 1000 (by decide) k (Or.inl rfl)
theorem OP.t {T M M2 : jm} {c : Nat} (h : OP T M c) (h1 : OR1 M M2 c) : OP T M2 c := fun b k hb hk => (h1 b k hb).trans (h b k hb hk)
noncomputable def W_c_PacketWall_repair_x : List (Nat × Nat) := [(18, 3), (18, 4), (18, 5), (18, 6), (18, 7), (19, 1000), (20, 1000), (21, 1000), (34, 1000)]
theorem c_PacketWall_repair_x_L36 {A : Nat → Option (Nat × (Nat → Int32))} {Q : Option Value → jm → Prop} {f : Int → Int} {T : jm} {C : Int} {S : Int} {x : Int} (q : ∀ (r : Int) (M' : jm), CI M' → FR W_c_PacketWall_repair_x T M' → (-2147483648) ≤ r ∧ r ≤ 2147483647 → (((x < 0 ∨ 23 < x ∨ T (xe 2 x) 1 = -1) ∧ r = -2 ∧ OP T M' 0) ∨ (((0 ≤ x ∧ x ≤ 23) ∧ T (xe 2 x) 1 ≠ -1) ∧ OP T M' ((xe 2 x) + 1) ∧ ∃ C : Int, HE f (T (xe 2 x) 1) C ∧ r = rpN f (T (xe 2 x) 1) C C.toNat f ∧ BY8 M' ((xe 2 x) + 1) (rpF f (T (xe 2 x) 1) C C.toNat f))) → Q (some (.int (Int32.ofInt r))) M') : ∀ (nM : Nat) (M : jm) (o : Int) (i : Int), CI M → FR W_c_PacketWall_repair_x T M → 0 ≤ x ∧ x ≤ 23 → 0 ≤ o ∧ o ≤ 12 → (-1) ≤ i ∧ i ≤ 11 → M 3 3 = C → M 3 7 = S → (RPI M 3 f (T (xe 2 x) 1) C i o) → (S = (((xe 2 x) : Nat) : Int)) → (HE f (T (xe 2 x) 1) C) → (OP T M ((xe 2 x) + 1)) → (T (xe 2 x) 1 ≠ -1) → (i < C ∧ o + i ≤ 11) → i + 1 ≤ nM → jr A 5 xm_13 36 [(1, .int (Int32.ofInt (x))), (2, .int (Int32.ofInt (o))), (3, .int (Int32.ofInt (i))), (0, .ref (0))] [] M Q := by
  intro nM
  induction nM using Nat.strongRecOn with
  | ind nM ih =>
    intro M o i hC_M ht_M h_x h_o h_i g_C g_S hy0 hy1 hy2 hy3 hy4 hy5 hm
    have b_C : 0 ≤ C ∧ C ≤ 12 := by rw [← g_C]; exact (CI.r hC_M (show kd 3 = 18 from rfl) (by decide) 3)
    have k_S : kd S.toNat = 33 := (congrArg (fun z : Int => kd z.toNat) g_S).symm.trans (CI.x hC_M (show kd 3 = 18 from rfl) 7 rfl (by decide))
    obtain ⟨g0, hg1, hg2, hg3⟩ := id hy0
    refine jr.iload_n rfl rfl ?_
    refine jr.if_lt rfl rfl (by omega) (fun h37 => ?_) (fun h37 => ?_)
    · refine jr.iload_n rfl rfl ?_
      exact jr.ireturn rfl rfl rfl (q _ _ hC_M ht_M (by omega) (Or.inr ⟨⟨by omega, hy4⟩, hy3, C, hy2, (by have hq := RPI.e hy0 (by omega) g_S; rw [show S.toNat = (xe 2 x) from by omega] at hq; exact hq)⟩))
    · refine jr.aload_n rfl rfl ?_
      refine jr.getf (i := 3) (v := .ref 3) rfl rfl (by decide) rfl (by decide) rfl rfl rfl rfl ?_
      refine jr.iload_n rfl rfl ?_
      have k1_S : kd (S).toNat = 33 := (congrArg (fun z : Int => kd z.toNat) g_S).symm.trans (CI.x hC_M (show kd 3 = 18 from rfl) 7 rfl (by decide))
      refine jr_v rfl rfl (Or.inl rfl) rfl rfl (by decide) rfl ⟨rfl, Nat.le_of_ble_eq_true rfl, Nat.le_of_ble_eq_true rfl⟩ rfl (jc.deep (c_Headers_mend_x hC_M (FR.rfl _ M) (show kd 3 = 18 from rfl) (by omega) g_C g_S rfl hg1 (fun r1 M1 hC_M1 hf_M1 z1 w1_0 => ?_)) (by decide))
      have ht_M1 : FR W_c_PacketWall_repair_x T M1 := FR.t ht_M hf_M1 (kw_sub rfl)
      refine jr.if_eq rfl rfl (by omega) (fun h48 => ?_) (fun h48 => ?_)
      · refine jr.iinc (ls' := [_, _, _, _]) rfl rfl (by decide) rfl ?_
        refine jr.goto rfl rfl ?_
        have e2 : M1 3 3 = C := (hf_M1.g (show kd 3 = 18 from rfl) rfl).trans g_C
        have e3 : M1 3 7 = S := (hf_M1.g (show kd 3 = 18 from rfl) rfl).trans g_S
        refine jr.pick (ls := [_, _, _, _]) [1, 2, 0, 3] rfl rfl ?_
        exact ih (nM - 1) (by omega) M1 o (i + (-1)) hC_M1 ht_M1 (by omega) (by omega) (by omega) e2 e3 (RPI.s hg1 hg2 hg3 (by omega) (show kd 3 = 18 from rfl) g_S k_S w1_0 (by omega) (by omega)) hy1 hy2 (hy3.t (by have hq := w1_0.2.2; rw [show S.toNat = (xe 2 x) from by omega] at hq; exact hq)) hy4 (by omega) (by omega)
      · have sx48 : (1 : Int) ≤ r1 := by omega
        clear h48
        refine jr.iinc (ls' := [_, _, _, _]) rfl rfl (by decide) rfl ?_
        refine jr.iinc (ls' := [_, _, _, _]) rfl rfl (by decide) rfl ?_
        refine jr.goto rfl rfl ?_
        have e4 : M1 3 3 = C := (hf_M1.g (show kd 3 = 18 from rfl) rfl).trans g_C
        have e5 : M1 3 7 = S := (hf_M1.g (show kd 3 = 18 from rfl) rfl).trans g_S
        refine jr.pick (ls := [_, _, _, _]) [2, 1, 0, 3] rfl rfl ?_
        exact ih (nM - 1) (by omega) M1 (o + 1) (i + (-1)) hC_M1 ht_M1 (by omega) (by omega) (by omega) e4 e5 (RPI.s hg1 hg2 hg3 (by omega) (show kd 3 = 18 from rfl) g_S k_S w1_0 (by omega) (by omega)) hy1 hy2 (hy3.t (by have hq := w1_0.2.2; rw [show S.toNat = (xe 2 x) from by omega] at hq; exact hq)) hy4 (by omega) (by omega)
end
