section
theorem r_repair_x {A : Nat → Option (Nat × (Nat → Int32))} {Q : Option Value → jm → Prop} {M : jm} (hI_M : RI M) (hH_M : RH M) (hS_M : RF M) {x : Int} (h_x : (-2147483648) ≤ x ∧ x ≤ 2147483647) (q : ∀ (r : Int) (M' : jm), RI M' → RH M' → RF M' → (-2) ≤ r ∧ r ≤ 20 → (((x < 0 ∨ 23 < x ∨ M 600 x = -1) ∧ r = -2 ∧ M' = M) ∨ (((0 ≤ x ∧ x ≤ 23) ∧ M 600 x ≠ -1) ∧ (∃ C : Int, HE (rf M x) (M 600 x) C ∧ r = rpN (rf M x) (M 600 x) C C.toNat (rf M x) ∧ rf M' x = rpF (rf M x) (M 600 x) C C.toNat (rf M x)) ∧ OX M M' x)) → (∀ (a : Nat) (i : Int), a ≠ 598 → a ≠ 601 → a ≠ 603 → a ≠ 604 → a ≠ 605 → M' a i = M a i) → (∀ (i : Int), i ≠ 6 → i ≠ 10 → i ≠ 11 → i ≠ 12 → M' 598 i = M 598 i) → Q (some (.int (Int32.ofInt r))) M') : jc A 5 285 [.ref (598), .int (Int32.ofInt (x))] M Q := by
  refine jc_of (m := xm_285) rfl (Nat.le_of_ble_eq_true rfl) rfl ?_
  refine jr.aload_n rfl rfl ?_
  refine jr.iload_n rfl rfl ?_
  refine jr_v rfl rfl (Or.inl rfl) rfl rfl (by decide) rfl ⟨rfl, Nat.le_of_ble_eq_true rfl, Nat.le_of_ble_eq_true rfl⟩ rfl (jc.deep (c_isThere hI_M (by omega) (fun l2 u2 t2 => ?_) (fun n2 => ?_)) (by decide))
  · refine jr.if_ne rfl rfl (by omega) (fun _ => ?_) (fun h => absurd (by decide) h)
    refine jr.aload_n rfl rfl ?_
    refine jr.iload_n rfl rfl ?_
    obtain ⟨v2, e2⟩ : ∃ z, M 600 x = z := ⟨_, rfl⟩
    have b2 : (-1) ≤ v2 ∧ v2 ≤ 400 := by rw [← e2]; exact (by have q := hI_M 600 x (by decide); rw [xri_row rfl rfl] at q; exact q)
    refine jr_v rfl rfl (Or.inl rfl) rfl rfl (by decide) rfl ⟨rfl, Nat.le_of_ble_eq_true rfl, Nat.le_of_ble_eq_true rfl⟩ rfl (jc.deep (r_look_x hI_M hH_M hS_M  (by omega) (by rw [e2]; omega) (fun M1 hI_M1 hH_M1 hS_M1  w1_0 w1_1 w1_2 w1_3 => ?_)) (by decide))
    refine jr.iconst rfl ?_
    refine jr.istore_n (ls' := [_, _, _]) rfl (by decide) rfl ?_
    refine jr.aload_n rfl rfl ?_
    obtain ⟨v3, e3⟩ : ∃ z, M1 598 6 = z := ⟨_, rfl⟩
    have b3 : 0 ≤ v3 ∧ v3 ≤ 12 := by rw [← e3]; exact hI_M1 598 6 (by decide)
    refine jr.getf (i := 6) (x := v3) (v := .int (Int32.ofInt (v3))) rfl rfl (by decide) rfl (by decide) rfl rfl e3 rfl ?_
    refine jr.iconst rfl ?_
    refine jr.isub rfl ?_
    refine jr.istore_n (ls' := [_, _, _, _]) rfl (by decide) rfl ?_
    refine jr.pick (ls := [_, _, _, _]) [0, 1, 3, 2] rfl rfl ?_
    exact r_repair_L25_x q 13 M1 (v3 - 1) 0 x hI_M1 hH_M1 hS_M1  (fun a i f598 f601 f603 f604 f605 => ((w1_2 a i f598 f603 f604 f605).trans rfl)) (fun i g6 g10 g11 g12 => ((w1_3 i g6 g10 g11 g12).trans rfl)) (by omega) (by omega) (by omega) (by omega) (HQ6.t w1_1 (by have hq := hI_M 600 x (by decide); rw [xri_row rfl rfl] at hq; omega) (fun i h0 h1 => rf_r hI_M x i)) (HQ6.e w1_1) (by rw [e3, show v3 - 1 + 1 = v3 from by omega, rf_e (M := M) (fun i => w1_2 601 i (by decide) (by decide) (by decide) (by decide))]) (by rw [e3, show v3 - 1 + 1 = v3 from by omega, rf_e (M := M) (fun i => w1_2 601 i (by decide) (by decide) (by decide) (by decide))]; omega) (fun j _ => w1_2 601 j (by decide) (by decide) (by decide) (by decide)) ⟨by omega, w1_2 600 x (by decide) (by decide) (by decide) (by decide), by omega⟩ (by omega) (by omega)
  · refine jr.if_ne rfl rfl (by omega) (fun h => absurd h (by decide)) (fun _ => ?_)
    refine jr.bipush rfl (by decide) ?_
    exact jr.ireturn rfl rfl rfl (q _ _ hI_M hH_M hS_M  (by omega) (Or.inl ⟨by omega, by omega, rfl⟩) (fun a i f598 f601 f603 f604 f605 => rfl) (fun i g6 g10 g11 g12 => rfl))
end
section
/-! ===== the class: gatherings ===== -/
theorem HS.fr {W : List (Nat × Nat)} {T M : jm} {t : Nat} {f : Int → Int} {N : Int} (h : HS T t f N) (k : kd t = 18) (hC : CI T) (g : FR W T M) (h1 : ksep W [(18, 3), (18, 4), (18, 5), (18, 6), (18, 7), (19, 1000), (20, 1000), (21, 1000), (33, 1), (34, 1000)] = true) : HS M t f N := by
  have k7 : kd (T t 7).toNat = 33 := CI.x hC k 7 rfl (by decide)
  have e7 : M t 7 = T t 7 := g.s h1 k 7 (by decide) 7 (Or.inr rfl)
  have e3 : M t 3 = T t 3 := g.s h1 k 3 (by decide) 3 (Or.inr rfl)
  have e4 : M t 4 = T t 4 := g.s h1 k 4 (by decide) 4 (Or.inr rfl)
  have e5 : M t 5 = T t 5 := g.s h1 k 5 (by decide) 5 (Or.inr rfl)
  have e6 : M t 6 = T t 6 := g.s h1 k 6 (by decide) 6 (Or.inr rfl)
  obtain ⟨hb, hn, h0, hq⟩ := h
  refine ⟨?_, ?_, h0, ?_⟩
  · rw [e7]
    intro i i0 i1
    rw [g.s h1 (kf_33_0 k7).2 1000 (by decide) i (Or.inl rfl)]
    exact hb i i0 i1
  · rw [e7, g.s h1 k7 1 (by decide) 1 (Or.inr rfl)]
    exact hn
  · unfold HQ at hq ⊢
    rw [e3, e4, e5, e6]
    refine ⟨hq.1, fun i i0 i1 => ?_, hq.2.2⟩
    rw [g.s h1 (kf_18_0 k).2 1000 (by decide) i (Or.inl rfl), g.s h1 (kf_18_1 k).2 1000 (by decide) i (Or.inl rfl), g.s h1 (kf_18_2 k).2 1000 (by decide) i (Or.inl rfl)]
    exact hq.2.1 i i0 i1
/-- a piece's name, in the gathering t -/
noncomputable def NMB (T M : jm) (t : Nat) (f : Int → Int) (N C y : Int) : Prop := (M t 1 = kA f N C y ∧ M t 2 = adf f N C (ntf f N C) 0 ∧ M t 3 = adf f N C (ntf f N C) 1 ∧ M t 4 = vA f N C y 3 ∧ M t 5 = vA f N C y (if kA f N C y = 2 then 7 else 0)) ∧ (∀ (b : Nat) (k : Int), b ≠ t → M b k = T b k) ∧ M t 0 = T t 0
noncomputable def nmq (M : jm) (a b : Nat) : Prop := M a 1 = M b 1 ∧ M a 2 = M b 2 ∧ M a 3 = M b 3 ∧ M a 4 = M b 4 ∧ M a 5 = M b 5
noncomputable def gS (M : jm) : Nat → Int → Int
  | 0, _ => -1
  | n + 1, i => if M (xe 10 i) 0 ≠ 0 ∧ (M (xe 10 i) 1 = M 11 1 ∧ M (xe 10 i) 2 = M 11 2 ∧ M (xe 10 i) 3 = M 11 3 ∧ M (xe 10 i) 4 = M 11 4 ∧ M (xe 10 i) 5 = M 11 5) then i else gS M n (i + 1)
noncomputable def gF (M : jm) : Nat → Int → Int
  | 0, _ => -1
  | n + 1, i => if M (xe 10 i) 0 = 0 then i else gF M n (i + 1)
theorem gS_s {M : jm} {i : Int} (h : i < 8) : gS M (8 - i).toNat i = if M (xe 10 i) 0 ≠ 0 ∧ (M (xe 10 i) 1 = M 11 1 ∧ M (xe 10 i) 2 = M 11 2 ∧ M (xe 10 i) 3 = M 11 3 ∧ M (xe 10 i) 4 = M 11 4 ∧ M (xe 10 i) 5 = M 11 5) then i else gS M (8 - (i + 1)).toNat (i + 1) := by
  obtain ⟨n, hn⟩ : ∃ n : Nat, i = 7 - n := ⟨(7 - i).toNat, by omega⟩
  subst hn
  rw [show (8 - (7 - (n : Int))).toNat = n + 1 by omega, show (8 - (7 - (n : Int) + 1)).toNat = n by omega]
  rfl
theorem gF_s {M : jm} {i : Int} (h : i < 8) : gF M (8 - i).toNat i = if M (xe 10 i) 0 = 0 then i else gF M (8 - (i + 1)).toNat (i + 1) := by
  obtain ⟨n, hn⟩ : ∃ n : Nat, i = 7 - n := ⟨(7 - i).toNat, by omega⟩
  subst hn
  rw [show (8 - (7 - (n : Int))).toNat = n + 1 by omega, show (8 - (7 - (n : Int) + 1)).toNat = n by omega]
  rfl
noncomputable def rfq (f : Int → Int) (N C x y : Int) : Prop := N - enf f N C x ≤ 0 ∨ (mrf f N C x = 1 ∧ (N - enf f N C x) % 8 ≠ 0) ∨ (mrf f N C x ≠ 1 ∧ y = 1 ∧ 360 < ofs f N C x + (N - enf f N C x))
noncomputable def W_c_Gathering_nameBy_x : List (Nat × Nat) := [(15, 1), (15, 2), (15, 3), (15, 4), (15, 5)]
end
