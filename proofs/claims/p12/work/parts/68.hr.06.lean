theorem r_measure_x {A : Nat → Option (Nat × (Nat → Int32))} {Q : Option Value → jm → Prop} {M : jm} (hI_M : RI M) (hH_M : RH M) (hS_M : RF M) {x : Int} (h_x : 0 ≤ x ∧ x ≤ 23) {k : Int} (h_k : 0 ≤ k ∧ k ≤ 10) {a : Int} (h_a : 0 ≤ a ∧ a ≤ 400) (p0 : M 600 x ≠ -1) (q : ∀ (r : Int) (M' : jm), RI M' → RH M' → RF M' → (-1) ≤ r ∧ r ≤ 400 → ((r = -1 ∨ (lst k ≤ r ∧ a + r ≤ M 600 x)) ∧ MS6 M M' (rf M x) (M 600 x) k a r) → (k = 2 → (r = -1 ∨ r = 4 * (M 601 (400 * x + a) % 16))) → (∀ (a : Nat) (i : Int), a ≠ 598 → M' a i = M a i) → (∀ (i : Int), i ≠ 10 → i ≠ 11 → i ≠ 12 → M' 598 i = M 598 i) → Q (some (.int (Int32.ofInt r))) M') : jc A 3 262 [.ref (598), .int (Int32.ofInt (x)), .int (Int32.ofInt (k)), .int (Int32.ofInt (a))] M Q := by
  rcases (show k = 0 ∨ k = 1 ∨ k = 2 ∨ k = 3 ∨ k = 4 ∨ k = 5 ∨ k = 6 ∨ k = 7 ∨ k = 8 ∨ k = 9 ∨ k = 10 by omega) with rfl | rfl | rfl | rfl | rfl | rfl | rfl | rfl | rfl | rfl | rfl
  · have lk : lst 0 = 4 := rfl
    have lh : hls 0 = 4 := rfl
    have lr : lsr 0 = 4 := rfl
    refine jc_of (m := xm_262) rfl (Nat.le_of_ble_eq_true rfl) rfl ?_
    refine jr.aload_n rfl rfl ?_
    refine jr.getf (i := 3) (v := .ref 600) rfl rfl (by decide) rfl (by decide) rfl rfl rfl rfl ?_
    refine jr.iload_n rfl rfl ?_
    obtain ⟨v1, e1⟩ : ∃ z, M 600 x = z := ⟨_, rfl⟩
    have b1 : (-1) ≤ v1 ∧ v1 ≤ 400 := by rw [← e1]; exact (by have q := hI_M 600 x (by decide); rw [xri_row rfl rfl] at q; exact q)
    refine jr.iald (i := x) (x := v1) rfl (by decide) rfl (by decide) (by omega) (by omega) e1 ?_
    refine jr.istore (ls' := [_, _, _, _, _]) rfl (by decide) rfl ?_
    refine jr.iload_n rfl rfl ?_
    refine jr.iload rfl rfl ?_
    refine jr.icmp_lt rfl rfl (by omega) (by omega) (fun h11 => ?_) (fun h11 => ?_)
    · refine jr.iload_n rfl rfl ?_
      refine jr.iconst rfl ?_
      refine jr.icmp_ne rfl rfl (by omega) (by omega) (fun _ => ?_) (fun h => absurd (by decide) h)
      refine jr.iload_n rfl rfl ?_
      refine jr.iconst rfl ?_
      refine jr.icmp_ne rfl rfl (by omega) (by omega) (fun _ => ?_) (fun h => absurd (by decide) h)
      refine jr.iload_n rfl rfl ?_
      refine jr_s rfl rfl (Or.inl rfl) ⟨Nat.le_of_ble_eq_true rfl, Nat.le_of_ble_eq_true rfl⟩ rfl rfl (jc.deep (r_least_x hI_M hH_M hS_M  (by omega)  (fun r2 z2 w2_0 => ?_)) (by decide))
      refine jr.istore (ls' := [_, _, _, _, _, _]) rfl (by decide) rfl ?_
      refine jr.iload_n rfl rfl ?_
      refine jr.iconst rfl ?_
      refine jr.icmp_eq rfl rfl (by omega) (by omega) (fun h => absurd h (by decide)) (fun _ => ?_)
      refine jr.iload_n rfl rfl ?_
      refine jr.iconst rfl ?_
      refine jr.icmp_ne rfl rfl (by omega) (by omega) (fun _ => ?_) (fun h => absurd (by decide) h)
      refine jr.iload_n rfl rfl ?_
      refine jr.iload rfl rfl ?_
      refine jr.iadd rfl ?_
      refine jr.iload rfl rfl ?_
      refine jr.icmp_le rfl rfl (by omega) (by omega) (fun h114 => ?_) (fun h114 => ?_)
      · refine jr.iload_n rfl rfl ?_
        refine jr.iconst rfl ?_
        refine jr.icmp_eq rfl rfl (by omega) (by omega) (fun h => absurd h (by decide)) (fun _ => ?_)
        refine jr.iload_n rfl rfl ?_
        refine jr.bipush rfl (by decide) ?_
        refine jr.icmp_ne rfl rfl (by omega) (by omega) (fun _ => ?_) (fun h => absurd (by decide) h)
        refine jr.iload_n rfl rfl ?_
        refine jr.iconst rfl ?_
        refine jr.icmp_eq rfl rfl (by omega) (by omega) (fun h => absurd h (by decide)) (fun _ => ?_)
        refine jr.iload_n rfl rfl ?_
        refine jr.iconst rfl ?_
        refine jr.icmp_ne rfl rfl (by omega) (by omega) (fun _ => ?_) (fun h => absurd (by decide) h)
        refine jr.iload_n rfl rfl ?_
        refine jr.bipush rfl (by decide) ?_
        refine jr.icmp_ne rfl rfl (by omega) (by omega) (fun _ => ?_) (fun h => absurd (by decide) h)
        refine jr.iconst rfl ?_
        refine jr.istore (ls' := [_, _, _, _, _, _, _]) rfl (by decide) rfl ?_
        refine jr.iload_n rfl rfl ?_
        refine jr.iconst rfl ?_
        refine jr.icmp_ne rfl rfl (by omega) (by omega) (fun _ => ?_) (fun h => absurd (by decide) h)
        refine jr.iload rfl rfl ?_
        refine jr.iload_n rfl rfl ?_
        refine jr.isub rfl ?_
        refine jr.istore (ls' := [_, _, _, _, _, _, _, _]) rfl (by decide) rfl ?_
        refine jr.iload rfl rfl ?_
        refine jr.iconst rfl ?_
        refine jr.icmp_eq rfl rfl (by omega) (by omega) (fun _ => ?_) (fun h => absurd (by decide) h)
        refine jr.iload rfl rfl ?_
        exact jr.ireturn rfl rfl rfl (q _ _ hI_M hH_M hS_M  (by omega) ⟨by omega, by have hn := e1; have hzK : hsZ (rf M x) (M 600 x) 0 a = 4 := rfl; have e1 : hsF (rf M x) (M 600 x) 0 3 0 a = 0 := (by rw [msF, if_neg (by omega), if_neg (by omega), if_neg (by omega), if_neg (by omega), if_neg (by omega), if_neg (by omega)]); exact Or.inr ⟨e1, by omega, by omega, rfl, rfl, rfl⟩⟩ (by omega) (fun a i f598 => rfl) (fun i g10 g11 g12 => rfl))
      · refine jr.aload_n rfl rfl ?_
        refine jr.iconst rfl ?_
        refine jr.iload rfl rfl ?_
        refine jr.iload_n rfl rfl ?_
        refine jr_v rfl rfl (Or.inl rfl) rfl rfl (by decide) rfl ⟨rfl, Nat.le_of_ble_eq_true rfl, Nat.le_of_ble_eq_true rfl⟩ rfl (jc.deep (r_finds_x hI_M hH_M hS_M  (by omega) (by omega) (by omega)  (fun M3 hI_M3 hH_M3 hS_M3  w3_0 w3_1 w3_2 => ?_)) (by decide))
        refine jr.iconst rfl ?_
        exact jr.ireturn rfl rfl rfl (q _ _ hI_M3 hH_M3 hS_M3  (by omega) ⟨by omega, by have hn := e1; have hzK : hsZ (rf M x) (M 600 x) 0 a = 4 := rfl; have e1 : hsF (rf M x) (M 600 x) 0 3 0 a = 1 := (by rw [msF, if_neg (by omega), if_neg (by omega), if_pos (by omega)]); have e2 : hsW (rf M x) (M 600 x) 0 3 0 a = M 600 x := (by rw [msW, if_neg (by omega), if_neg (by omega), if_pos (by omega)]); exact Or.inl ⟨by omega, by omega, by omega, by omega, by omega⟩⟩ (by omega) (fun a i f598 => ((w3_1 a i f598).trans rfl)) (fun i g10 g11 g12 => ((w3_2 i g10 g11 g12).trans rfl)))
    · refine jr.aload_n rfl rfl ?_
      refine jr.iconst rfl ?_
      refine jr.iload rfl rfl ?_
      refine jr.iload_n rfl rfl ?_
      refine jr_v rfl rfl (Or.inl rfl) rfl rfl (by decide) rfl ⟨rfl, Nat.le_of_ble_eq_true rfl, Nat.le_of_ble_eq_true rfl⟩ rfl (jc.deep (r_finds_x hI_M hH_M hS_M  (by omega) (by omega) (by omega)  (fun M4 hI_M4 hH_M4 hS_M4  w4_0 w4_1 w4_2 => ?_)) (by decide))
      refine jr.iconst rfl ?_
      exact jr.ireturn rfl rfl rfl (q _ _ hI_M4 hH_M4 hS_M4  (by omega) ⟨by omega, by have hn := e1; have e1 : hsF (rf M x) (M 600 x) 0 3 0 a = 1 := (by rw [msF, if_neg (by omega), if_neg (by omega), if_pos (by omega)]); have e2 : hsW (rf M x) (M 600 x) 0 3 0 a = M 600 x := (by rw [msW, if_neg (by omega), if_neg (by omega), if_pos (by omega)]); exact Or.inl ⟨by omega, by omega, by omega, by omega, by omega⟩⟩ (by omega) (fun a i f598 => ((w4_1 a i f598).trans rfl)) (fun i g10 g11 g12 => ((w4_2 i g10 g11 g12).trans rfl)))
  · have lk : lst 1 = 4 := rfl
    have lh : hls 1 = 4 := rfl
    have lr : lsr 1 = 4 := rfl
    refine jc_of (m := xm_262) rfl (Nat.le_of_ble_eq_true rfl) rfl ?_
    refine jr.aload_n rfl rfl ?_
    refine jr.getf (i := 3) (v := .ref 600) rfl rfl (by decide) rfl (by decide) rfl rfl rfl rfl ?_
    refine jr.iload_n rfl rfl ?_
    obtain ⟨v1, e1⟩ : ∃ z, M 600 x = z := ⟨_, rfl⟩
    have b1 : (-1) ≤ v1 ∧ v1 ≤ 400 := by rw [← e1]; exact (by have q := hI_M 600 x (by decide); rw [xri_row rfl rfl] at q; exact q)
    refine jr.iald (i := x) (x := v1) rfl (by decide) rfl (by decide) (by omega) (by omega) e1 ?_
    refine jr.istore (ls' := [_, _, _, _, _]) rfl (by decide) rfl ?_
    refine jr.iload_n rfl rfl ?_
    refine jr.iload rfl rfl ?_
    refine jr.icmp_lt rfl rfl (by omega) (by omega) (fun h11 => ?_) (fun h11 => ?_)
    · refine jr.iload_n rfl rfl ?_
      refine jr.iconst rfl ?_
      refine jr.icmp_ne rfl rfl (by omega) (by omega) (fun _ => ?_) (fun h => absurd (by decide) h)
      refine jr.iload_n rfl rfl ?_
      refine jr.iconst rfl ?_
      refine jr.icmp_ne rfl rfl (by omega) (by omega) (fun _ => ?_) (fun h => absurd (by decide) h)
      refine jr.iload_n rfl rfl ?_
      refine jr_s rfl rfl (Or.inl rfl) ⟨Nat.le_of_ble_eq_true rfl, Nat.le_of_ble_eq_true rfl⟩ rfl rfl (jc.deep (r_least_x hI_M hH_M hS_M  (by omega)  (fun r2 z2 w2_0 => ?_)) (by decide))
      refine jr.istore (ls' := [_, _, _, _, _, _]) rfl (by decide) rfl ?_
      refine jr.iload_n rfl rfl ?_
      refine jr.iconst rfl ?_
      refine jr.icmp_eq rfl rfl (by omega) (by omega) (fun h => absurd h (by decide)) (fun _ => ?_)
      refine jr.iload_n rfl rfl ?_
      refine jr.iconst rfl ?_
      refine jr.icmp_ne rfl rfl (by omega) (by omega) (fun _ => ?_) (fun h => absurd (by decide) h)
      refine jr.iload_n rfl rfl ?_
      refine jr.iload rfl rfl ?_
      refine jr.iadd rfl ?_
      refine jr.iload rfl rfl ?_
      refine jr.icmp_le rfl rfl (by omega) (by omega) (fun h114 => ?_) (fun h114 => ?_)
      · refine jr.iload_n rfl rfl ?_
        refine jr.iconst rfl ?_
        refine jr.icmp_eq rfl rfl (by omega) (by omega) (fun h => absurd h (by decide)) (fun _ => ?_)
        refine jr.iload_n rfl rfl ?_
        refine jr.bipush rfl (by decide) ?_
        refine jr.icmp_ne rfl rfl (by omega) (by omega) (fun _ => ?_) (fun h => absurd (by decide) h)
        refine jr.iload_n rfl rfl ?_
        refine jr.iconst rfl ?_
        refine jr.icmp_eq rfl rfl (by omega) (by omega) (fun h => absurd h (by decide)) (fun _ => ?_)
        refine jr.iload_n rfl rfl ?_
        refine jr.iconst rfl ?_
        refine jr.icmp_ne rfl rfl (by omega) (by omega) (fun _ => ?_) (fun h => absurd (by decide) h)
        refine jr.iload_n rfl rfl ?_
        refine jr.bipush rfl (by decide) ?_
        refine jr.icmp_ne rfl rfl (by omega) (by omega) (fun _ => ?_) (fun h => absurd (by decide) h)
        refine jr.iconst rfl ?_
        refine jr.istore (ls' := [_, _, _, _, _, _, _]) rfl (by decide) rfl ?_
        refine jr.iload_n rfl rfl ?_
        refine jr.iconst rfl ?_
        refine jr.icmp_ne rfl rfl (by omega) (by omega) (fun _ => ?_) (fun h => absurd (by decide) h)
        refine jr.iload rfl rfl ?_
        refine jr.iload_n rfl rfl ?_
        refine jr.isub rfl ?_
        refine jr.istore (ls' := [_, _, _, _, _, _, _, _]) rfl (by decide) rfl ?_
        refine jr.iload rfl rfl ?_
        refine jr.iconst rfl ?_
        refine jr.icmp_eq rfl rfl (by omega) (by omega) (fun _ => ?_) (fun h => absurd (by decide) h)
        refine jr.iload rfl rfl ?_
        exact jr.ireturn rfl rfl rfl (q _ _ hI_M hH_M hS_M  (by omega) ⟨by omega, by have hn := e1; have hzK : hsZ (rf M x) (M 600 x) 1 a = 4 := rfl; have e1 : hsF (rf M x) (M 600 x) 0 3 1 a = 0 := (by rw [msF, if_neg (by omega), if_neg (by omega), if_neg (by omega), if_neg (by omega), if_neg (by omega), if_neg (by omega)]); exact Or.inr ⟨e1, by omega, by omega, rfl, rfl, rfl⟩⟩ (by omega) (fun a i f598 => rfl) (fun i g10 g11 g12 => rfl))
      · refine jr.aload_n rfl rfl ?_
        refine jr.iconst rfl ?_
        refine jr.iload rfl rfl ?_
        refine jr.iload_n rfl rfl ?_
        refine jr_v rfl rfl (Or.inl rfl) rfl rfl (by decide) rfl ⟨rfl, Nat.le_of_ble_eq_true rfl, Nat.le_of_ble_eq_true rfl⟩ rfl (jc.deep (r_finds_x hI_M hH_M hS_M  (by omega) (by omega) (by omega)  (fun M3 hI_M3 hH_M3 hS_M3  w3_0 w3_1 w3_2 => ?_)) (by decide))
        refine jr.iconst rfl ?_
        exact jr.ireturn rfl rfl rfl (q _ _ hI_M3 hH_M3 hS_M3  (by omega) ⟨by omega, by have hn := e1; have hzK : hsZ (rf M x) (M 600 x) 1 a = 4 := rfl; have e1 : hsF (rf M x) (M 600 x) 0 3 1 a = 1 := (by rw [msF, if_neg (by omega), if_neg (by omega), if_pos (by omega)]); have e2 : hsW (rf M x) (M 600 x) 0 3 1 a = M 600 x := (by rw [msW, if_neg (by omega), if_neg (by omega), if_pos (by omega)]); exact Or.inl ⟨by omega, by omega, by omega, by omega, by omega⟩⟩ (by omega) (fun a i f598 => ((w3_1 a i f598).trans rfl)) (fun i g10 g11 g12 => ((w3_2 i g10 g11 g12).trans rfl)))
    · refine jr.aload_n rfl rfl ?_
      refine jr.iconst rfl ?_
      refine jr.iload rfl rfl ?_
      refine jr.iload_n rfl rfl ?_
      refine jr_v rfl rfl (Or.inl rfl) rfl rfl (by decide) rfl ⟨rfl, Nat.le_of_ble_eq_true rfl, Nat.le_of_ble_eq_true rfl⟩ rfl (jc.deep (r_finds_x hI_M hH_M hS_M  (by omega) (by omega) (by omega)  (fun M4 hI_M4 hH_M4 hS_M4  w4_0 w4_1 w4_2 => ?_)) (by decide))
      refine jr.iconst rfl ?_
      exact jr.ireturn rfl rfl rfl (q _ _ hI_M4 hH_M4 hS_M4  (by omega) ⟨by omega, by have hn := e1; have e1 : hsF (rf M x) (M 600 x) 0 3 1 a = 1 := (by rw [msF, if_neg (by omega), if_neg (by omega), if_pos (by omega)]); have e2 : hsW (rf M x) (M 600 x) 0 3 1 a = M 600 x := (by rw [msW, if_neg (by omega), if_neg (by omega), if_pos (by omega)]); exact Or.inl ⟨by omega, by omega, by omega, by omega, by omega⟩⟩ (by omega) (fun a i f598 => ((w4_1 a i f598).trans rfl)) (fun i g10 g11 g12 => ((w4_2 i g10 g11 g12).trans rfl)))
  · have lk : lst 2 = 20 := rfl
    have lh : hls 2 = 20 := rfl
    have lr : lsr 2 = 20 := rfl
    refine jc_of (m := xm_262) rfl (Nat.le_of_ble_eq_true rfl) rfl ?_
    refine jr.aload_n rfl rfl ?_
    refine jr.getf (i := 3) (v := .ref 600) rfl rfl (by decide) rfl (by decide) rfl rfl rfl rfl ?_
    refine jr.iload_n rfl rfl ?_
    obtain ⟨v1, e1⟩ : ∃ z, M 600 x = z := ⟨_, rfl⟩
    have b1 : (-1) ≤ v1 ∧ v1 ≤ 400 := by rw [← e1]; exact (by have q := hI_M 600 x (by decide); rw [xri_row rfl rfl] at q; exact q)
    refine jr.iald (i := x) (x := v1) rfl (by decide) rfl (by decide) (by omega) (by omega) e1 ?_
    refine jr.istore (ls' := [_, _, _, _, _]) rfl (by decide) rfl ?_
    refine jr.iload_n rfl rfl ?_
    refine jr.iload rfl rfl ?_
    refine jr.icmp_lt rfl rfl (by omega) (by omega) (fun h11 => ?_) (fun h11 => ?_)
    · refine jr.iload_n rfl rfl ?_
      refine jr.iconst rfl ?_
      refine jr.icmp_ne rfl rfl (by omega) (by omega) (fun h => absurd h (by decide)) (fun _ => ?_)
      refine jr.aload_n rfl rfl ?_
      refine jr.iload_n rfl rfl ?_
      refine jr.iload_n rfl rfl ?_
      refine jr_v rfl rfl (Or.inl rfl) rfl rfl (by decide) rfl ⟨rfl, Nat.le_of_ble_eq_true rfl, Nat.le_of_ble_eq_true rfl⟩ rfl (jc.deep (r_one hI_M hH_M hS_M (Kp.rfl _) (by omega) (by omega)  (fun r2 z2 w2_0 => ?_)) (by decide))
      refine jr.iconst rfl ?_
      refine jr.ishr rfl ?_
      have b3 : j_shr r2 4 = r2 / 16 := j_shr_ex 4 (by decide) (by omega) (by omega)
      generalize j_shr r2 4 = v3 at b3 ⊢
      refine jr.iconst rfl ?_
      refine jr.icmp_ne rfl rfl (by omega) (by omega) (fun h38 => ?_) (fun h38 => ?_)
      · refine jr.aload_n rfl rfl ?_
        refine jr.iconst rfl ?_
        refine jr.iload_n rfl rfl ?_
        refine jr.iload_n rfl rfl ?_
        refine jr_v rfl rfl (Or.inl rfl) rfl rfl (by decide) rfl ⟨rfl, Nat.le_of_ble_eq_true rfl, Nat.le_of_ble_eq_true rfl⟩ rfl (jc.deep (r_finds_x hI_M hH_M hS_M  (by omega) (by omega) (by omega)  (fun M4 hI_M4 hH_M4 hS_M4  w4_0 w4_1 w4_2 => ?_)) (by decide))
        refine jr.iconst rfl ?_
        exact jr.ireturn rfl rfl rfl (q _ _ hI_M4 hH_M4 hS_M4  (by omega) ⟨by omega, by have hn := e1; have hbA : hb (rf M x) (M 600 x) (a) = M 601 (400 * x + (a)) := hb_i (by omega) (by omega); have e1 : hsF (rf M x) (M 600 x) 0 3 2 a = 3 := (by rw [msF, if_neg (by omega), if_pos (by omega)]); have e2 : hsW (rf M x) (M 600 x) 0 3 2 a = a := (by rw [msW, if_neg (by omega), if_pos (by omega)]); exact Or.inl ⟨by omega, by omega, by omega, by omega, by omega⟩⟩ (by omega) (fun a i f598 => ((w4_1 a i f598).trans rfl)) (fun i g10 g11 g12 => ((w4_2 i g10 g11 g12).trans rfl)))
      · refine jr.iload_n rfl rfl ?_
        refine jr.iconst rfl ?_
        refine jr.icmp_ne rfl rfl (by omega) (by omega) (fun _ => ?_) (fun h => absurd (by decide) h)
        refine jr.iload_n rfl rfl ?_
        refine jr_s rfl rfl (Or.inl rfl) ⟨Nat.le_of_ble_eq_true rfl, Nat.le_of_ble_eq_true rfl⟩ rfl rfl (jc.deep (r_least_x hI_M hH_M hS_M  (by omega)  (fun r5 z5 w5_0 => ?_)) (by decide))
        refine jr.istore (ls' := [_, _, _, _, _, _]) rfl (by decide) rfl ?_
        refine jr.iload_n rfl rfl ?_
        refine jr.iconst rfl ?_
        refine jr.icmp_eq rfl rfl (by omega) (by omega) (fun h => absurd h (by decide)) (fun _ => ?_)
        refine jr.iload_n rfl rfl ?_
        refine jr.iconst rfl ?_
        refine jr.icmp_ne rfl rfl (by omega) (by omega) (fun _ => ?_) (fun h => absurd (by decide) h)
        refine jr.iload_n rfl rfl ?_
        refine jr.iload rfl rfl ?_
        refine jr.iadd rfl ?_
        refine jr.iload rfl rfl ?_
        refine jr.icmp_le rfl rfl (by omega) (by omega) (fun h114 => ?_) (fun h114 => ?_)
        · refine jr.iload_n rfl rfl ?_
          refine jr.iconst rfl ?_
          refine jr.icmp_eq rfl rfl (by omega) (by omega) (fun _ => ?_) (fun h => absurd (by decide) h)
          refine jr.iload_n rfl rfl ?_
          refine jr.iconst rfl ?_
          refine jr.icmp_ne rfl rfl (by omega) (by omega) (fun h => absurd h (by decide)) (fun _ => ?_)
          refine jr.iload_n rfl rfl ?_
          refine jr.goto rfl rfl ?_
          refine jr.istore (ls' := [_, _, _, _, _, _, _]) rfl (by decide) rfl ?_
          refine jr.iload_n rfl rfl ?_
          refine jr.iconst rfl ?_
          refine jr.icmp_ne rfl rfl (by omega) (by omega) (fun h => absurd h (by decide)) (fun _ => ?_)
          refine jr.aload_n rfl rfl ?_
          refine jr.iload_n rfl rfl ?_
          refine jr.iload rfl rfl ?_
          refine jr_v rfl rfl (Or.inl rfl) rfl rfl (by decide) rfl ⟨rfl, Nat.le_of_ble_eq_true rfl, Nat.le_of_ble_eq_true rfl⟩ rfl (jc.deep (r_one hI_M hH_M hS_M (Kp.rfl _) (by omega) (by omega)  (fun r6 z6 w6_0 => ?_)) (by decide))
          refine jr.bipush rfl (by decide) ?_
          refine jr.iand rfl ?_
          have b7 : j_and r6 15 = r6 % 16 := j_and_mask 4 (by decide) (by omega) (by omega)
          generalize j_and r6 15 = v7 at b7 ⊢
          refine jr.goto rfl rfl ?_
          refine jr.istore (ls' := [_, _, _, _, _, _, _, _]) rfl (by decide) rfl ?_
          refine jr.iload rfl rfl ?_
          refine jr.iconst rfl ?_
          refine jr.icmp_ge rfl rfl (by omega) (by omega) (fun h185 => ?_) (fun h185 => ?_)
          · refine jr.iconst rfl ?_
            refine jr.iload rfl rfl ?_
            refine jr.imul rfl ?_
            refine jr.istore (ls' := [_, _, _, _, _, _, _, _]) rfl (by decide) rfl ?_
            refine jr.iload_n rfl rfl ?_
            refine jr.iload rfl rfl ?_
            refine jr.iadd rfl ?_
            refine jr.iload rfl rfl ?_
            refine jr.icmp_le rfl rfl (by omega) (by omega) (fun h210 => ?_) (fun h210 => ?_)
            · refine jr.iload_n rfl rfl ?_
              refine jr.iconst rfl ?_
              refine jr.icmp_eq rfl rfl (by omega) (by omega) (fun _ => ?_) (fun h => absurd (by decide) h)
              refine jr.iload_n rfl rfl ?_
              refine jr.iconst rfl ?_
              refine jr.iadd rfl ?_
              refine jr.goto rfl rfl ?_
              refine jr.istore (ls' := [_, _, _, _, _, _, _, _]) rfl (by decide) rfl ?_
              refine jr.iload_n rfl rfl ?_
              refine jr.iconst rfl ?_
              refine jr.icmp_ne rfl rfl (by omega) (by omega) (fun _ => ?_) (fun h => absurd (by decide) h)
              refine jr.iload rfl rfl ?_
              refine jr.iload_n rfl rfl ?_
              refine jr.isub rfl ?_
              refine jr.istore (ls' := [_, _, _, _, _, _, _, _]) rfl (by decide) rfl ?_
              refine jr.iload rfl rfl ?_
              refine jr.iconst rfl ?_
              refine jr.icmp_eq rfl rfl (by omega) (by omega) (fun h278 => ?_) (fun h278 => ?_)
              · exact absurd h278 (by omega)
              · refine jr.aload_n rfl rfl ?_
                refine jr.iload_n rfl rfl ?_
                refine jr.iload rfl rfl ?_
                refine jr_v rfl rfl (Or.inl rfl) rfl rfl (by decide) rfl ⟨rfl, Nat.le_of_ble_eq_true rfl, Nat.le_of_ble_eq_true rfl⟩ rfl (jc.deep (r_two_x hI_M hH_M hS_M  (by omega) (by omega)  (fun r8 z8 w8_0 => ?_)) (by decide))
                refine jr.iload rfl rfl ?_
                refine jr.icmp_eq rfl rfl (by omega) (by omega) (fun h290 => ?_) (fun h290 => ?_)
                · refine jr.iload rfl rfl ?_
                  exact jr.ireturn rfl rfl rfl (q _ _ hI_M hH_M hS_M  (by omega) ⟨by omega, by have hn := e1; have hbA : hb (rf M x) (M 600 x) (a) = M 601 (400 * x + (a)) := hb_i (by omega) (by omega); have hzK : hsZ (rf M x) (M 600 x) 2 a = 4 * (hb (rf M x) (M 600 x) a % 16) := rfl; have e1 : hsF (rf M x) (M 600 x) 0 3 2 a = 0 := (by rw [msF, if_neg (by omega), if_neg (by omega), if_neg (by omega), if_neg (by omega), if_neg (by omega), if_neg (by omega)]); exact Or.inr ⟨e1, by omega, by omega, rfl, rfl, rfl⟩⟩ (by omega) (fun a i f598 => rfl) (fun i g10 g11 g12 => rfl))
                · refine jr.aload_n rfl rfl ?_
                  refine jr.iconst rfl ?_
                  refine jr.iload rfl rfl ?_
                  refine jr.iload_n rfl rfl ?_
                  refine jr_v rfl rfl (Or.inl rfl) rfl rfl (by decide) rfl ⟨rfl, Nat.le_of_ble_eq_true rfl, Nat.le_of_ble_eq_true rfl⟩ rfl (jc.deep (r_finds_x hI_M hH_M hS_M  (by omega) (by omega) (by omega)  (fun M9 hI_M9 hH_M9 hS_M9  w9_0 w9_1 w9_2 => ?_)) (by decide))
                  refine jr.iconst rfl ?_
                  exact jr.ireturn rfl rfl rfl (q _ _ hI_M9 hH_M9 hS_M9  (by omega) ⟨by omega, by have hn := e1; have hbA : hb (rf M x) (M 600 x) (a) = M 601 (400 * x + (a)) := hb_i (by omega) (by omega); have hzK : hsZ (rf M x) (M 600 x) 2 a = 4 * (hb (rf M x) (M 600 x) a % 16) := rfl; have e1 : hsF (rf M x) (M 600 x) 0 3 2 a = 5 := (by rw [msF, if_neg (by omega), if_neg (by omega), if_neg (by omega), if_neg (by omega), if_neg (by omega), if_pos (by omega)]); have e2 : hsW (rf M x) (M 600 x) 0 3 2 a = a + 2 := (by rw [msW, if_neg (by omega), if_neg (by omega), if_neg (by omega), if_neg (by omega), if_neg (by omega)]; exact if_neg (by decide)); exact Or.inl ⟨by omega, by omega, by omega, by omega, by omega⟩⟩ (by omega) (fun a i f598 => ((w9_1 a i f598).trans rfl)) (fun i g10 g11 g12 => ((w9_2 i g10 g11 g12).trans rfl)))
            · refine jr.aload_n rfl rfl ?_
              refine jr.iconst rfl ?_
              refine jr.iload rfl rfl ?_
              refine jr.iload_n rfl rfl ?_
              refine jr_v rfl rfl (Or.inl rfl) rfl rfl (by decide) rfl ⟨rfl, Nat.le_of_ble_eq_true rfl, Nat.le_of_ble_eq_true rfl⟩ rfl (jc.deep (r_finds_x hI_M hH_M hS_M  (by omega) (by omega) (by omega)  (fun M10 hI_M10 hH_M10 hS_M10  w10_0 w10_1 w10_2 => ?_)) (by decide))
              refine jr.iconst rfl ?_
              exact jr.ireturn rfl rfl rfl (q _ _ hI_M10 hH_M10 hS_M10  (by omega) ⟨by omega, by have hn := e1; have hbA : hb (rf M x) (M 600 x) (a) = M 601 (400 * x + (a)) := hb_i (by omega) (by omega); have hzK : hsZ (rf M x) (M 600 x) 2 a = 4 * (hb (rf M x) (M 600 x) a % 16) := rfl; have e1 : hsF (rf M x) (M 600 x) 0 3 2 a = 1 := (by rw [msF, if_neg (by omega), if_neg (by omega), if_neg (by omega), if_neg (by omega), if_pos (by omega)]); have e2 : hsW (rf M x) (M 600 x) 0 3 2 a = M 600 x := (by rw [msW, if_neg (by omega), if_neg (by omega), if_neg (by omega), if_neg (by omega), if_pos (by omega)]); exact Or.inl ⟨by omega, by omega, by omega, by omega, by omega⟩⟩ (by omega) (fun a i f598 => ((w10_1 a i f598).trans rfl)) (fun i g10 g11 g12 => ((w10_2 i g10 g11 g12).trans rfl)))
          · refine jr.aload_n rfl rfl ?_
            refine jr.iconst rfl ?_
            refine jr.iload rfl rfl ?_
            refine jr.iload_n rfl rfl ?_
            refine jr_v rfl rfl (Or.inl rfl) rfl rfl (by decide) rfl ⟨rfl, Nat.le_of_ble_eq_true rfl, Nat.le_of_ble_eq_true rfl⟩ rfl (jc.deep (r_finds_x hI_M hH_M hS_M  (by omega) (by omega) (by omega)  (fun M11 hI_M11 hH_M11 hS_M11  w11_0 w11_1 w11_2 => ?_)) (by decide))
            refine jr.iconst rfl ?_
            exact jr.ireturn rfl rfl rfl (q _ _ hI_M11 hH_M11 hS_M11  (by omega) ⟨by omega, by have hn := e1; have hbA : hb (rf M x) (M 600 x) (a) = M 601 (400 * x + (a)) := hb_i (by omega) (by omega); have hzK : hsZ (rf M x) (M 600 x) 2 a = 4 * (hb (rf M x) (M 600 x) a % 16) := rfl; have e1 : hsF (rf M x) (M 600 x) 0 3 2 a = 4 := (by rw [msF, if_neg (by omega), if_neg (by omega), if_neg (by omega), if_pos (by omega)]); have e2 : hsW (rf M x) (M 600 x) 0 3 2 a = a := (by rw [msW, if_neg (by omega), if_neg (by omega), if_neg (by omega), if_pos (by omega)]; exact if_pos rfl); exact Or.inl ⟨by omega, by omega, by omega, by omega, by omega⟩⟩ (by omega) (fun a i f598 => ((w11_1 a i f598).trans rfl)) (fun i g10 g11 g12 => ((w11_2 i g10 g11 g12).trans rfl)))
        · refine jr.aload_n rfl rfl ?_
          refine jr.iconst rfl ?_
          refine jr.iload rfl rfl ?_
          refine jr.iload_n rfl rfl ?_
          refine jr_v rfl rfl (Or.inl rfl) rfl rfl (by decide) rfl ⟨rfl, Nat.le_of_ble_eq_true rfl, Nat.le_of_ble_eq_true rfl⟩ rfl (jc.deep (r_finds_x hI_M hH_M hS_M  (by omega) (by omega) (by omega)  (fun M12 hI_M12 hH_M12 hS_M12  w12_0 w12_1 w12_2 => ?_)) (by decide))
          refine jr.iconst rfl ?_
          exact jr.ireturn rfl rfl rfl (q _ _ hI_M12 hH_M12 hS_M12  (by omega) ⟨by omega, by have hn := e1; have hbA : hb (rf M x) (M 600 x) (a) = M 601 (400 * x + (a)) := hb_i (by omega) (by omega); have hzK : hsZ (rf M x) (M 600 x) 2 a = 4 * (hb (rf M x) (M 600 x) a % 16) := rfl; have e1 : hsF (rf M x) (M 600 x) 0 3 2 a = 1 := (by rw [msF, if_neg (by omega), if_neg (by omega), if_pos (by omega)]); have e2 : hsW (rf M x) (M 600 x) 0 3 2 a = M 600 x := (by rw [msW, if_neg (by omega), if_neg (by omega), if_pos (by omega)]); exact Or.inl ⟨by omega, by omega, by omega, by omega, by omega⟩⟩ (by omega) (fun a i f598 => ((w12_1 a i f598).trans rfl)) (fun i g10 g11 g12 => ((w12_2 i g10 g11 g12).trans rfl)))
    · refine jr.aload_n rfl rfl ?_
      refine jr.iconst rfl ?_
      refine jr.iload rfl rfl ?_
      refine jr.iload_n rfl rfl ?_
      refine jr_v rfl rfl (Or.inl rfl) rfl rfl (by decide) rfl ⟨rfl, Nat.le_of_ble_eq_true rfl, Nat.le_of_ble_eq_true rfl⟩ rfl (jc.deep (r_finds_x hI_M hH_M hS_M  (by omega) (by omega) (by omega)  (fun M13 hI_M13 hH_M13 hS_M13  w13_0 w13_1 w13_2 => ?_)) (by decide))
      refine jr.iconst rfl ?_
      exact jr.ireturn rfl rfl rfl (q _ _ hI_M13 hH_M13 hS_M13  (by omega) ⟨by omega, by have hn := e1; have e1 : hsF (rf M x) (M 600 x) 0 3 2 a = 1 := (by rw [msF, if_pos (by omega)]); have e2 : hsW (rf M x) (M 600 x) 0 3 2 a = M 600 x := (by rw [msW, if_pos (by omega)]); exact Or.inl ⟨by omega, by omega, by omega, by omega, by omega⟩⟩ (by omega) (fun a i f598 => ((w13_1 a i f598).trans rfl)) (fun i g10 g11 g12 => ((w13_2 i g10 g11 g12).trans rfl)))
  · have lk : lst 3 = 24 := rfl
    have lh : hls 3 = 24 := rfl
    have lr : lsr 3 = 24 := rfl
    refine jc_of (m := xm_262) rfl (Nat.le_of_ble_eq_true rfl) rfl ?_
    refine jr.aload_n rfl rfl ?_
    refine jr.getf (i := 3) (v := .ref 600) rfl rfl (by decide) rfl (by decide) rfl rfl rfl rfl ?_
    refine jr.iload_n rfl rfl ?_
    obtain ⟨v1, e1⟩ : ∃ z, M 600 x = z := ⟨_, rfl⟩
    have b1 : (-1) ≤ v1 ∧ v1 ≤ 400 := by rw [← e1]; exact (by have q := hI_M 600 x (by decide); rw [xri_row rfl rfl] at q; exact q)
    refine jr.iald (i := x) (x := v1) rfl (by decide) rfl (by decide) (by omega) (by omega) e1 ?_
    refine jr.istore (ls' := [_, _, _, _, _]) rfl (by decide) rfl ?_
    refine jr.iload_n rfl rfl ?_
    refine jr.iload rfl rfl ?_
    refine jr.icmp_lt rfl rfl (by omega) (by omega) (fun h11 => ?_) (fun h11 => ?_)
    · refine jr.iload_n rfl rfl ?_
      refine jr.iconst rfl ?_
      refine jr.icmp_ne rfl rfl (by omega) (by omega) (fun _ => ?_) (fun h => absurd (by decide) h)
      refine jr.iload_n rfl rfl ?_
      refine jr.iconst rfl ?_
      refine jr.icmp_ne rfl rfl (by omega) (by omega) (fun h => absurd h (by decide)) (fun _ => ?_)
      refine jr.aload_n rfl rfl ?_
      refine jr.iload_n rfl rfl ?_
      refine jr.iload_n rfl rfl ?_
      refine jr_v rfl rfl (Or.inl rfl) rfl rfl (by decide) rfl ⟨rfl, Nat.le_of_ble_eq_true rfl, Nat.le_of_ble_eq_true rfl⟩ rfl (jc.deep (r_one hI_M hH_M hS_M (Kp.rfl _) (by omega) (by omega)  (fun r2 z2 w2_0 => ?_)) (by decide))
      refine jr.iconst rfl ?_
      refine jr.ishr rfl ?_
      have b3 : j_shr r2 4 = r2 / 16 := j_shr_ex 4 (by decide) (by omega) (by omega)
      generalize j_shr r2 4 = v3 at b3 ⊢
      refine jr.bipush rfl (by decide) ?_
      refine jr.icmp_eq rfl rfl (by omega) (by omega) (fun h56 => ?_) (fun h56 => ?_)
      · refine jr.iload_n rfl rfl ?_
        refine jr_s rfl rfl (Or.inl rfl) ⟨Nat.le_of_ble_eq_true rfl, Nat.le_of_ble_eq_true rfl⟩ rfl rfl (jc.deep (r_least_x hI_M hH_M hS_M  (by omega)  (fun r4 z4 w4_0 => ?_)) (by decide))
        refine jr.istore (ls' := [_, _, _, _, _, _]) rfl (by decide) rfl ?_
        refine jr.iload_n rfl rfl ?_
        refine jr.iconst rfl ?_
        refine jr.icmp_eq rfl rfl (by omega) (by omega) (fun h => absurd h (by decide)) (fun _ => ?_)
        refine jr.iload_n rfl rfl ?_
        refine jr.iconst rfl ?_
        refine jr.icmp_ne rfl rfl (by omega) (by omega) (fun _ => ?_) (fun h => absurd (by decide) h)
        refine jr.iload_n rfl rfl ?_
        refine jr.iload rfl rfl ?_
        refine jr.iadd rfl ?_
        refine jr.iload rfl rfl ?_
        refine jr.icmp_le rfl rfl (by omega) (by omega) (fun h114 => ?_) (fun h114 => ?_)
        · refine jr.iload_n rfl rfl ?_
          refine jr.iconst rfl ?_
          refine jr.icmp_eq rfl rfl (by omega) (by omega) (fun h => absurd h (by decide)) (fun _ => ?_)
          refine jr.iload_n rfl rfl ?_
          refine jr.bipush rfl (by decide) ?_
          refine jr.icmp_ne rfl rfl (by omega) (by omega) (fun _ => ?_) (fun h => absurd (by decide) h)
          refine jr.iload_n rfl rfl ?_
          refine jr.iconst rfl ?_
          refine jr.icmp_eq rfl rfl (by omega) (by omega) (fun h => absurd h (by decide)) (fun _ => ?_)
          refine jr.iload_n rfl rfl ?_
          refine jr.iconst rfl ?_
          refine jr.icmp_ne rfl rfl (by omega) (by omega) (fun h => absurd h (by decide)) (fun _ => ?_)
          refine jr.iload_n rfl rfl ?_
          refine jr.iconst rfl ?_
          refine jr.iadd rfl ?_
          refine jr.goto rfl rfl ?_
          refine jr.istore (ls' := [_, _, _, _, _, _, _]) rfl (by decide) rfl ?_
          refine jr.iload_n rfl rfl ?_
          refine jr.iconst rfl ?_
          refine jr.icmp_ne rfl rfl (by omega) (by omega) (fun h => absurd h (by decide)) (fun _ => ?_)
          refine jr.iload rfl rfl ?_
          refine jr.iload_n rfl rfl ?_
          refine jr.isub rfl ?_
          refine jr.bipush rfl (by decide) ?_
          refine jr.isub rfl ?_
          refine jr.goto rfl rfl ?_
          refine jr.istore (ls' := [_, _, _, _, _, _, _, _]) rfl (by decide) rfl ?_
          refine jr.iload rfl rfl ?_
          refine jr.iconst rfl ?_
          refine jr.icmp_eq rfl rfl (by omega) (by omega) (fun h278 => ?_) (fun h278 => ?_)
          · exact absurd h278 (by omega)
          · refine jr.aload_n rfl rfl ?_
            refine jr.iload_n rfl rfl ?_
            refine jr.iload rfl rfl ?_
            refine jr_v rfl rfl (Or.inl rfl) rfl rfl (by decide) rfl ⟨rfl, Nat.le_of_ble_eq_true rfl, Nat.le_of_ble_eq_true rfl⟩ rfl (jc.deep (r_two_x hI_M hH_M hS_M  (by omega) (by omega)  (fun r5 z5 w5_0 => ?_)) (by decide))
            refine jr.iload rfl rfl ?_
            refine jr.icmp_eq rfl rfl (by omega) (by omega) (fun h290 => ?_) (fun h290 => ?_)
            · refine jr.iload rfl rfl ?_
              exact jr.ireturn rfl rfl rfl (q _ _ hI_M hH_M hS_M  (by omega) ⟨by omega, by have hn := e1; have hbA : hb (rf M x) (M 600 x) (a) = M 601 (400 * x + (a)) := hb_i (by omega) (by omega); have hzK : hsZ (rf M x) (M 600 x) 3 a = 24 := rfl; have e1 : hsF (rf M x) (M 600 x) 0 3 3 a = 0 := (by rw [msF, if_neg (by omega), if_neg (by omega), if_neg (by omega), if_neg (by omega), if_neg (by omega), if_neg (by omega)]); exact Or.inr ⟨e1, by omega, by omega, rfl, rfl, rfl⟩⟩ (by omega) (fun a i f598 => rfl) (fun i g10 g11 g12 => rfl))
            · refine jr.aload_n rfl rfl ?_
              refine jr.iconst rfl ?_
              refine jr.iload rfl rfl ?_
              refine jr.iload_n rfl rfl ?_
              refine jr_v rfl rfl (Or.inl rfl) rfl rfl (by decide) rfl ⟨rfl, Nat.le_of_ble_eq_true rfl, Nat.le_of_ble_eq_true rfl⟩ rfl (jc.deep (r_finds_x hI_M hH_M hS_M  (by omega) (by omega) (by omega)  (fun M6 hI_M6 hH_M6 hS_M6  w6_0 w6_1 w6_2 => ?_)) (by decide))
              refine jr.iconst rfl ?_
              exact jr.ireturn rfl rfl rfl (q _ _ hI_M6 hH_M6 hS_M6  (by omega) ⟨by omega, by have hn := e1; have hbA : hb (rf M x) (M 600 x) (a) = M 601 (400 * x + (a)) := hb_i (by omega) (by omega); have hzK : hsZ (rf M x) (M 600 x) 3 a = 24 := rfl; have e1 : hsF (rf M x) (M 600 x) 0 3 3 a = 5 := (by rw [msF, if_neg (by omega), if_neg (by omega), if_neg (by omega), if_neg (by omega), if_neg (by omega), if_pos (by omega)]); have e2 : hsW (rf M x) (M 600 x) 0 3 3 a = a + 2 := (by rw [msW, if_neg (by omega), if_neg (by omega), if_neg (by omega), if_neg (by omega), if_neg (by omega)]; exact if_neg (by decide)); exact Or.inl ⟨by omega, by omega, by omega, by omega, by omega⟩⟩ (by omega) (fun a i f598 => ((w6_1 a i f598).trans rfl)) (fun i g10 g11 g12 => ((w6_2 i g10 g11 g12).trans rfl)))
        · refine jr.aload_n rfl rfl ?_
          refine jr.iconst rfl ?_
          refine jr.iload rfl rfl ?_
          refine jr.iload_n rfl rfl ?_
          refine jr_v rfl rfl (Or.inl rfl) rfl rfl (by decide) rfl ⟨rfl, Nat.le_of_ble_eq_true rfl, Nat.le_of_ble_eq_true rfl⟩ rfl (jc.deep (r_finds_x hI_M hH_M hS_M  (by omega) (by omega) (by omega)  (fun M7 hI_M7 hH_M7 hS_M7  w7_0 w7_1 w7_2 => ?_)) (by decide))
          refine jr.iconst rfl ?_
          exact jr.ireturn rfl rfl rfl (q _ _ hI_M7 hH_M7 hS_M7  (by omega) ⟨by omega, by have hn := e1; have hbA : hb (rf M x) (M 600 x) (a) = M 601 (400 * x + (a)) := hb_i (by omega) (by omega); have hzK : hsZ (rf M x) (M 600 x) 3 a = 24 := rfl; have e1 : hsF (rf M x) (M 600 x) 0 3 3 a = 1 := (by rw [msF, if_neg (by omega), if_neg (by omega), if_pos (by omega)]); have e2 : hsW (rf M x) (M 600 x) 0 3 3 a = M 600 x := (by rw [msW, if_neg (by omega), if_neg (by omega), if_pos (by omega)]); exact Or.inl ⟨by omega, by omega, by omega, by omega, by omega⟩⟩ (by omega) (fun a i f598 => ((w7_1 a i f598).trans rfl)) (fun i g10 g11 g12 => ((w7_2 i g10 g11 g12).trans rfl)))
      · refine jr.aload_n rfl rfl ?_
        refine jr.iconst rfl ?_
        refine jr.iload_n rfl rfl ?_
        refine jr.iload_n rfl rfl ?_
        refine jr_v rfl rfl (Or.inl rfl) rfl rfl (by decide) rfl ⟨rfl, Nat.le_of_ble_eq_true rfl, Nat.le_of_ble_eq_true rfl⟩ rfl (jc.deep (r_finds_x hI_M hH_M hS_M  (by omega) (by omega) (by omega)  (fun M8 hI_M8 hH_M8 hS_M8  w8_0 w8_1 w8_2 => ?_)) (by decide))
        refine jr.iconst rfl ?_
        exact jr.ireturn rfl rfl rfl (q _ _ hI_M8 hH_M8 hS_M8  (by omega) ⟨by omega, by have hn := e1; have hbA : hb (rf M x) (M 600 x) (a) = M 601 (400 * x + (a)) := hb_i (by omega) (by omega); have e1 : hsF (rf M x) (M 600 x) 0 3 3 a = 3 := (by rw [msF, if_neg (by omega), if_pos (by omega)]); have e2 : hsW (rf M x) (M 600 x) 0 3 3 a = a := (by rw [msW, if_neg (by omega), if_pos (by omega)]); exact Or.inl ⟨by omega, by omega, by omega, by omega, by omega⟩⟩ (by omega) (fun a i f598 => ((w8_1 a i f598).trans rfl)) (fun i g10 g11 g12 => ((w8_2 i g10 g11 g12).trans rfl)))
    · refine jr.aload_n rfl rfl ?_
      refine jr.iconst rfl ?_
      refine jr.iload rfl rfl ?_
      refine jr.iload_n rfl rfl ?_
      refine jr_v rfl rfl (Or.inl rfl) rfl rfl (by decide) rfl ⟨rfl, Nat.le_of_ble_eq_true rfl, Nat.le_of_ble_eq_true rfl⟩ rfl (jc.deep (r_finds_x hI_M hH_M hS_M  (by omega) (by omega) (by omega)  (fun M9 hI_M9 hH_M9 hS_M9  w9_0 w9_1 w9_2 => ?_)) (by decide))
      refine jr.iconst rfl ?_
      exact jr.ireturn rfl rfl rfl (q _ _ hI_M9 hH_M9 hS_M9  (by omega) ⟨by omega, by have hn := e1; have e1 : hsF (rf M x) (M 600 x) 0 3 3 a = 1 := (by rw [msF, if_pos (by omega)]); have e2 : hsW (rf M x) (M 600 x) 0 3 3 a = M 600 x := (by rw [msW, if_pos (by omega)]); exact Or.inl ⟨by omega, by omega, by omega, by omega, by omega⟩⟩ (by omega) (fun a i f598 => ((w9_1 a i f598).trans rfl)) (fun i g10 g11 g12 => ((w9_2 i g10 g11 g12).trans rfl)))
  · have lk : lst 4 = 8 := rfl
    have lh : hls 4 = 2 := rfl
    have lr : lsr 4 = 8 := rfl
    refine jc_of (m := xm_262) rfl (Nat.le_of_ble_eq_true rfl) rfl ?_
    refine jr.aload_n rfl rfl ?_
    refine jr.getf (i := 3) (v := .ref 600) rfl rfl (by decide) rfl (by decide) rfl rfl rfl rfl ?_
    refine jr.iload_n rfl rfl ?_
    obtain ⟨v1, e1⟩ : ∃ z, M 600 x = z := ⟨_, rfl⟩
    have b1 : (-1) ≤ v1 ∧ v1 ≤ 400 := by rw [← e1]; exact (by have q := hI_M 600 x (by decide); rw [xri_row rfl rfl] at q; exact q)
    refine jr.iald (i := x) (x := v1) rfl (by decide) rfl (by decide) (by omega) (by omega) e1 ?_
    refine jr.istore (ls' := [_, _, _, _, _]) rfl (by decide) rfl ?_
    refine jr.iload_n rfl rfl ?_
    refine jr.iload rfl rfl ?_
    refine jr.icmp_lt rfl rfl (by omega) (by omega) (fun h11 => ?_) (fun h11 => ?_)
    · refine jr.iload_n rfl rfl ?_
      refine jr.iconst rfl ?_
      refine jr.icmp_ne rfl rfl (by omega) (by omega) (fun _ => ?_) (fun h => absurd (by decide) h)
      refine jr.iload_n rfl rfl ?_
      refine jr.iconst rfl ?_
      refine jr.icmp_ne rfl rfl (by omega) (by omega) (fun _ => ?_) (fun h => absurd (by decide) h)
      refine jr.iload_n rfl rfl ?_
      refine jr_s rfl rfl (Or.inl rfl) ⟨Nat.le_of_ble_eq_true rfl, Nat.le_of_ble_eq_true rfl⟩ rfl rfl (jc.deep (r_least_x hI_M hH_M hS_M  (by omega)  (fun r2 z2 w2_0 => ?_)) (by decide))
      refine jr.istore (ls' := [_, _, _, _, _, _]) rfl (by decide) rfl ?_
      refine jr.iload_n rfl rfl ?_
      refine jr.iconst rfl ?_
      refine jr.icmp_eq rfl rfl (by omega) (by omega) (fun _ => ?_) (fun h => absurd (by decide) h)
      refine jr.iload_n rfl rfl ?_
      refine jr.iconst rfl ?_
      refine jr.iadd rfl ?_
      refine jr.iload rfl rfl ?_
      refine jr.icmp_gt rfl rfl (by omega) (by omega) (fun h89 => ?_) (fun h89 => ?_)
      · refine jr.iload_n rfl rfl ?_
        refine jr.iload rfl rfl ?_
        refine jr.iadd rfl ?_
        refine jr.iload rfl rfl ?_
        refine jr.icmp_le rfl rfl (by omega) (by omega) (fun h114 => ?_) (fun h114 => ?_)
        · refine jr.iload_n rfl rfl ?_
          refine jr.iconst rfl ?_
          refine jr.icmp_eq rfl rfl (by omega) (by omega) (fun h => absurd h (by decide)) (fun _ => ?_)
          refine jr.iload_n rfl rfl ?_
          refine jr.bipush rfl (by decide) ?_
          refine jr.icmp_ne rfl rfl (by omega) (by omega) (fun _ => ?_) (fun h => absurd (by decide) h)
          refine jr.iload_n rfl rfl ?_
          refine jr.iconst rfl ?_
          refine jr.icmp_eq rfl rfl (by omega) (by omega) (fun h => absurd h (by decide)) (fun _ => ?_)
          refine jr.iload_n rfl rfl ?_
          refine jr.iconst rfl ?_
          refine jr.icmp_ne rfl rfl (by omega) (by omega) (fun _ => ?_) (fun h => absurd (by decide) h)
          refine jr.iload_n rfl rfl ?_
          refine jr.bipush rfl (by decide) ?_
          refine jr.icmp_ne rfl rfl (by omega) (by omega) (fun _ => ?_) (fun h => absurd (by decide) h)
          refine jr.iconst rfl ?_
          refine jr.istore (ls' := [_, _, _, _, _, _, _]) rfl (by decide) rfl ?_
          refine jr.iload_n rfl rfl ?_
          refine jr.iconst rfl ?_
          refine jr.icmp_ne rfl rfl (by omega) (by omega) (fun _ => ?_) (fun h => absurd (by decide) h)
          refine jr.iload rfl rfl ?_
          refine jr.iload_n rfl rfl ?_
          refine jr.isub rfl ?_
          refine jr.istore (ls' := [_, _, _, _, _, _, _, _]) rfl (by decide) rfl ?_
          refine jr.iload rfl rfl ?_
          refine jr.iconst rfl ?_
          refine jr.icmp_eq rfl rfl (by omega) (by omega) (fun _ => ?_) (fun h => absurd (by decide) h)
          refine jr.iload rfl rfl ?_
          exact jr.ireturn rfl rfl rfl (q _ _ hI_M hH_M hS_M  (by omega) ⟨by omega, by have hn := e1; have hzK : hsZ (rf M x) (M 600 x) 4 a = 8 * hb (rf M x) (M 600 x) (a + 1) + 8 := rfl; have hbB : hb (rf M x) (M 600 x) (a + 1) = M 601 (400 * x + (a + 1)) := hb_i (by omega) (by omega); have e1 : hsF (rf M x) (M 600 x) 0 3 4 a = 0 := (by rw [msF, if_neg (by omega), if_neg (by omega), if_neg (by omega), if_neg (by omega), if_neg (by omega), if_neg (by omega)]); exact Or.inr ⟨e1, by omega, by omega, rfl, rfl, rfl⟩⟩ (by omega) (fun a i f598 => rfl) (fun i g10 g11 g12 => rfl))
        · refine jr.aload_n rfl rfl ?_
          refine jr.iconst rfl ?_
          refine jr.iload rfl rfl ?_
          refine jr.iload_n rfl rfl ?_
          refine jr_v rfl rfl (Or.inl rfl) rfl rfl (by decide) rfl ⟨rfl, Nat.le_of_ble_eq_true rfl, Nat.le_of_ble_eq_true rfl⟩ rfl (jc.deep (r_finds_x hI_M hH_M hS_M  (by omega) (by omega) (by omega)  (fun M3 hI_M3 hH_M3 hS_M3  w3_0 w3_1 w3_2 => ?_)) (by decide))
          refine jr.iconst rfl ?_
          exact jr.ireturn rfl rfl rfl (q _ _ hI_M3 hH_M3 hS_M3  (by omega) ⟨by omega, by have hn := e1; have hzK : hsZ (rf M x) (M 600 x) 4 a = 8 * hb (rf M x) (M 600 x) (a + 1) + 8 := rfl; first | (have e1 : hsF (rf M x) (M 600 x) 0 3 4 a = 1 := (by rw [msF, if_neg (by omega), if_neg (by omega), if_pos (by omega)]); have e2 : hsW (rf M x) (M 600 x) 0 3 4 a = M 600 x := (by rw [msW, if_neg (by omega), if_neg (by omega), if_pos (by omega)]); exact Or.inl ⟨by omega, by omega, by omega, by omega, by omega⟩) | (have hbB : hb (rf M x) (M 600 x) (a + 1) = M 601 (400 * x + (a + 1)) := hb_i (by omega) (by omega); have e1 : hsF (rf M x) (M 600 x) 0 3 4 a = 1 := (by rw [msF, if_neg (by omega), if_neg (by omega), if_neg (by omega), if_neg (by omega), if_pos (by omega)]); have e2 : hsW (rf M x) (M 600 x) 0 3 4 a = M 600 x := (by rw [msW, if_neg (by omega), if_neg (by omega), if_neg (by omega), if_neg (by omega), if_pos (by omega)]); exact Or.inl ⟨by omega, by omega, by omega, by omega, by omega⟩)⟩ (by omega) (fun a i f598 => ((w3_1 a i f598).trans rfl)) (fun i g10 g11 g12 => ((w3_2 i g10 g11 g12).trans rfl)))
      · refine jr.bipush rfl (by decide) ?_
        refine jr.aload_n rfl rfl ?_
        refine jr.iload_n rfl rfl ?_
        refine jr.iload_n rfl rfl ?_
        refine jr.iconst rfl ?_
        refine jr.iadd rfl ?_
        refine jr_v rfl rfl (Or.inl rfl) rfl rfl (by decide) rfl ⟨rfl, Nat.le_of_ble_eq_true rfl, Nat.le_of_ble_eq_true rfl⟩ rfl (jc.deep (r_one hI_M hH_M hS_M (Kp.rfl _) (by omega) (by omega)  (fun r4 z4 w4_0 => ?_)) (by decide))
        refine jr.imul rfl ?_
        refine jr.bipush rfl (by decide) ?_
        refine jr.iadd rfl ?_
        refine jr.istore (ls' := [_, _, _, _, _, _]) rfl (by decide) rfl ?_
        refine jr.iload_n rfl rfl ?_
        refine jr.iload rfl rfl ?_
        refine jr.iadd rfl ?_
        refine jr.iload rfl rfl ?_
        refine jr.icmp_le rfl rfl (by omega) (by omega) (fun h114 => ?_) (fun h114 => ?_)
        · refine jr.iload_n rfl rfl ?_
          refine jr.iconst rfl ?_
          refine jr.icmp_eq rfl rfl (by omega) (by omega) (fun h => absurd h (by decide)) (fun _ => ?_)
          refine jr.iload_n rfl rfl ?_
          refine jr.bipush rfl (by decide) ?_
          refine jr.icmp_ne rfl rfl (by omega) (by omega) (fun _ => ?_) (fun h => absurd (by decide) h)
          refine jr.iload_n rfl rfl ?_
          refine jr.iconst rfl ?_
          refine jr.icmp_eq rfl rfl (by omega) (by omega) (fun h => absurd h (by decide)) (fun _ => ?_)
          refine jr.iload_n rfl rfl ?_
          refine jr.iconst rfl ?_
          refine jr.icmp_ne rfl rfl (by omega) (by omega) (fun _ => ?_) (fun h => absurd (by decide) h)
          refine jr.iload_n rfl rfl ?_
          refine jr.bipush rfl (by decide) ?_
          refine jr.icmp_ne rfl rfl (by omega) (by omega) (fun _ => ?_) (fun h => absurd (by decide) h)
          refine jr.iconst rfl ?_
          refine jr.istore (ls' := [_, _, _, _, _, _, _]) rfl (by decide) rfl ?_
          refine jr.iload_n rfl rfl ?_
          refine jr.iconst rfl ?_
          refine jr.icmp_ne rfl rfl (by omega) (by omega) (fun _ => ?_) (fun h => absurd (by decide) h)
          refine jr.iload rfl rfl ?_
          refine jr.iload_n rfl rfl ?_
          refine jr.isub rfl ?_
          refine jr.istore (ls' := [_, _, _, _, _, _, _, _]) rfl (by decide) rfl ?_
          refine jr.iload rfl rfl ?_
          refine jr.iconst rfl ?_
          refine jr.icmp_eq rfl rfl (by omega) (by omega) (fun _ => ?_) (fun h => absurd (by decide) h)
          refine jr.iload rfl rfl ?_
          exact jr.ireturn rfl rfl rfl (q _ _ hI_M hH_M hS_M  (by omega) ⟨by omega, by have hn := e1; have hzK : hsZ (rf M x) (M 600 x) 4 a = 8 * hb (rf M x) (M 600 x) (a + 1) + 8 := rfl; have hbB : hb (rf M x) (M 600 x) (a + 1) = M 601 (400 * x + (a + 1)) := hb_i (by omega) (by omega); have e1 : hsF (rf M x) (M 600 x) 0 3 4 a = 0 := (by rw [msF, if_neg (by omega), if_neg (by omega), if_neg (by omega), if_neg (by omega), if_neg (by omega), if_neg (by omega)]); exact Or.inr ⟨e1, by omega, by omega, rfl, rfl, rfl⟩⟩ (by omega) (fun a i f598 => rfl) (fun i g10 g11 g12 => rfl))
        · refine jr.aload_n rfl rfl ?_
          refine jr.iconst rfl ?_
          refine jr.iload rfl rfl ?_
          refine jr.iload_n rfl rfl ?_
          refine jr_v rfl rfl (Or.inl rfl) rfl rfl (by decide) rfl ⟨rfl, Nat.le_of_ble_eq_true rfl, Nat.le_of_ble_eq_true rfl⟩ rfl (jc.deep (r_finds_x hI_M hH_M hS_M  (by omega) (by omega) (by omega)  (fun M5 hI_M5 hH_M5 hS_M5  w5_0 w5_1 w5_2 => ?_)) (by decide))
          refine jr.iconst rfl ?_
          exact jr.ireturn rfl rfl rfl (q _ _ hI_M5 hH_M5 hS_M5  (by omega) ⟨by omega, by have hn := e1; have hzK : hsZ (rf M x) (M 600 x) 4 a = 8 * hb (rf M x) (M 600 x) (a + 1) + 8 := rfl; first | (have e1 : hsF (rf M x) (M 600 x) 0 3 4 a = 1 := (by rw [msF, if_neg (by omega), if_neg (by omega), if_pos (by omega)]); have e2 : hsW (rf M x) (M 600 x) 0 3 4 a = M 600 x := (by rw [msW, if_neg (by omega), if_neg (by omega), if_pos (by omega)]); exact Or.inl ⟨by omega, by omega, by omega, by omega, by omega⟩) | (have hbB : hb (rf M x) (M 600 x) (a + 1) = M 601 (400 * x + (a + 1)) := hb_i (by omega) (by omega); have e1 : hsF (rf M x) (M 600 x) 0 3 4 a = 1 := (by rw [msF, if_neg (by omega), if_neg (by omega), if_neg (by omega), if_neg (by omega), if_pos (by omega)]); have e2 : hsW (rf M x) (M 600 x) 0 3 4 a = M 600 x := (by rw [msW, if_neg (by omega), if_neg (by omega), if_neg (by omega), if_neg (by omega), if_pos (by omega)]); exact Or.inl ⟨by omega, by omega, by omega, by omega, by omega⟩)⟩ (by omega) (fun a i f598 => ((w5_1 a i f598).trans rfl)) (fun i g10 g11 g12 => ((w5_2 i g10 g11 g12).trans rfl)))
    · refine jr.aload_n rfl rfl ?_
      refine jr.iconst rfl ?_
      refine jr.iload rfl rfl ?_
      refine jr.iload_n rfl rfl ?_
      refine jr_v rfl rfl (Or.inl rfl) rfl rfl (by decide) rfl ⟨rfl, Nat.le_of_ble_eq_true rfl, Nat.le_of_ble_eq_true rfl⟩ rfl (jc.deep (r_finds_x hI_M hH_M hS_M  (by omega) (by omega) (by omega)  (fun M6 hI_M6 hH_M6 hS_M6  w6_0 w6_1 w6_2 => ?_)) (by decide))
      refine jr.iconst rfl ?_
      exact jr.ireturn rfl rfl rfl (q _ _ hI_M6 hH_M6 hS_M6  (by omega) ⟨by omega, by have hn := e1; have e1 : hsF (rf M x) (M 600 x) 0 3 4 a = 1 := (by rw [msF, if_neg (by omega), if_neg (by omega), if_pos (by omega)]); have e2 : hsW (rf M x) (M 600 x) 0 3 4 a = M 600 x := (by rw [msW, if_neg (by omega), if_neg (by omega), if_pos (by omega)]); exact Or.inl ⟨by omega, by omega, by omega, by omega, by omega⟩⟩ (by omega) (fun a i f598 => ((w6_1 a i f598).trans rfl)) (fun i g10 g11 g12 => ((w6_2 i g10 g11 g12).trans rfl)))
  · have lk : lst 5 = 8 := rfl
    have lh : hls 5 = 2 := rfl
    have lr : lsr 5 = 8 := rfl
    refine jc_of (m := xm_262) rfl (Nat.le_of_ble_eq_true rfl) rfl ?_
    refine jr.aload_n rfl rfl ?_
    refine jr.getf (i := 3) (v := .ref 600) rfl rfl (by decide) rfl (by decide) rfl rfl rfl rfl ?_
    refine jr.iload_n rfl rfl ?_
    obtain ⟨v1, e1⟩ : ∃ z, M 600 x = z := ⟨_, rfl⟩
    have b1 : (-1) ≤ v1 ∧ v1 ≤ 400 := by rw [← e1]; exact (by have q := hI_M 600 x (by decide); rw [xri_row rfl rfl] at q; exact q)
    refine jr.iald (i := x) (x := v1) rfl (by decide) rfl (by decide) (by omega) (by omega) e1 ?_
    refine jr.istore (ls' := [_, _, _, _, _]) rfl (by decide) rfl ?_
    refine jr.iload_n rfl rfl ?_
    refine jr.iload rfl rfl ?_
    refine jr.icmp_lt rfl rfl (by omega) (by omega) (fun h11 => ?_) (fun h11 => ?_)
    · refine jr.iload_n rfl rfl ?_
      refine jr.iconst rfl ?_
      refine jr.icmp_ne rfl rfl (by omega) (by omega) (fun _ => ?_) (fun h => absurd (by decide) h)
      refine jr.iload_n rfl rfl ?_
      refine jr.iconst rfl ?_
      refine jr.icmp_ne rfl rfl (by omega) (by omega) (fun _ => ?_) (fun h => absurd (by decide) h)
      refine jr.iload_n rfl rfl ?_
      refine jr_s rfl rfl (Or.inl rfl) ⟨Nat.le_of_ble_eq_true rfl, Nat.le_of_ble_eq_true rfl⟩ rfl rfl (jc.deep (r_least_x hI_M hH_M hS_M  (by omega)  (fun r2 z2 w2_0 => ?_)) (by decide))
      refine jr.istore (ls' := [_, _, _, _, _, _]) rfl (by decide) rfl ?_
      refine jr.iload_n rfl rfl ?_
      refine jr.iconst rfl ?_
      refine jr.icmp_eq rfl rfl (by omega) (by omega) (fun h => absurd h (by decide)) (fun _ => ?_)
      refine jr.iload_n rfl rfl ?_
      refine jr.iconst rfl ?_
      refine jr.icmp_ne rfl rfl (by omega) (by omega) (fun h => absurd h (by decide)) (fun _ => ?_)
      refine jr.iload_n rfl rfl ?_
      refine jr.iconst rfl ?_
      refine jr.iadd rfl ?_
      refine jr.iload rfl rfl ?_
      refine jr.icmp_gt rfl rfl (by omega) (by omega) (fun h89 => ?_) (fun h89 => ?_)
      · refine jr.iload_n rfl rfl ?_
        refine jr.iload rfl rfl ?_
        refine jr.iadd rfl ?_
        refine jr.iload rfl rfl ?_
        refine jr.icmp_le rfl rfl (by omega) (by omega) (fun h114 => ?_) (fun h114 => ?_)
        · refine jr.iload_n rfl rfl ?_
          refine jr.iconst rfl ?_
          refine jr.icmp_eq rfl rfl (by omega) (by omega) (fun h => absurd h (by decide)) (fun _ => ?_)
          refine jr.iload_n rfl rfl ?_
          refine jr.bipush rfl (by decide) ?_
          refine jr.icmp_ne rfl rfl (by omega) (by omega) (fun _ => ?_) (fun h => absurd (by decide) h)
          refine jr.iload_n rfl rfl ?_
          refine jr.iconst rfl ?_
          refine jr.icmp_eq rfl rfl (by omega) (by omega) (fun h => absurd h (by decide)) (fun _ => ?_)
          refine jr.iload_n rfl rfl ?_
          refine jr.iconst rfl ?_
          refine jr.icmp_ne rfl rfl (by omega) (by omega) (fun _ => ?_) (fun h => absurd (by decide) h)
          refine jr.iload_n rfl rfl ?_
          refine jr.bipush rfl (by decide) ?_
          refine jr.icmp_ne rfl rfl (by omega) (by omega) (fun _ => ?_) (fun h => absurd (by decide) h)
          refine jr.iconst rfl ?_
          refine jr.istore (ls' := [_, _, _, _, _, _, _]) rfl (by decide) rfl ?_
          refine jr.iload_n rfl rfl ?_
          refine jr.iconst rfl ?_
          refine jr.icmp_ne rfl rfl (by omega) (by omega) (fun _ => ?_) (fun h => absurd (by decide) h)
          refine jr.iload rfl rfl ?_
          refine jr.iload_n rfl rfl ?_
          refine jr.isub rfl ?_
          refine jr.istore (ls' := [_, _, _, _, _, _, _, _]) rfl (by decide) rfl ?_
          refine jr.iload rfl rfl ?_
          refine jr.iconst rfl ?_
          refine jr.icmp_eq rfl rfl (by omega) (by omega) (fun _ => ?_) (fun h => absurd (by decide) h)
          refine jr.iload rfl rfl ?_
          exact jr.ireturn rfl rfl rfl (q _ _ hI_M hH_M hS_M  (by omega) ⟨by omega, by have hn := e1; have hzK : hsZ (rf M x) (M 600 x) 5 a = 8 * hb (rf M x) (M 600 x) (a + 1) + 8 := rfl; have hbB : hb (rf M x) (M 600 x) (a + 1) = M 601 (400 * x + (a + 1)) := hb_i (by omega) (by omega); have e1 : hsF (rf M x) (M 600 x) 0 3 5 a = 0 := (by rw [msF, if_neg (by omega), if_neg (by omega), if_neg (by omega), if_neg (by omega), if_neg (by omega), if_neg (by omega)]); exact Or.inr ⟨e1, by omega, by omega, rfl, rfl, rfl⟩⟩ (by omega) (fun a i f598 => rfl) (fun i g10 g11 g12 => rfl))
        · refine jr.aload_n rfl rfl ?_
          refine jr.iconst rfl ?_
          refine jr.iload rfl rfl ?_
          refine jr.iload_n rfl rfl ?_
          refine jr_v rfl rfl (Or.inl rfl) rfl rfl (by decide) rfl ⟨rfl, Nat.le_of_ble_eq_true rfl, Nat.le_of_ble_eq_true rfl⟩ rfl (jc.deep (r_finds_x hI_M hH_M hS_M  (by omega) (by omega) (by omega)  (fun M3 hI_M3 hH_M3 hS_M3  w3_0 w3_1 w3_2 => ?_)) (by decide))
          refine jr.iconst rfl ?_
          exact jr.ireturn rfl rfl rfl (q _ _ hI_M3 hH_M3 hS_M3  (by omega) ⟨by omega, by have hn := e1; have hzK : hsZ (rf M x) (M 600 x) 5 a = 8 * hb (rf M x) (M 600 x) (a + 1) + 8 := rfl; first | (have e1 : hsF (rf M x) (M 600 x) 0 3 5 a = 1 := (by rw [msF, if_neg (by omega), if_neg (by omega), if_pos (by omega)]); have e2 : hsW (rf M x) (M 600 x) 0 3 5 a = M 600 x := (by rw [msW, if_neg (by omega), if_neg (by omega), if_pos (by omega)]); exact Or.inl ⟨by omega, by omega, by omega, by omega, by omega⟩) | (have hbB : hb (rf M x) (M 600 x) (a + 1) = M 601 (400 * x + (a + 1)) := hb_i (by omega) (by omega); have e1 : hsF (rf M x) (M 600 x) 0 3 5 a = 1 := (by rw [msF, if_neg (by omega), if_neg (by omega), if_neg (by omega), if_neg (by omega), if_pos (by omega)]); have e2 : hsW (rf M x) (M 600 x) 0 3 5 a = M 600 x := (by rw [msW, if_neg (by omega), if_neg (by omega), if_neg (by omega), if_neg (by omega), if_pos (by omega)]); exact Or.inl ⟨by omega, by omega, by omega, by omega, by omega⟩)⟩ (by omega) (fun a i f598 => ((w3_1 a i f598).trans rfl)) (fun i g10 g11 g12 => ((w3_2 i g10 g11 g12).trans rfl)))
      · refine jr.bipush rfl (by decide) ?_
        refine jr.aload_n rfl rfl ?_
        refine jr.iload_n rfl rfl ?_
        refine jr.iload_n rfl rfl ?_
        refine jr.iconst rfl ?_
        refine jr.iadd rfl ?_
        refine jr_v rfl rfl (Or.inl rfl) rfl rfl (by decide) rfl ⟨rfl, Nat.le_of_ble_eq_true rfl, Nat.le_of_ble_eq_true rfl⟩ rfl (jc.deep (r_one hI_M hH_M hS_M (Kp.rfl _) (by omega) (by omega)  (fun r4 z4 w4_0 => ?_)) (by decide))
        refine jr.imul rfl ?_
        refine jr.bipush rfl (by decide) ?_
        refine jr.iadd rfl ?_
        refine jr.istore (ls' := [_, _, _, _, _, _]) rfl (by decide) rfl ?_
        refine jr.iload_n rfl rfl ?_
        refine jr.iload rfl rfl ?_
        refine jr.iadd rfl ?_
        refine jr.iload rfl rfl ?_
        refine jr.icmp_le rfl rfl (by omega) (by omega) (fun h114 => ?_) (fun h114 => ?_)
        · refine jr.iload_n rfl rfl ?_
          refine jr.iconst rfl ?_
          refine jr.icmp_eq rfl rfl (by omega) (by omega) (fun h => absurd h (by decide)) (fun _ => ?_)
          refine jr.iload_n rfl rfl ?_
          refine jr.bipush rfl (by decide) ?_
          refine jr.icmp_ne rfl rfl (by omega) (by omega) (fun _ => ?_) (fun h => absurd (by decide) h)
          refine jr.iload_n rfl rfl ?_
          refine jr.iconst rfl ?_
          refine jr.icmp_eq rfl rfl (by omega) (by omega) (fun h => absurd h (by decide)) (fun _ => ?_)
          refine jr.iload_n rfl rfl ?_
          refine jr.iconst rfl ?_
          refine jr.icmp_ne rfl rfl (by omega) (by omega) (fun _ => ?_) (fun h => absurd (by decide) h)
          refine jr.iload_n rfl rfl ?_
          refine jr.bipush rfl (by decide) ?_
          refine jr.icmp_ne rfl rfl (by omega) (by omega) (fun _ => ?_) (fun h => absurd (by decide) h)
          refine jr.iconst rfl ?_
          refine jr.istore (ls' := [_, _, _, _, _, _, _]) rfl (by decide) rfl ?_
          refine jr.iload_n rfl rfl ?_
          refine jr.iconst rfl ?_
          refine jr.icmp_ne rfl rfl (by omega) (by omega) (fun _ => ?_) (fun h => absurd (by decide) h)
          refine jr.iload rfl rfl ?_
          refine jr.iload_n rfl rfl ?_
          refine jr.isub rfl ?_
          refine jr.istore (ls' := [_, _, _, _, _, _, _, _]) rfl (by decide) rfl ?_
          refine jr.iload rfl rfl ?_
          refine jr.iconst rfl ?_
          refine jr.icmp_eq rfl rfl (by omega) (by omega) (fun _ => ?_) (fun h => absurd (by decide) h)
          refine jr.iload rfl rfl ?_
          exact jr.ireturn rfl rfl rfl (q _ _ hI_M hH_M hS_M  (by omega) ⟨by omega, by have hn := e1; have hzK : hsZ (rf M x) (M 600 x) 5 a = 8 * hb (rf M x) (M 600 x) (a + 1) + 8 := rfl; have hbB : hb (rf M x) (M 600 x) (a + 1) = M 601 (400 * x + (a + 1)) := hb_i (by omega) (by omega); have e1 : hsF (rf M x) (M 600 x) 0 3 5 a = 0 := (by rw [msF, if_neg (by omega), if_neg (by omega), if_neg (by omega), if_neg (by omega), if_neg (by omega), if_neg (by omega)]); exact Or.inr ⟨e1, by omega, by omega, rfl, rfl, rfl⟩⟩ (by omega) (fun a i f598 => rfl) (fun i g10 g11 g12 => rfl))
        · refine jr.aload_n rfl rfl ?_
          refine jr.iconst rfl ?_
          refine jr.iload rfl rfl ?_
          refine jr.iload_n rfl rfl ?_
          refine jr_v rfl rfl (Or.inl rfl) rfl rfl (by decide) rfl ⟨rfl, Nat.le_of_ble_eq_true rfl, Nat.le_of_ble_eq_true rfl⟩ rfl (jc.deep (r_finds_x hI_M hH_M hS_M  (by omega) (by omega) (by omega)  (fun M5 hI_M5 hH_M5 hS_M5  w5_0 w5_1 w5_2 => ?_)) (by decide))
          refine jr.iconst rfl ?_
          exact jr.ireturn rfl rfl rfl (q _ _ hI_M5 hH_M5 hS_M5  (by omega) ⟨by omega, by have hn := e1; have hzK : hsZ (rf M x) (M 600 x) 5 a = 8 * hb (rf M x) (M 600 x) (a + 1) + 8 := rfl; first | (have e1 : hsF (rf M x) (M 600 x) 0 3 5 a = 1 := (by rw [msF, if_neg (by omega), if_neg (by omega), if_pos (by omega)]); have e2 : hsW (rf M x) (M 600 x) 0 3 5 a = M 600 x := (by rw [msW, if_neg (by omega), if_neg (by omega), if_pos (by omega)]); exact Or.inl ⟨by omega, by omega, by omega, by omega, by omega⟩) | (have hbB : hb (rf M x) (M 600 x) (a + 1) = M 601 (400 * x + (a + 1)) := hb_i (by omega) (by omega); have e1 : hsF (rf M x) (M 600 x) 0 3 5 a = 1 := (by rw [msF, if_neg (by omega), if_neg (by omega), if_neg (by omega), if_neg (by omega), if_pos (by omega)]); have e2 : hsW (rf M x) (M 600 x) 0 3 5 a = M 600 x := (by rw [msW, if_neg (by omega), if_neg (by omega), if_neg (by omega), if_neg (by omega), if_pos (by omega)]); exact Or.inl ⟨by omega, by omega, by omega, by omega, by omega⟩)⟩ (by omega) (fun a i f598 => ((w5_1 a i f598).trans rfl)) (fun i g10 g11 g12 => ((w5_2 i g10 g11 g12).trans rfl)))
    · refine jr.aload_n rfl rfl ?_
      refine jr.iconst rfl ?_
      refine jr.iload rfl rfl ?_
      refine jr.iload_n rfl rfl ?_
      refine jr_v rfl rfl (Or.inl rfl) rfl rfl (by decide) rfl ⟨rfl, Nat.le_of_ble_eq_true rfl, Nat.le_of_ble_eq_true rfl⟩ rfl (jc.deep (r_finds_x hI_M hH_M hS_M  (by omega) (by omega) (by omega)  (fun M6 hI_M6 hH_M6 hS_M6  w6_0 w6_1 w6_2 => ?_)) (by decide))
      refine jr.iconst rfl ?_
      exact jr.ireturn rfl rfl rfl (q _ _ hI_M6 hH_M6 hS_M6  (by omega) ⟨by omega, by have hn := e1; have e1 : hsF (rf M x) (M 600 x) 0 3 5 a = 1 := (by rw [msF, if_neg (by omega), if_neg (by omega), if_pos (by omega)]); have e2 : hsW (rf M x) (M 600 x) 0 3 5 a = M 600 x := (by rw [msW, if_neg (by omega), if_neg (by omega), if_pos (by omega)]); exact Or.inl ⟨by omega, by omega, by omega, by omega, by omega⟩⟩ (by omega) (fun a i f598 => ((w6_1 a i f598).trans rfl)) (fun i g10 g11 g12 => ((w6_2 i g10 g11 g12).trans rfl)))
  · have lk : lst 6 = 8 := rfl
    have lh : hls 6 = 8 := rfl
    have lr : lsr 6 = 8 := rfl
    refine jc_of (m := xm_262) rfl (Nat.le_of_ble_eq_true rfl) rfl ?_
    refine jr.aload_n rfl rfl ?_
    refine jr.getf (i := 3) (v := .ref 600) rfl rfl (by decide) rfl (by decide) rfl rfl rfl rfl ?_
    refine jr.iload_n rfl rfl ?_
    obtain ⟨v1, e1⟩ : ∃ z, M 600 x = z := ⟨_, rfl⟩
    have b1 : (-1) ≤ v1 ∧ v1 ≤ 400 := by rw [← e1]; exact (by have q := hI_M 600 x (by decide); rw [xri_row rfl rfl] at q; exact q)
    refine jr.iald (i := x) (x := v1) rfl (by decide) rfl (by decide) (by omega) (by omega) e1 ?_
    refine jr.istore (ls' := [_, _, _, _, _]) rfl (by decide) rfl ?_
    refine jr.iload_n rfl rfl ?_
    refine jr.iload rfl rfl ?_
    refine jr.icmp_lt rfl rfl (by omega) (by omega) (fun h11 => ?_) (fun h11 => ?_)
    · refine jr.iload_n rfl rfl ?_
      refine jr.iconst rfl ?_
      refine jr.icmp_ne rfl rfl (by omega) (by omega) (fun _ => ?_) (fun h => absurd (by decide) h)
      refine jr.iload_n rfl rfl ?_
      refine jr.iconst rfl ?_
      refine jr.icmp_ne rfl rfl (by omega) (by omega) (fun _ => ?_) (fun h => absurd (by decide) h)
      refine jr.iload_n rfl rfl ?_
      refine jr_s rfl rfl (Or.inl rfl) ⟨Nat.le_of_ble_eq_true rfl, Nat.le_of_ble_eq_true rfl⟩ rfl rfl (jc.deep (r_least_x hI_M hH_M hS_M  (by omega)  (fun r2 z2 w2_0 => ?_)) (by decide))
      refine jr.istore (ls' := [_, _, _, _, _, _]) rfl (by decide) rfl ?_
      refine jr.iload_n rfl rfl ?_
      refine jr.iconst rfl ?_
      refine jr.icmp_eq rfl rfl (by omega) (by omega) (fun h => absurd h (by decide)) (fun _ => ?_)
      refine jr.iload_n rfl rfl ?_
      refine jr.iconst rfl ?_
      refine jr.icmp_ne rfl rfl (by omega) (by omega) (fun _ => ?_) (fun h => absurd (by decide) h)
      refine jr.iload_n rfl rfl ?_
      refine jr.iload rfl rfl ?_
      refine jr.iadd rfl ?_
      refine jr.iload rfl rfl ?_
      refine jr.icmp_le rfl rfl (by omega) (by omega) (fun h114 => ?_) (fun h114 => ?_)
      · refine jr.iload_n rfl rfl ?_
        refine jr.iconst rfl ?_
        refine jr.icmp_eq rfl rfl (by omega) (by omega) (fun h => absurd h (by decide)) (fun _ => ?_)
        refine jr.iload_n rfl rfl ?_
        refine jr.bipush rfl (by decide) ?_
        refine jr.icmp_ne rfl rfl (by omega) (by omega) (fun _ => ?_) (fun h => absurd (by decide) h)
        refine jr.iload_n rfl rfl ?_
        refine jr.iconst rfl ?_
        refine jr.icmp_eq rfl rfl (by omega) (by omega) (fun h => absurd h (by decide)) (fun _ => ?_)
        refine jr.iload_n rfl rfl ?_
        refine jr.iconst rfl ?_
        refine jr.icmp_ne rfl rfl (by omega) (by omega) (fun _ => ?_) (fun h => absurd (by decide) h)
        refine jr.iload_n rfl rfl ?_
        refine jr.bipush rfl (by decide) ?_
        refine jr.icmp_ne rfl rfl (by omega) (by omega) (fun _ => ?_) (fun h => absurd (by decide) h)
        refine jr.iconst rfl ?_
        refine jr.istore (ls' := [_, _, _, _, _, _, _]) rfl (by decide) rfl ?_
        refine jr.iload_n rfl rfl ?_
        refine jr.iconst rfl ?_
        refine jr.icmp_ne rfl rfl (by omega) (by omega) (fun _ => ?_) (fun h => absurd (by decide) h)
        refine jr.iload rfl rfl ?_
        refine jr.iload_n rfl rfl ?_
        refine jr.isub rfl ?_
        refine jr.istore (ls' := [_, _, _, _, _, _, _, _]) rfl (by decide) rfl ?_
        refine jr.iload rfl rfl ?_
        refine jr.iconst rfl ?_
        refine jr.icmp_eq rfl rfl (by omega) (by omega) (fun _ => ?_) (fun h => absurd (by decide) h)
        refine jr.iload rfl rfl ?_
        exact jr.ireturn rfl rfl rfl (q _ _ hI_M hH_M hS_M  (by omega) ⟨by omega, by have hn := e1; have hzK : hsZ (rf M x) (M 600 x) 6 a = 8 := rfl; have e1 : hsF (rf M x) (M 600 x) 0 3 6 a = 0 := (by rw [msF, if_neg (by omega), if_neg (by omega), if_neg (by omega), if_neg (by omega), if_neg (by omega), if_neg (by omega)]); exact Or.inr ⟨e1, by omega, by omega, rfl, rfl, rfl⟩⟩ (by omega) (fun a i f598 => rfl) (fun i g10 g11 g12 => rfl))
      · refine jr.aload_n rfl rfl ?_
        refine jr.iconst rfl ?_
        refine jr.iload rfl rfl ?_
        refine jr.iload_n rfl rfl ?_
        refine jr_v rfl rfl (Or.inl rfl) rfl rfl (by decide) rfl ⟨rfl, Nat.le_of_ble_eq_true rfl, Nat.le_of_ble_eq_true rfl⟩ rfl (jc.deep (r_finds_x hI_M hH_M hS_M  (by omega) (by omega) (by omega)  (fun M3 hI_M3 hH_M3 hS_M3  w3_0 w3_1 w3_2 => ?_)) (by decide))
        refine jr.iconst rfl ?_
        exact jr.ireturn rfl rfl rfl (q _ _ hI_M3 hH_M3 hS_M3  (by omega) ⟨by omega, by have hn := e1; have hzK : hsZ (rf M x) (M 600 x) 6 a = 8 := rfl; have e1 : hsF (rf M x) (M 600 x) 0 3 6 a = 1 := (by rw [msF, if_neg (by omega), if_neg (by omega), if_pos (by omega)]); have e2 : hsW (rf M x) (M 600 x) 0 3 6 a = M 600 x := (by rw [msW, if_neg (by omega), if_neg (by omega), if_pos (by omega)]); exact Or.inl ⟨by omega, by omega, by omega, by omega, by omega⟩⟩ (by omega) (fun a i f598 => ((w3_1 a i f598).trans rfl)) (fun i g10 g11 g12 => ((w3_2 i g10 g11 g12).trans rfl)))
    · refine jr.aload_n rfl rfl ?_
      refine jr.iconst rfl ?_
      refine jr.iload rfl rfl ?_
      refine jr.iload_n rfl rfl ?_
      refine jr_v rfl rfl (Or.inl rfl) rfl rfl (by decide) rfl ⟨rfl, Nat.le_of_ble_eq_true rfl, Nat.le_of_ble_eq_true rfl⟩ rfl (jc.deep (r_finds_x hI_M hH_M hS_M  (by omega) (by omega) (by omega)  (fun M4 hI_M4 hH_M4 hS_M4  w4_0 w4_1 w4_2 => ?_)) (by decide))
      refine jr.iconst rfl ?_
      exact jr.ireturn rfl rfl rfl (q _ _ hI_M4 hH_M4 hS_M4  (by omega) ⟨by omega, by have hn := e1; have e1 : hsF (rf M x) (M 600 x) 0 3 6 a = 1 := (by rw [msF, if_neg (by omega), if_neg (by omega), if_pos (by omega)]); have e2 : hsW (rf M x) (M 600 x) 0 3 6 a = M 600 x := (by rw [msW, if_neg (by omega), if_neg (by omega), if_pos (by omega)]); exact Or.inl ⟨by omega, by omega, by omega, by omega, by omega⟩⟩ (by omega) (fun a i f598 => ((w4_1 a i f598).trans rfl)) (fun i g10 g11 g12 => ((w4_2 i g10 g11 g12).trans rfl)))
  · have lk : lst 7 = 8 := rfl
    have lh : hls 7 = 8 := rfl
    have lr : lsr 7 = 8 := rfl
    refine jc_of (m := xm_262) rfl (Nat.le_of_ble_eq_true rfl) rfl ?_
    refine jr.aload_n rfl rfl ?_
    refine jr.getf (i := 3) (v := .ref 600) rfl rfl (by decide) rfl (by decide) rfl rfl rfl rfl ?_
    refine jr.iload_n rfl rfl ?_
    obtain ⟨v1, e1⟩ : ∃ z, M 600 x = z := ⟨_, rfl⟩
    have b1 : (-1) ≤ v1 ∧ v1 ≤ 400 := by rw [← e1]; exact (by have q := hI_M 600 x (by decide); rw [xri_row rfl rfl] at q; exact q)
    refine jr.iald (i := x) (x := v1) rfl (by decide) rfl (by decide) (by omega) (by omega) e1 ?_
    refine jr.istore (ls' := [_, _, _, _, _]) rfl (by decide) rfl ?_
    refine jr.iload_n rfl rfl ?_
    refine jr.iload rfl rfl ?_
    refine jr.icmp_lt rfl rfl (by omega) (by omega) (fun h11 => ?_) (fun h11 => ?_)
    · refine jr.iload_n rfl rfl ?_
      refine jr.iconst rfl ?_
      refine jr.icmp_ne rfl rfl (by omega) (by omega) (fun _ => ?_) (fun h => absurd (by decide) h)
      refine jr.iload_n rfl rfl ?_
      refine jr.iconst rfl ?_
      refine jr.icmp_ne rfl rfl (by omega) (by omega) (fun _ => ?_) (fun h => absurd (by decide) h)
      refine jr.iload_n rfl rfl ?_
      refine jr_s rfl rfl (Or.inl rfl) ⟨Nat.le_of_ble_eq_true rfl, Nat.le_of_ble_eq_true rfl⟩ rfl rfl (jc.deep (r_least_x hI_M hH_M hS_M  (by omega)  (fun r2 z2 w2_0 => ?_)) (by decide))
      refine jr.istore (ls' := [_, _, _, _, _, _]) rfl (by decide) rfl ?_
      refine jr.iload_n rfl rfl ?_
      refine jr.iconst rfl ?_
      refine jr.icmp_eq rfl rfl (by omega) (by omega) (fun h => absurd h (by decide)) (fun _ => ?_)
      refine jr.iload_n rfl rfl ?_
      refine jr.iconst rfl ?_
      refine jr.icmp_ne rfl rfl (by omega) (by omega) (fun _ => ?_) (fun h => absurd (by decide) h)
      refine jr.iload_n rfl rfl ?_
      refine jr.iload rfl rfl ?_
      refine jr.iadd rfl ?_
      refine jr.iload rfl rfl ?_
      refine jr.icmp_le rfl rfl (by omega) (by omega) (fun h114 => ?_) (fun h114 => ?_)
      · refine jr.iload_n rfl rfl ?_
        refine jr.iconst rfl ?_
        refine jr.icmp_eq rfl rfl (by omega) (by omega) (fun h => absurd h (by decide)) (fun _ => ?_)
        refine jr.iload_n rfl rfl ?_
        refine jr.bipush rfl (by decide) ?_
        refine jr.icmp_ne rfl rfl (by omega) (by omega) (fun _ => ?_) (fun h => absurd (by decide) h)
        refine jr.iload_n rfl rfl ?_
        refine jr.iconst rfl ?_
        refine jr.icmp_eq rfl rfl (by omega) (by omega) (fun h => absurd h (by decide)) (fun _ => ?_)
        refine jr.iload_n rfl rfl ?_
        refine jr.iconst rfl ?_
        refine jr.icmp_ne rfl rfl (by omega) (by omega) (fun _ => ?_) (fun h => absurd (by decide) h)
        refine jr.iload_n rfl rfl ?_
        refine jr.bipush rfl (by decide) ?_
        refine jr.icmp_ne rfl rfl (by omega) (by omega) (fun _ => ?_) (fun h => absurd (by decide) h)
        refine jr.iconst rfl ?_
        refine jr.istore (ls' := [_, _, _, _, _, _, _]) rfl (by decide) rfl ?_
        refine jr.iload_n rfl rfl ?_
        refine jr.iconst rfl ?_
        refine jr.icmp_ne rfl rfl (by omega) (by omega) (fun _ => ?_) (fun h => absurd (by decide) h)
        refine jr.iload rfl rfl ?_
        refine jr.iload_n rfl rfl ?_
        refine jr.isub rfl ?_
        refine jr.istore (ls' := [_, _, _, _, _, _, _, _]) rfl (by decide) rfl ?_
        refine jr.iload rfl rfl ?_
        refine jr.iconst rfl ?_
        refine jr.icmp_eq rfl rfl (by omega) (by omega) (fun _ => ?_) (fun h => absurd (by decide) h)
        refine jr.iload rfl rfl ?_
        exact jr.ireturn rfl rfl rfl (q _ _ hI_M hH_M hS_M  (by omega) ⟨by omega, by have hn := e1; have hzK : hsZ (rf M x) (M 600 x) 7 a = 8 := rfl; have e1 : hsF (rf M x) (M 600 x) 0 3 7 a = 0 := (by rw [msF, if_neg (by omega), if_neg (by omega), if_neg (by omega), if_neg (by omega), if_neg (by omega), if_neg (by omega)]); exact Or.inr ⟨e1, by omega, by omega, rfl, rfl, rfl⟩⟩ (by omega) (fun a i f598 => rfl) (fun i g10 g11 g12 => rfl))
      · refine jr.aload_n rfl rfl ?_
        refine jr.iconst rfl ?_
        refine jr.iload rfl rfl ?_
        refine jr.iload_n rfl rfl ?_
        refine jr_v rfl rfl (Or.inl rfl) rfl rfl (by decide) rfl ⟨rfl, Nat.le_of_ble_eq_true rfl, Nat.le_of_ble_eq_true rfl⟩ rfl (jc.deep (r_finds_x hI_M hH_M hS_M  (by omega) (by omega) (by omega)  (fun M3 hI_M3 hH_M3 hS_M3  w3_0 w3_1 w3_2 => ?_)) (by decide))
        refine jr.iconst rfl ?_
        exact jr.ireturn rfl rfl rfl (q _ _ hI_M3 hH_M3 hS_M3  (by omega) ⟨by omega, by have hn := e1; have hzK : hsZ (rf M x) (M 600 x) 7 a = 8 := rfl; have e1 : hsF (rf M x) (M 600 x) 0 3 7 a = 1 := (by rw [msF, if_neg (by omega), if_neg (by omega), if_pos (by omega)]); have e2 : hsW (rf M x) (M 600 x) 0 3 7 a = M 600 x := (by rw [msW, if_neg (by omega), if_neg (by omega), if_pos (by omega)]); exact Or.inl ⟨by omega, by omega, by omega, by omega, by omega⟩⟩ (by omega) (fun a i f598 => ((w3_1 a i f598).trans rfl)) (fun i g10 g11 g12 => ((w3_2 i g10 g11 g12).trans rfl)))
    · refine jr.aload_n rfl rfl ?_
      refine jr.iconst rfl ?_
      refine jr.iload rfl rfl ?_
      refine jr.iload_n rfl rfl ?_
      refine jr_v rfl rfl (Or.inl rfl) rfl rfl (by decide) rfl ⟨rfl, Nat.le_of_ble_eq_true rfl, Nat.le_of_ble_eq_true rfl⟩ rfl (jc.deep (r_finds_x hI_M hH_M hS_M  (by omega) (by omega) (by omega)  (fun M4 hI_M4 hH_M4 hS_M4  w4_0 w4_1 w4_2 => ?_)) (by decide))
      refine jr.iconst rfl ?_
      exact jr.ireturn rfl rfl rfl (q _ _ hI_M4 hH_M4 hS_M4  (by omega) ⟨by omega, by have hn := e1; have e1 : hsF (rf M x) (M 600 x) 0 3 7 a = 1 := (by rw [msF, if_neg (by omega), if_neg (by omega), if_pos (by omega)]); have e2 : hsW (rf M x) (M 600 x) 0 3 7 a = M 600 x := (by rw [msW, if_neg (by omega), if_neg (by omega), if_pos (by omega)]); exact Or.inl ⟨by omega, by omega, by omega, by omega, by omega⟩⟩ (by omega) (fun a i f598 => ((w4_1 a i f598).trans rfl)) (fun i g10 g11 g12 => ((w4_2 i g10 g11 g12).trans rfl)))
  · have lk : lst 8 = 20 := rfl
    have lh : hls 8 = 20 := rfl
    have lr : lsr 8 = 20 := rfl
    refine jc_of (m := xm_262) rfl (Nat.le_of_ble_eq_true rfl) rfl ?_
    refine jr.aload_n rfl rfl ?_
    refine jr.getf (i := 3) (v := .ref 600) rfl rfl (by decide) rfl (by decide) rfl rfl rfl rfl ?_
    refine jr.iload_n rfl rfl ?_
    obtain ⟨v1, e1⟩ : ∃ z, M 600 x = z := ⟨_, rfl⟩
    have b1 : (-1) ≤ v1 ∧ v1 ≤ 400 := by rw [← e1]; exact (by have q := hI_M 600 x (by decide); rw [xri_row rfl rfl] at q; exact q)
    refine jr.iald (i := x) (x := v1) rfl (by decide) rfl (by decide) (by omega) (by omega) e1 ?_
    refine jr.istore (ls' := [_, _, _, _, _]) rfl (by decide) rfl ?_
    refine jr.iload_n rfl rfl ?_
    refine jr.iload rfl rfl ?_
    refine jr.icmp_lt rfl rfl (by omega) (by omega) (fun h11 => ?_) (fun h11 => ?_)
    · refine jr.iload_n rfl rfl ?_
      refine jr.iconst rfl ?_
      refine jr.icmp_ne rfl rfl (by omega) (by omega) (fun _ => ?_) (fun h => absurd (by decide) h)
      refine jr.iload_n rfl rfl ?_
      refine jr.iconst rfl ?_
      refine jr.icmp_ne rfl rfl (by omega) (by omega) (fun _ => ?_) (fun h => absurd (by decide) h)
      refine jr.iload_n rfl rfl ?_
      refine jr_s rfl rfl (Or.inl rfl) ⟨Nat.le_of_ble_eq_true rfl, Nat.le_of_ble_eq_true rfl⟩ rfl rfl (jc.deep (r_least_x hI_M hH_M hS_M  (by omega)  (fun r2 z2 w2_0 => ?_)) (by decide))
      refine jr.istore (ls' := [_, _, _, _, _, _]) rfl (by decide) rfl ?_
      refine jr.iload_n rfl rfl ?_
      refine jr.iconst rfl ?_
      refine jr.icmp_eq rfl rfl (by omega) (by omega) (fun h => absurd h (by decide)) (fun _ => ?_)
      refine jr.iload_n rfl rfl ?_
      refine jr.iconst rfl ?_
      refine jr.icmp_ne rfl rfl (by omega) (by omega) (fun _ => ?_) (fun h => absurd (by decide) h)
      refine jr.iload_n rfl rfl ?_
      refine jr.iload rfl rfl ?_
      refine jr.iadd rfl ?_
      refine jr.iload rfl rfl ?_
      refine jr.icmp_le rfl rfl (by omega) (by omega) (fun h114 => ?_) (fun h114 => ?_)
      · refine jr.iload_n rfl rfl ?_
        refine jr.iconst rfl ?_
        refine jr.icmp_eq rfl rfl (by omega) (by omega) (fun h => absurd h (by decide)) (fun _ => ?_)
        refine jr.iload_n rfl rfl ?_
        refine jr.bipush rfl (by decide) ?_
        refine jr.icmp_ne rfl rfl (by omega) (by omega) (fun h => absurd h (by decide)) (fun _ => ?_)
        refine jr.iload_n rfl rfl ?_
        refine jr.iconst rfl ?_
        refine jr.icmp_ne rfl rfl (by omega) (by omega) (fun _ => ?_) (fun h => absurd (by decide) h)
        refine jr.iload_n rfl rfl ?_
        refine jr.bipush rfl (by decide) ?_
        refine jr.iadd rfl ?_
        refine jr.istore (ls' := [_, _, _, _, _, _, _]) rfl (by decide) rfl ?_
        refine jr.iload_n rfl rfl ?_
        refine jr.iconst rfl ?_
        refine jr.icmp_ne rfl rfl (by omega) (by omega) (fun _ => ?_) (fun h => absurd (by decide) h)
        refine jr.aload_n rfl rfl ?_
        refine jr.iload_n rfl rfl ?_
        refine jr.iload rfl rfl ?_
        refine jr_v rfl rfl (Or.inl rfl) rfl rfl (by decide) rfl ⟨rfl, Nat.le_of_ble_eq_true rfl, Nat.le_of_ble_eq_true rfl⟩ rfl (jc.deep (r_one hI_M hH_M hS_M (Kp.rfl _) (by omega) (by omega)  (fun r3 z3 w3_0 => ?_)) (by decide))
        refine jr.iconst rfl ?_
        refine jr.ishr rfl ?_
        have b4 : j_shr r3 4 = r3 / 16 := j_shr_ex 4 (by decide) (by omega) (by omega)
        generalize j_shr r3 4 = v4 at b4 ⊢
        refine jr.istore (ls' := [_, _, _, _, _, _, _, _]) rfl (by decide) rfl ?_
        refine jr.iload rfl rfl ?_
        refine jr.iconst rfl ?_
        refine jr.icmp_ge rfl rfl (by omega) (by omega) (fun h185 => ?_) (fun h185 => ?_)
        · refine jr.iconst rfl ?_
          refine jr.iload rfl rfl ?_
          refine jr.imul rfl ?_
          refine jr.istore (ls' := [_, _, _, _, _, _, _, _]) rfl (by decide) rfl ?_
          refine jr.iload_n rfl rfl ?_
          refine jr.iload rfl rfl ?_
          refine jr.iadd rfl ?_
          refine jr.iload rfl rfl ?_
          refine jr.icmp_le rfl rfl (by omega) (by omega) (fun h210 => ?_) (fun h210 => ?_)
          · refine jr.iload_n rfl rfl ?_
            refine jr.iconst rfl ?_
            refine jr.icmp_eq rfl rfl (by omega) (by omega) (fun h => absurd h (by decide)) (fun _ => ?_)
            refine jr.iload_n rfl rfl ?_
            refine jr.iconst rfl ?_
            refine jr.icmp_ne rfl rfl (by omega) (by omega) (fun _ => ?_) (fun h => absurd (by decide) h)
            refine jr.iload_n rfl rfl ?_
            refine jr.bipush rfl (by decide) ?_
            refine jr.icmp_ne rfl rfl (by omega) (by omega) (fun _ => ?_) (fun h => absurd (by decide) h)
            refine jr.iconst rfl ?_
            refine jr.istore (ls' := [_, _, _, _, _, _, _, _]) rfl (by decide) rfl ?_
            refine jr.iload_n rfl rfl ?_
            refine jr.iconst rfl ?_
            refine jr.icmp_ne rfl rfl (by omega) (by omega) (fun _ => ?_) (fun h => absurd (by decide) h)
            refine jr.iload rfl rfl ?_
            refine jr.iload_n rfl rfl ?_
            refine jr.isub rfl ?_
            refine jr.istore (ls' := [_, _, _, _, _, _, _, _]) rfl (by decide) rfl ?_
            refine jr.iload rfl rfl ?_
            refine jr.iconst rfl ?_
            refine jr.icmp_eq rfl rfl (by omega) (by omega) (fun _ => ?_) (fun h => absurd (by decide) h)
            refine jr.iload rfl rfl ?_
            exact jr.ireturn rfl rfl rfl (q _ _ hI_M hH_M hS_M  (by omega) ⟨by omega, by have hn := e1; have hzK : hsZ (rf M x) (M 600 x) 8 a = 4 * (hb (rf M x) (M 600 x) (a + 12) / 16) := rfl; have hbC : hb (rf M x) (M 600 x) (a + 12) = M 601 (400 * x + (a + 12)) := hb_i (by omega) (by omega); have e1 : hsF (rf M x) (M 600 x) 0 3 8 a = 0 := (by rw [msF, if_neg (by omega), if_neg (by omega), if_neg (by omega), if_neg (by omega), if_neg (by omega), if_neg (by omega)]); exact Or.inr ⟨e1, by omega, by omega, rfl, rfl, rfl⟩⟩ (by omega) (fun a i f598 => rfl) (fun i g10 g11 g12 => rfl))
          · refine jr.aload_n rfl rfl ?_
            refine jr.iconst rfl ?_
            refine jr.iload rfl rfl ?_
            refine jr.iload_n rfl rfl ?_
            refine jr_v rfl rfl (Or.inl rfl) rfl rfl (by decide) rfl ⟨rfl, Nat.le_of_ble_eq_true rfl, Nat.le_of_ble_eq_true rfl⟩ rfl (jc.deep (r_finds_x hI_M hH_M hS_M  (by omega) (by omega) (by omega)  (fun M5 hI_M5 hH_M5 hS_M5  w5_0 w5_1 w5_2 => ?_)) (by decide))
            refine jr.iconst rfl ?_
            exact jr.ireturn rfl rfl rfl (q _ _ hI_M5 hH_M5 hS_M5  (by omega) ⟨by omega, by have hn := e1; have hzK : hsZ (rf M x) (M 600 x) 8 a = 4 * (hb (rf M x) (M 600 x) (a + 12) / 16) := rfl; have hbC : hb (rf M x) (M 600 x) (a + 12) = M 601 (400 * x + (a + 12)) := hb_i (by omega) (by omega); have e1 : hsF (rf M x) (M 600 x) 0 3 8 a = 1 := (by rw [msF, if_neg (by omega), if_neg (by omega), if_neg (by omega), if_neg (by omega), if_pos (by omega)]); have e2 : hsW (rf M x) (M 600 x) 0 3 8 a = M 600 x := (by rw [msW, if_neg (by omega), if_neg (by omega), if_neg (by omega), if_neg (by omega), if_pos (by omega)]); exact Or.inl ⟨by omega, by omega, by omega, by omega, by omega⟩⟩ (by omega) (fun a i f598 => ((w5_1 a i f598).trans rfl)) (fun i g10 g11 g12 => ((w5_2 i g10 g11 g12).trans rfl)))
        · refine jr.aload_n rfl rfl ?_
          refine jr.iconst rfl ?_
          refine jr.iload rfl rfl ?_
          refine jr.iload_n rfl rfl ?_
          refine jr_v rfl rfl (Or.inl rfl) rfl rfl (by decide) rfl ⟨rfl, Nat.le_of_ble_eq_true rfl, Nat.le_of_ble_eq_true rfl⟩ rfl (jc.deep (r_finds_x hI_M hH_M hS_M  (by omega) (by omega) (by omega)  (fun M6 hI_M6 hH_M6 hS_M6  w6_0 w6_1 w6_2 => ?_)) (by decide))
          refine jr.iconst rfl ?_
          exact jr.ireturn rfl rfl rfl (q _ _ hI_M6 hH_M6 hS_M6  (by omega) ⟨by omega, by have hn := e1; have hzK : hsZ (rf M x) (M 600 x) 8 a = 4 * (hb (rf M x) (M 600 x) (a + 12) / 16) := rfl; have hbC : hb (rf M x) (M 600 x) (a + 12) = M 601 (400 * x + (a + 12)) := hb_i (by omega) (by omega); have e1 : hsF (rf M x) (M 600 x) 0 3 8 a = 4 := (by rw [msF, if_neg (by omega), if_neg (by omega), if_neg (by omega), if_pos (by omega)]); have e2 : hsW (rf M x) (M 600 x) 0 3 8 a = a + 12 := (by rw [msW, if_neg (by omega), if_neg (by omega), if_neg (by omega), if_pos (by omega)]; exact if_neg (by decide)); exact Or.inl ⟨by omega, by omega, by omega, by omega, by omega⟩⟩ (by omega) (fun a i f598 => ((w6_1 a i f598).trans rfl)) (fun i g10 g11 g12 => ((w6_2 i g10 g11 g12).trans rfl)))
      · refine jr.aload_n rfl rfl ?_
        refine jr.iconst rfl ?_
        refine jr.iload rfl rfl ?_
        refine jr.iload_n rfl rfl ?_
        refine jr_v rfl rfl (Or.inl rfl) rfl rfl (by decide) rfl ⟨rfl, Nat.le_of_ble_eq_true rfl, Nat.le_of_ble_eq_true rfl⟩ rfl (jc.deep (r_finds_x hI_M hH_M hS_M  (by omega) (by omega) (by omega)  (fun M7 hI_M7 hH_M7 hS_M7  w7_0 w7_1 w7_2 => ?_)) (by decide))
        refine jr.iconst rfl ?_
        exact jr.ireturn rfl rfl rfl (q _ _ hI_M7 hH_M7 hS_M7  (by omega) ⟨by omega, by have hn := e1; have hzK : hsZ (rf M x) (M 600 x) 8 a = 4 * (hb (rf M x) (M 600 x) (a + 12) / 16) := rfl; have e1 : hsF (rf M x) (M 600 x) 0 3 8 a = 1 := (by rw [msF, if_neg (by omega), if_neg (by omega), if_pos (by omega)]); have e2 : hsW (rf M x) (M 600 x) 0 3 8 a = M 600 x := (by rw [msW, if_neg (by omega), if_neg (by omega), if_pos (by omega)]); exact Or.inl ⟨by omega, by omega, by omega, by omega, by omega⟩⟩ (by omega) (fun a i f598 => ((w7_1 a i f598).trans rfl)) (fun i g10 g11 g12 => ((w7_2 i g10 g11 g12).trans rfl)))
    · refine jr.aload_n rfl rfl ?_
      refine jr.iconst rfl ?_
      refine jr.iload rfl rfl ?_
      refine jr.iload_n rfl rfl ?_
      refine jr_v rfl rfl (Or.inl rfl) rfl rfl (by decide) rfl ⟨rfl, Nat.le_of_ble_eq_true rfl, Nat.le_of_ble_eq_true rfl⟩ rfl (jc.deep (r_finds_x hI_M hH_M hS_M  (by omega) (by omega) (by omega)  (fun M8 hI_M8 hH_M8 hS_M8  w8_0 w8_1 w8_2 => ?_)) (by decide))
      refine jr.iconst rfl ?_
      exact jr.ireturn rfl rfl rfl (q _ _ hI_M8 hH_M8 hS_M8  (by omega) ⟨by omega, by have hn := e1; have e1 : hsF (rf M x) (M 600 x) 0 3 8 a = 1 := (by rw [msF, if_neg (by omega), if_neg (by omega), if_pos (by omega)]); have e2 : hsW (rf M x) (M 600 x) 0 3 8 a = M 600 x := (by rw [msW, if_neg (by omega), if_neg (by omega), if_pos (by omega)]); exact Or.inl ⟨by omega, by omega, by omega, by omega, by omega⟩⟩ (by omega) (fun a i f598 => ((w8_1 a i f598).trans rfl)) (fun i g10 g11 g12 => ((w8_2 i g10 g11 g12).trans rfl)))
  · have lk : lst 9 = 8 := rfl
    have lh : hls 9 = 8 := rfl
    have lr : lsr 9 = 8 := rfl
    refine jc_of (m := xm_262) rfl (Nat.le_of_ble_eq_true rfl) rfl ?_
    refine jr.aload_n rfl rfl ?_
    refine jr.getf (i := 3) (v := .ref 600) rfl rfl (by decide) rfl (by decide) rfl rfl rfl rfl ?_
    refine jr.iload_n rfl rfl ?_
    obtain ⟨v1, e1⟩ : ∃ z, M 600 x = z := ⟨_, rfl⟩
    have b1 : (-1) ≤ v1 ∧ v1 ≤ 400 := by rw [← e1]; exact (by have q := hI_M 600 x (by decide); rw [xri_row rfl rfl] at q; exact q)
    refine jr.iald (i := x) (x := v1) rfl (by decide) rfl (by decide) (by omega) (by omega) e1 ?_
    refine jr.istore (ls' := [_, _, _, _, _]) rfl (by decide) rfl ?_
    refine jr.iload_n rfl rfl ?_
    refine jr.iload rfl rfl ?_
    refine jr.icmp_lt rfl rfl (by omega) (by omega) (fun h11 => ?_) (fun h11 => ?_)
    · refine jr.iload_n rfl rfl ?_
      refine jr.iconst rfl ?_
      refine jr.icmp_ne rfl rfl (by omega) (by omega) (fun _ => ?_) (fun h => absurd (by decide) h)
      refine jr.iload_n rfl rfl ?_
      refine jr.iconst rfl ?_
      refine jr.icmp_ne rfl rfl (by omega) (by omega) (fun _ => ?_) (fun h => absurd (by decide) h)
      refine jr.iload_n rfl rfl ?_
      refine jr_s rfl rfl (Or.inl rfl) ⟨Nat.le_of_ble_eq_true rfl, Nat.le_of_ble_eq_true rfl⟩ rfl rfl (jc.deep (r_least_x hI_M hH_M hS_M  (by omega)  (fun r2 z2 w2_0 => ?_)) (by decide))
      refine jr.istore (ls' := [_, _, _, _, _, _]) rfl (by decide) rfl ?_
      refine jr.iload_n rfl rfl ?_
      refine jr.iconst rfl ?_
      refine jr.icmp_eq rfl rfl (by omega) (by omega) (fun h => absurd h (by decide)) (fun _ => ?_)
      refine jr.iload_n rfl rfl ?_
      refine jr.iconst rfl ?_
      refine jr.icmp_ne rfl rfl (by omega) (by omega) (fun _ => ?_) (fun h => absurd (by decide) h)
      refine jr.iload_n rfl rfl ?_
      refine jr.iload rfl rfl ?_
      refine jr.iadd rfl ?_
      refine jr.iload rfl rfl ?_
      refine jr.icmp_le rfl rfl (by omega) (by omega) (fun h114 => ?_) (fun h114 => ?_)
      · refine jr.iload_n rfl rfl ?_
        refine jr.iconst rfl ?_
        refine jr.icmp_eq rfl rfl (by omega) (by omega) (fun h => absurd h (by decide)) (fun _ => ?_)
        refine jr.iload_n rfl rfl ?_
        refine jr.bipush rfl (by decide) ?_
        refine jr.icmp_ne rfl rfl (by omega) (by omega) (fun _ => ?_) (fun h => absurd (by decide) h)
        refine jr.iload_n rfl rfl ?_
        refine jr.iconst rfl ?_
        refine jr.icmp_eq rfl rfl (by omega) (by omega) (fun h => absurd h (by decide)) (fun _ => ?_)
        refine jr.iload_n rfl rfl ?_
        refine jr.iconst rfl ?_
        refine jr.icmp_ne rfl rfl (by omega) (by omega) (fun _ => ?_) (fun h => absurd (by decide) h)
        refine jr.iload_n rfl rfl ?_
        refine jr.bipush rfl (by decide) ?_
        refine jr.icmp_ne rfl rfl (by omega) (by omega) (fun h => absurd h (by decide)) (fun _ => ?_)
        refine jr.iload_n rfl rfl ?_
        refine jr.iconst rfl ?_
        refine jr.iadd rfl ?_
        refine jr.goto rfl rfl ?_
        refine jr.istore (ls' := [_, _, _, _, _, _, _]) rfl (by decide) rfl ?_
        refine jr.iload_n rfl rfl ?_
        refine jr.iconst rfl ?_
        refine jr.icmp_ne rfl rfl (by omega) (by omega) (fun _ => ?_) (fun h => absurd (by decide) h)
        refine jr.iload rfl rfl ?_
        refine jr.iload_n rfl rfl ?_
        refine jr.isub rfl ?_
        refine jr.istore (ls' := [_, _, _, _, _, _, _, _]) rfl (by decide) rfl ?_
        refine jr.iload rfl rfl ?_
        refine jr.iconst rfl ?_
        refine jr.icmp_eq rfl rfl (by omega) (by omega) (fun h278 => ?_) (fun h278 => ?_)
        · exact absurd h278 (by omega)
        · refine jr.aload_n rfl rfl ?_
          refine jr.iload_n rfl rfl ?_
          refine jr.iload rfl rfl ?_
          refine jr_v rfl rfl (Or.inl rfl) rfl rfl (by decide) rfl ⟨rfl, Nat.le_of_ble_eq_true rfl, Nat.le_of_ble_eq_true rfl⟩ rfl (jc.deep (r_two_x hI_M hH_M hS_M  (by omega) (by omega)  (fun r3 z3 w3_0 => ?_)) (by decide))
          refine jr.iload rfl rfl ?_
          refine jr.icmp_eq rfl rfl (by omega) (by omega) (fun h290 => ?_) (fun h290 => ?_)
          · refine jr.iload rfl rfl ?_
            exact jr.ireturn rfl rfl rfl (q _ _ hI_M hH_M hS_M  (by omega) ⟨by omega, by have hn := e1; have hzK : hsZ (rf M x) (M 600 x) 9 a = 8 := rfl; have e1 : hsF (rf M x) (M 600 x) 0 3 9 a = 0 := (by rw [msF, if_neg (by omega), if_neg (by omega), if_neg (by omega), if_neg (by omega), if_neg (by omega), if_neg (by omega)]); exact Or.inr ⟨e1, by omega, by omega, rfl, rfl, rfl⟩⟩ (by omega) (fun a i f598 => rfl) (fun i g10 g11 g12 => rfl))
          · refine jr.aload_n rfl rfl ?_
            refine jr.iconst rfl ?_
            refine jr.iload rfl rfl ?_
            refine jr.iload_n rfl rfl ?_
            refine jr_v rfl rfl (Or.inl rfl) rfl rfl (by decide) rfl ⟨rfl, Nat.le_of_ble_eq_true rfl, Nat.le_of_ble_eq_true rfl⟩ rfl (jc.deep (r_finds_x hI_M hH_M hS_M  (by omega) (by omega) (by omega)  (fun M4 hI_M4 hH_M4 hS_M4  w4_0 w4_1 w4_2 => ?_)) (by decide))
            refine jr.iconst rfl ?_
            exact jr.ireturn rfl rfl rfl (q _ _ hI_M4 hH_M4 hS_M4  (by omega) ⟨by omega, by have hn := e1; have hzK : hsZ (rf M x) (M 600 x) 9 a = 8 := rfl; have e1 : hsF (rf M x) (M 600 x) 0 3 9 a = 5 := (by rw [msF, if_neg (by omega), if_neg (by omega), if_neg (by omega), if_neg (by omega), if_neg (by omega), if_pos (by omega)]); have e2 : hsW (rf M x) (M 600 x) 0 3 9 a = a + 4 := (by rw [msW, if_neg (by omega), if_neg (by omega), if_neg (by omega), if_neg (by omega), if_neg (by omega)]; exact if_pos rfl); exact Or.inl ⟨by omega, by omega, by omega, by omega, by omega⟩⟩ (by omega) (fun a i f598 => ((w4_1 a i f598).trans rfl)) (fun i g10 g11 g12 => ((w4_2 i g10 g11 g12).trans rfl)))
      · refine jr.aload_n rfl rfl ?_
        refine jr.iconst rfl ?_
        refine jr.iload rfl rfl ?_
        refine jr.iload_n rfl rfl ?_
        refine jr_v rfl rfl (Or.inl rfl) rfl rfl (by decide) rfl ⟨rfl, Nat.le_of_ble_eq_true rfl, Nat.le_of_ble_eq_true rfl⟩ rfl (jc.deep (r_finds_x hI_M hH_M hS_M  (by omega) (by omega) (by omega)  (fun M5 hI_M5 hH_M5 hS_M5  w5_0 w5_1 w5_2 => ?_)) (by decide))
        refine jr.iconst rfl ?_
        exact jr.ireturn rfl rfl rfl (q _ _ hI_M5 hH_M5 hS_M5  (by omega) ⟨by omega, by have hn := e1; have hzK : hsZ (rf M x) (M 600 x) 9 a = 8 := rfl; have e1 : hsF (rf M x) (M 600 x) 0 3 9 a = 1 := (by rw [msF, if_neg (by omega), if_neg (by omega), if_pos (by omega)]); have e2 : hsW (rf M x) (M 600 x) 0 3 9 a = M 600 x := (by rw [msW, if_neg (by omega), if_neg (by omega), if_pos (by omega)]); exact Or.inl ⟨by omega, by omega, by omega, by omega, by omega⟩⟩ (by omega) (fun a i f598 => ((w5_1 a i f598).trans rfl)) (fun i g10 g11 g12 => ((w5_2 i g10 g11 g12).trans rfl)))
    · refine jr.aload_n rfl rfl ?_
      refine jr.iconst rfl ?_
      refine jr.iload rfl rfl ?_
      refine jr.iload_n rfl rfl ?_
      refine jr_v rfl rfl (Or.inl rfl) rfl rfl (by decide) rfl ⟨rfl, Nat.le_of_ble_eq_true rfl, Nat.le_of_ble_eq_true rfl⟩ rfl (jc.deep (r_finds_x hI_M hH_M hS_M  (by omega) (by omega) (by omega)  (fun M6 hI_M6 hH_M6 hS_M6  w6_0 w6_1 w6_2 => ?_)) (by decide))
      refine jr.iconst rfl ?_
      exact jr.ireturn rfl rfl rfl (q _ _ hI_M6 hH_M6 hS_M6  (by omega) ⟨by omega, by have hn := e1; have e1 : hsF (rf M x) (M 600 x) 0 3 9 a = 1 := (by rw [msF, if_neg (by omega), if_neg (by omega), if_pos (by omega)]); have e2 : hsW (rf M x) (M 600 x) 0 3 9 a = M 600 x := (by rw [msW, if_neg (by omega), if_neg (by omega), if_pos (by omega)]); exact Or.inl ⟨by omega, by omega, by omega, by omega, by omega⟩⟩ (by omega) (fun a i f598 => ((w6_1 a i f598).trans rfl)) (fun i g10 g11 g12 => ((w6_2 i g10 g11 g12).trans rfl)))
  · have lk : lst 10 = 4 := rfl
    have lh : hls 10 = 4 := rfl
    have lr : lsr 10 = 4 := rfl
    refine jc_of (m := xm_262) rfl (Nat.le_of_ble_eq_true rfl) rfl ?_
    refine jr.aload_n rfl rfl ?_
    refine jr.getf (i := 3) (v := .ref 600) rfl rfl (by decide) rfl (by decide) rfl rfl rfl rfl ?_
    refine jr.iload_n rfl rfl ?_
    obtain ⟨v1, e1⟩ : ∃ z, M 600 x = z := ⟨_, rfl⟩
    have b1 : (-1) ≤ v1 ∧ v1 ≤ 400 := by rw [← e1]; exact (by have q := hI_M 600 x (by decide); rw [xri_row rfl rfl] at q; exact q)
    refine jr.iald (i := x) (x := v1) rfl (by decide) rfl (by decide) (by omega) (by omega) e1 ?_
    refine jr.istore (ls' := [_, _, _, _, _]) rfl (by decide) rfl ?_
    refine jr.iload_n rfl rfl ?_
    refine jr.iload rfl rfl ?_
    refine jr.icmp_lt rfl rfl (by omega) (by omega) (fun h11 => ?_) (fun h11 => ?_)
    · refine jr.iload_n rfl rfl ?_
      refine jr.iconst rfl ?_
      refine jr.icmp_ne rfl rfl (by omega) (by omega) (fun _ => ?_) (fun h => absurd (by decide) h)
      refine jr.iload_n rfl rfl ?_
      refine jr.iconst rfl ?_
      refine jr.icmp_ne rfl rfl (by omega) (by omega) (fun _ => ?_) (fun h => absurd (by decide) h)
      refine jr.iload_n rfl rfl ?_
      refine jr_s rfl rfl (Or.inl rfl) ⟨Nat.le_of_ble_eq_true rfl, Nat.le_of_ble_eq_true rfl⟩ rfl rfl (jc.deep (r_least_x hI_M hH_M hS_M  (by omega)  (fun r2 z2 w2_0 => ?_)) (by decide))
      refine jr.istore (ls' := [_, _, _, _, _, _]) rfl (by decide) rfl ?_
      refine jr.iload_n rfl rfl ?_
      refine jr.iconst rfl ?_
      refine jr.icmp_eq rfl rfl (by omega) (by omega) (fun h => absurd h (by decide)) (fun _ => ?_)
      refine jr.iload_n rfl rfl ?_
      refine jr.iconst rfl ?_
      refine jr.icmp_ne rfl rfl (by omega) (by omega) (fun _ => ?_) (fun h => absurd (by decide) h)
      refine jr.iload_n rfl rfl ?_
      refine jr.iload rfl rfl ?_
      refine jr.iadd rfl ?_
      refine jr.iload rfl rfl ?_
      refine jr.icmp_le rfl rfl (by omega) (by omega) (fun h114 => ?_) (fun h114 => ?_)
      · refine jr.iload_n rfl rfl ?_
        refine jr.iconst rfl ?_
        refine jr.icmp_eq rfl rfl (by omega) (by omega) (fun h => absurd h (by decide)) (fun _ => ?_)
        refine jr.iload_n rfl rfl ?_
        refine jr.bipush rfl (by decide) ?_
        refine jr.icmp_ne rfl rfl (by omega) (by omega) (fun _ => ?_) (fun h => absurd (by decide) h)
        refine jr.iload_n rfl rfl ?_
        refine jr.iconst rfl ?_
        refine jr.icmp_eq rfl rfl (by omega) (by omega) (fun h => absurd h (by decide)) (fun _ => ?_)
        refine jr.iload_n rfl rfl ?_
        refine jr.iconst rfl ?_
        refine jr.icmp_ne rfl rfl (by omega) (by omega) (fun _ => ?_) (fun h => absurd (by decide) h)
        refine jr.iload_n rfl rfl ?_
        refine jr.bipush rfl (by decide) ?_
        refine jr.icmp_ne rfl rfl (by omega) (by omega) (fun _ => ?_) (fun h => absurd (by decide) h)
        refine jr.iconst rfl ?_
        refine jr.istore (ls' := [_, _, _, _, _, _, _]) rfl (by decide) rfl ?_
        refine jr.iload_n rfl rfl ?_
        refine jr.iconst rfl ?_
        refine jr.icmp_ne rfl rfl (by omega) (by omega) (fun _ => ?_) (fun h => absurd (by decide) h)
        refine jr.iload rfl rfl ?_
        refine jr.iload_n rfl rfl ?_
        refine jr.isub rfl ?_
        refine jr.istore (ls' := [_, _, _, _, _, _, _, _]) rfl (by decide) rfl ?_
        refine jr.iload rfl rfl ?_
        refine jr.iconst rfl ?_
        refine jr.icmp_eq rfl rfl (by omega) (by omega) (fun _ => ?_) (fun h => absurd (by decide) h)
        refine jr.iload rfl rfl ?_
        exact jr.ireturn rfl rfl rfl (q _ _ hI_M hH_M hS_M  (by omega) ⟨by omega, by have hn := e1; have hzK : hsZ (rf M x) (M 600 x) 10 a = 4 := rfl; have e1 : hsF (rf M x) (M 600 x) 0 3 10 a = 0 := (by rw [msF, if_neg (by omega), if_neg (by omega), if_neg (by omega), if_neg (by omega), if_neg (by omega), if_neg (by omega)]); exact Or.inr ⟨e1, by omega, by omega, rfl, rfl, rfl⟩⟩ (by omega) (fun a i f598 => rfl) (fun i g10 g11 g12 => rfl))
      · refine jr.aload_n rfl rfl ?_
        refine jr.iconst rfl ?_
        refine jr.iload rfl rfl ?_
        refine jr.iload_n rfl rfl ?_
        refine jr_v rfl rfl (Or.inl rfl) rfl rfl (by decide) rfl ⟨rfl, Nat.le_of_ble_eq_true rfl, Nat.le_of_ble_eq_true rfl⟩ rfl (jc.deep (r_finds_x hI_M hH_M hS_M  (by omega) (by omega) (by omega)  (fun M3 hI_M3 hH_M3 hS_M3  w3_0 w3_1 w3_2 => ?_)) (by decide))
        refine jr.iconst rfl ?_
        exact jr.ireturn rfl rfl rfl (q _ _ hI_M3 hH_M3 hS_M3  (by omega) ⟨by omega, by have hn := e1; have hzK : hsZ (rf M x) (M 600 x) 10 a = 4 := rfl; have e1 : hsF (rf M x) (M 600 x) 0 3 10 a = 1 := (by rw [msF, if_neg (by omega), if_neg (by omega), if_pos (by omega)]); have e2 : hsW (rf M x) (M 600 x) 0 3 10 a = M 600 x := (by rw [msW, if_neg (by omega), if_neg (by omega), if_pos (by omega)]); exact Or.inl ⟨by omega, by omega, by omega, by omega, by omega⟩⟩ (by omega) (fun a i f598 => ((w3_1 a i f598).trans rfl)) (fun i g10 g11 g12 => ((w3_2 i g10 g11 g12).trans rfl)))
    · refine jr.aload_n rfl rfl ?_
      refine jr.iconst rfl ?_
      refine jr.iload rfl rfl ?_
      refine jr.iload_n rfl rfl ?_
      refine jr_v rfl rfl (Or.inl rfl) rfl rfl (by decide) rfl ⟨rfl, Nat.le_of_ble_eq_true rfl, Nat.le_of_ble_eq_true rfl⟩ rfl (jc.deep (r_finds_x hI_M hH_M hS_M  (by omega) (by omega) (by omega)  (fun M4 hI_M4 hH_M4 hS_M4  w4_0 w4_1 w4_2 => ?_)) (by decide))
      refine jr.iconst rfl ?_
      exact jr.ireturn rfl rfl rfl (q _ _ hI_M4 hH_M4 hS_M4  (by omega) ⟨by omega, by have hn := e1; have e1 : hsF (rf M x) (M 600 x) 0 3 10 a = 1 := (by rw [msF, if_neg (by omega), if_neg (by omega), if_pos (by omega)]); have e2 : hsW (rf M x) (M 600 x) 0 3 10 a = M 600 x := (by rw [msW, if_neg (by omega), if_neg (by omega), if_pos (by omega)]); exact Or.inl ⟨by omega, by omega, by omega, by omega, by omega⟩⟩ (by omega) (fun a i f598 => ((w4_1 a i f598).trans rfl)) (fun i g10 g11 g12 => ((w4_2 i g10 g11 g12).trans rfl)))
