section
/-! ===== the reference: hasEnds ===== -/
noncomputable def EN6 (M : jm) (f : Int → Int) (N C t h : Int) : Prop := ((M 598 59 = (if kA f N C t = 3 then 1 else 0) ∧ M 598 60 = nxk (kA f N C h)) ∧ (M 598 61 = adf f N C t 0 ∧ M 598 62 = adf f N C t 1) ∧ (M 598 63 = epf f N C h 0 ∧ M 598 64 = epf f N C h 1)) ∧ M 598 65 = h
theorem rN6 {M : jm} (h : RI M) {x : Int} (h1 : M 600 x ≠ -1) : 0 ≤ M 600 x ∧ M 600 x ≤ 400 := by
  have hq : (-1 : Int) ≤ M 600 x ∧ M 600 x ≤ 400 := by
    have q := h 600 x (by decide)
    rw [xri_row rfl rfl] at q
    exact q
  omega
theorem HQ6.f {M : jm} {f : Int → Int} {N : Int} (h : HQ6 M f N) : M 598 10 = 0 ↔ hX f N (M 598 6) = -1 := by
  have q := h.2.2
  constructor
  · intro u; omega
  · intro u; omega
noncomputable def HN6 (T M : jm) (x r : Int) : Prop := HT M (rf T x) (T 600 x) (M 598 6) ∧ (HE (rf T x) (T 600 x) (M 598 6) ∧ (M 598 10 = 0 ↔ hX (rf T x) (T 600 x) (M 598 6) = -1)) ∧ ((¬ heF (rf T x) (T 600 x) (M 598 6) (M 598 10) ∧ r = 0) ∨ (heF (rf T x) (T 600 x) (M 598 6) (M 598 10) ∧ r = 1 ∧ EN6 M (rf T x) (T 600 x) (M 598 6) (ntf (rf T x) (T 600 x) (M 598 6)) (inf (rf T x) (T 600 x) (M 598 6) (ntf (rf T x) (T 600 x) (M 598 6)))))
theorem HT.q {M M1 : jm} {f : Int → Int} {N C : Int} (h : HT M f N C) (g : ∀ (b : Nat) (i : Int), b ≠ 598 → M1 b i = M b i) (e6 : M1 598 6 = M 598 6) : HT M1 f N C := ⟨by rw [e6]; exact h.1, h.2.1.o g, h.2.2⟩
theorem EN6.m {M M1 : jm} {f : Int → Int} {N C t h : Int} (hh : HT M f N C) (ht : 0 ≤ t ∧ t < C) (hh2 : 0 ≤ h ∧ h < C) (e : (M1 598 59 = (if M 603 t = 3 then 1 else 0) ∧ M1 598 60 = nxk (M 603 h)) ∧ (M1 598 61 = adf f N C t 0 ∧ M1 598 62 = adf f N C t 1) ∧ (M1 598 63 = epf f N C h 0 ∧ M1 598 64 = epf f N C h 1)) (e5 : M1 598 65 = h) : EN6 M1 f N C t h := by
  rw [(HT.f hh ht).1, (HT.f hh hh2).1, ← kA_i ht, ← kA_i hh2] at e
  exact ⟨e, e5⟩
theorem r_hasEnds_L39_x {A : Nat → Option (Nat × (Nat → Int32))} {Q : Option Value → jm → Prop} {M0 : jm} {x0 : Int} (q : ∀ (r : Int) (M' : jm), RI M' → RH M' → RF M' → 0 ≤ r ∧ r ≤ 1 → (r = 0 ∨ RE M') → HN6 M0 M' x0 r → (∀ (a : Nat) (i : Int), a ≠ 598 → a ≠ 603 → a ≠ 604 → a ≠ 605 → M' a i = M0 a i) → (∀ (i : Int), i ≠ 6 → i ≠ 10 → i ≠ 11 → i ≠ 12 → i ≠ 59 → i ≠ 60 → i ≠ 61 → i ≠ 62 → i ≠ 63 → i ≠ 64 → i ≠ 65 → M' 598 i = M0 598 i) → Q (some (.int (Int32.ofInt r))) M') : ∀ (nM : Nat) (M : jm) (h : Int) (t : Int) (x : Int), RI M → RH M → RF M → (∀ (a : Nat) (i : Int), a ≠ 598 → a ≠ 603 → a ≠ 604 → a ≠ 605 → M a i = M0 a i) → (∀ (i : Int), i ≠ 6 → i ≠ 10 → i ≠ 11 → i ≠ 12 → i ≠ 59 → i ≠ 60 → i ≠ 61 → i ≠ 62 → i ≠ 63 → i ≠ 64 → i ≠ 65 → M 598 i = M0 598 i) → 1 ≤ h ∧ h ≤ 13 → 0 ≤ t ∧ t ≤ 11 → 0 ≤ x ∧ x ≤ 23 → t < M 598 6 → (M 603 t = 2 ∧ M 604 t ≤ 380 ∨ M 603 t = 3 ∧ M 604 t ≤ 376) → HT M (rf M0 x) (M0 600 x) (M 598 6) → HE (rf M0 x) (M0 600 x) (M 598 6) ∧ (M 598 10 = 0 ↔ hX (rf M0 x) (M0 600 x) (M 598 6) = -1) → (t = ntf (rf M0 x) (M0 600 x) (M 598 6) ∧ pcf (rf M0 x) (M0 600 x) (M 598 6) = -1 ∧ M 598 10 = 0) → inf (rf M0 x) (M0 600 x) (M 598 6) t = nxI (rf M0 x) (M0 600 x) (M 598 6 - h).toNat h → rf M x = rf M0 x → x = x0 → 13 - h ≤ nM → jr A 6 xm_302 39 [(3, .int (Int32.ofInt (h))), (2, .int (Int32.ofInt (t))), (1, .int (Int32.ofInt (x))), (0, .ref (598))] [] M Q := by
  intro nM
  induction nM using Nat.strongRecOn with
  | ind nM ih =>
    intro M h t x hI_M hH_M hS_M hF_M hG_M h_h h_t h_x hy0 hy1 hy2 hy3 hy4 hy5 hy6 hy7 hm
    subst hy7
    have rc := RH.car hH_M h
    refine jr.iload_n rfl rfl ?_
    refine jr.aload_n rfl rfl ?_
    obtain ⟨v1, e1⟩ : ∃ z, M 598 6 = z := ⟨_, rfl⟩
    have b1 : 0 ≤ v1 ∧ v1 ≤ 12 := by rw [← e1]; exact hI_M 598 6 (by decide)
    refine jr.getf (i := 6) (x := v1) (v := .int (Int32.ofInt (v1))) rfl rfl (by decide) rfl (by decide) rfl rfl e1 rfl ?_
    refine jr.icmp_ge rfl rfl (by omega) (by omega) (fun h44 => ?_) (fun h44 => ?_)
    · refine jr.iload_n rfl rfl ?_
      refine jr.aload_n rfl rfl ?_
      refine jr.getf (i := 6) (x := v1) (v := .int (Int32.ofInt (v1))) rfl rfl (by decide) rfl (by decide) rfl rfl e1 rfl ?_
      refine jr.icmp_ge rfl rfl (by omega) (by omega) (fun h78 => ?_) (fun h78 => ?_)
      · refine jr.iconst rfl ?_
        exact jr.ireturn rfl rfl rfl (q _ _ hI_M hH_M hS_M  (by omega) (Or.inl rfl) ⟨hy2, hy3, Or.inl ⟨(fun u => by have u3 := u.2.2.2; rw [← hy4.1, hy5] at u3; first | (rw [nxI_e (by have h9 := hy2.1; omega)] at u3; unfold kA at u3; rw [if_neg (by omega)] at u3; omega) | (have hc : 0 ≤ h ∧ h < M 598 6 := (by omega); have e : nxI (rf M0 x) (M0 600 x) (M 598 6 - h).toNat h = h := (by have hh := HT.f hy2 hc; rw [nxI_s hc.2, if_neg (by omega)]); have hh := HT.f hy2 hc; rw [e, kA_i hc] at u3; omega)), rfl⟩⟩ (fun a i f598 f603 f604 f605 => (hF_M a i f598 f603 f604 f605)) (fun i g6 g10 g11 g12 g59 g60 g61 g62 g63 g64 g65 => (hG_M i g6 g10 g11 g12 g59 g60 g61 g62 g63 g64 g65)))
      · refine jr.aload_n rfl rfl ?_
        refine jr.getf (i := 7) (v := .ref 603) rfl rfl (by decide) rfl (by decide) rfl rfl rfl rfl ?_
        refine jr.iload_n rfl rfl ?_
        obtain ⟨v2, e2⟩ : ∃ z, M 603 h = z := ⟨_, rfl⟩
        have b2 : 0 ≤ v2 ∧ v2 ≤ 11 := by rw [← e2]; exact (by have q := hI_M 603 h (by decide); rw [xri_row rfl rfl] at q; exact q)
        refine jr.iald (i := h) (x := v2) rfl (by decide) rfl (by decide) (by omega) (by omega) e2 ?_
        refine jr_s rfl rfl (Or.inl rfl) ⟨Nat.le_of_ble_eq_true rfl, Nat.le_of_ble_eq_true rfl⟩ rfl rfl (jc.deep (c_isCarried (by omega) (fun c87 => ?_) (fun c87 => ?_)) (by decide))
        · refine jr.if_ne rfl rfl (by omega) (fun _ => ?_) (fun h => absurd (by decide) h)
          refine jr.aload_n rfl rfl ?_
          refine jr.iload_n rfl rfl ?_
          refine jr.iload_n rfl rfl ?_
          refine jr.iload_n rfl rfl ?_
          obtain ⟨v4, e4⟩ : ∃ z, M 603 t = z := ⟨_, rfl⟩
          have b4 : 0 ≤ v4 ∧ v4 ≤ 11 := by rw [← e4]; exact (by have q := hI_M 603 t (by decide); rw [xri_row rfl rfl] at q; exact q)
          obtain ⟨v5, e5⟩ : ∃ z, M 604 t = z := ⟨_, rfl⟩
          have b5 : 0 ≤ v5 ∧ v5 ≤ 400 := by rw [← e5]; exact (by have q := hI_M 604 t (by decide); rw [xri_row rfl rfl] at q; exact q)
          obtain ⟨v6, e6⟩ : ∃ z, M 604 h = z := ⟨_, rfl⟩
          have b6 : 0 ≤ v6 ∧ v6 ≤ 400 := by rw [← e6]; exact (by have q := hI_M 604 h (by decide); rw [xri_row rfl rfl] at q; exact q)
          refine jr_v rfl rfl (Or.inl rfl) rfl rfl (by decide) rfl ⟨rfl, Nat.le_of_ble_eq_true rfl, Nat.le_of_ble_eq_true rfl⟩ rfl (jc.deep (r_takeEnds_x hI_M hH_M hS_M  (by omega) (by omega) (by omega) (by rw [e4, e5]; omega) (by rw [e2]; omega) (by rw [e6]; omega) hy2 hy6 ⟨⟨by omega, by omega⟩, ⟨by omega, by omega⟩⟩ (fun M3 hI_M3 hH_M3 hS_M3  w3_0 w3_1 w3_2 w3_3 w3_4 w3_5 => ?_)) (by decide))
          refine jr.iconst rfl ?_
          have e7 : M3 598 6 = v1 := ((w3_5 6 (by decide) (by decide) (by decide) (by decide) (by decide) (by decide) (by decide)).trans e1)
          have e8 : M3 603 h = v2 := ((w3_4 603 h (by decide)).trans e2)
          have e9 : M3 603 t = v4 := ((w3_4 603 t (by decide)).trans e4)
          exact jr.ireturn rfl rfl rfl (q _ _ hI_M3 hH_M3 hS_M3  (by omega) (Or.inr (RE.mk' w3_0 (by omega) (by rw [e7]; omega) (by rw [e8]; omega) (fun q => by rw [e8]; have z := w3_1 q; omega) w3_2 (t := t) (by omega) (by rw [e7]; omega) (by rw [e9]; omega))) (by have hc : 0 ≤ h ∧ h < M 598 6 := (by omega); have hh := HT.f hy2 hc; have e : nxI (rf M0 x) (M0 600 x) (M 598 6 - h).toNat h = h := (by rw [nxI_s hc.2, if_neg (by omega)]); have hin : inf (rf M0 x) (M0 600 x) (M 598 6) t = h := (by rw [hy5, e]); have e6 : M3 598 6 = M 598 6 := w3_5 6 (by decide) (by decide) (by decide) (by decide) (by decide) (by decide) (by decide); have e10 : M3 598 10 = M 598 10 := w3_5 10 (by decide) (by decide) (by decide) (by decide) (by decide) (by decide) (by decide); unfold HN6; rw [e6, e10, ← hy4.1, hin]; exact ⟨hy2.q w3_4 e6, hy3, Or.inr ⟨⟨hy4.2.2, by rw [← hy4.1]; omega, hy4.2.1, by rw [← hy4.1, hin, kA_i hc]; omega⟩, rfl, EN6.m hy2 (by omega) hc w3_3 w3_0⟩⟩) (fun a i f598 f603 f604 f605 => ((w3_4 a i f598).trans (hF_M a i f598 f603 f604 f605))) (fun i g6 g10 g11 g12 g59 g60 g61 g62 g63 g64 g65 => ((w3_5 i g59 g60 g61 g62 g63 g64 g65).trans (hG_M i g6 g10 g11 g12 g59 g60 g61 g62 g63 g64 g65))))
        · refine jr.if_ne rfl rfl (by omega) (fun h => absurd h (by decide)) (fun _ => ?_)
          refine jr.iconst rfl ?_
          exact jr.ireturn rfl rfl rfl (q _ _ hI_M hH_M hS_M  (by omega) (Or.inl rfl) ⟨hy2, hy3, Or.inl ⟨(fun u => by have u3 := u.2.2.2; rw [← hy4.1, hy5] at u3; first | (rw [nxI_e (by have h9 := hy2.1; omega)] at u3; unfold kA at u3; rw [if_neg (by omega)] at u3; omega) | (have hc : 0 ≤ h ∧ h < M 598 6 := (by omega); have e : nxI (rf M0 x) (M0 600 x) (M 598 6 - h).toNat h = h := (by have hh := HT.f hy2 hc; rw [nxI_s hc.2, if_neg (by omega)]); have hh := HT.f hy2 hc; rw [e, kA_i hc] at u3; omega)), rfl⟩⟩ (fun a i f598 f603 f604 f605 => (hF_M a i f598 f603 f604 f605)) (fun i g6 g10 g11 g12 g59 g60 g61 g62 g63 g64 g65 => (hG_M i g6 g10 g11 g12 g59 g60 g61 g62 g63 g64 g65)))
    · refine jr.aload_n rfl rfl ?_
      refine jr.getf (i := 7) (v := .ref 603) rfl rfl (by decide) rfl (by decide) rfl rfl rfl rfl ?_
      refine jr.iload_n rfl rfl ?_
      obtain ⟨v10, e10⟩ : ∃ z, M 603 h = z := ⟨_, rfl⟩
      have b10 : 0 ≤ v10 ∧ v10 ≤ 11 := by rw [← e10]; exact (by have q := hI_M 603 h (by decide); rw [xri_row rfl rfl] at q; exact q)
      refine jr.iald (i := h) (x := v10) rfl (by decide) rfl (by decide) (by omega) (by omega) e10 ?_
      refine jr.iconst rfl ?_
      refine jr.icmp_eq rfl rfl (by omega) (by omega) (fun h54 => ?_) (fun h54 => ?_)
      · refine jr.iinc rfl rfl (by decide) rfl ?_
        refine jr.goto rfl rfl ?_
        refine jr.pick [0, 1, 2, 3] rfl rfl ?_
        exact ih (nM - 1) (by omega) M (h + 1) t x hI_M hH_M hS_M  (fun a i f598 f603 f604 f605 => (hF_M a i f598 f603 f604 f605)) (fun i g6 g10 g11 g12 g59 g60 g61 g62 g63 g64 g65 => (hG_M i g6 g10 g11 g12 g59 g60 g61 g62 g63 g64 g65)) (by omega) (by omega) (by omega) (by omega) (by omega) hy2 hy3 hy4 (by have hc : 0 ≤ h ∧ h < M 598 6 := (by omega); have hh := HT.f hy2 hc; rw [hy5, nxI_s hc.2, if_pos (by omega)]) hy6 (by omega) (by omega)
      · refine jr.aload_n rfl rfl ?_
        refine jr.getf (i := 7) (v := .ref 603) rfl rfl (by decide) rfl (by decide) rfl rfl rfl rfl ?_
        refine jr.iload_n rfl rfl ?_
        refine jr.iald (i := h) (x := v10) rfl (by decide) rfl (by decide) (by omega) (by omega) e10 ?_
        refine jr.iconst rfl ?_
        refine jr.icmp_ne rfl rfl (by omega) (by omega) (fun h64 => ?_) (fun h64 => ?_)
        · refine jr.iload_n rfl rfl ?_
          refine jr.aload_n rfl rfl ?_
          refine jr.getf (i := 6) (x := v1) (v := .int (Int32.ofInt (v1))) rfl rfl (by decide) rfl (by decide) rfl rfl e1 rfl ?_
          refine jr.icmp_ge rfl rfl (by omega) (by omega) (fun h78 => ?_) (fun h78 => ?_)
          · refine jr.iconst rfl ?_
            exact jr.ireturn rfl rfl rfl (q _ _ hI_M hH_M hS_M  (by omega) (Or.inl rfl) ⟨hy2, hy3, Or.inl ⟨(fun u => by have u3 := u.2.2.2; rw [← hy4.1, hy5] at u3; first | (rw [nxI_e (by have h9 := hy2.1; omega)] at u3; unfold kA at u3; rw [if_neg (by omega)] at u3; omega) | (have hc : 0 ≤ h ∧ h < M 598 6 := (by omega); have e : nxI (rf M0 x) (M0 600 x) (M 598 6 - h).toNat h = h := (by have hh := HT.f hy2 hc; rw [nxI_s hc.2, if_neg (by omega)]); have hh := HT.f hy2 hc; rw [e, kA_i hc] at u3; omega)), rfl⟩⟩ (fun a i f598 f603 f604 f605 => (hF_M a i f598 f603 f604 f605)) (fun i g6 g10 g11 g12 g59 g60 g61 g62 g63 g64 g65 => (hG_M i g6 g10 g11 g12 g59 g60 g61 g62 g63 g64 g65)))
          · refine jr.aload_n rfl rfl ?_
            refine jr.getf (i := 7) (v := .ref 603) rfl rfl (by decide) rfl (by decide) rfl rfl rfl rfl ?_
            refine jr.iload_n rfl rfl ?_
            refine jr.iald (i := h) (x := v10) rfl (by decide) rfl (by decide) (by omega) (by omega) e10 ?_
            refine jr_s rfl rfl (Or.inl rfl) ⟨Nat.le_of_ble_eq_true rfl, Nat.le_of_ble_eq_true rfl⟩ rfl rfl (jc.deep (c_isCarried (by omega) (fun c87 => ?_) (fun c87 => ?_)) (by decide))
            · refine jr.if_ne rfl rfl (by omega) (fun _ => ?_) (fun h => absurd (by decide) h)
              refine jr.aload_n rfl rfl ?_
              refine jr.iload_n rfl rfl ?_
              refine jr.iload_n rfl rfl ?_
              refine jr.iload_n rfl rfl ?_
              obtain ⟨v12, e12⟩ : ∃ z, M 603 t = z := ⟨_, rfl⟩
              have b12 : 0 ≤ v12 ∧ v12 ≤ 11 := by rw [← e12]; exact (by have q := hI_M 603 t (by decide); rw [xri_row rfl rfl] at q; exact q)
              obtain ⟨v13, e13⟩ : ∃ z, M 604 t = z := ⟨_, rfl⟩
              have b13 : 0 ≤ v13 ∧ v13 ≤ 400 := by rw [← e13]; exact (by have q := hI_M 604 t (by decide); rw [xri_row rfl rfl] at q; exact q)
              obtain ⟨v14, e14⟩ : ∃ z, M 604 h = z := ⟨_, rfl⟩
              have b14 : 0 ≤ v14 ∧ v14 ≤ 400 := by rw [← e14]; exact (by have q := hI_M 604 h (by decide); rw [xri_row rfl rfl] at q; exact q)
              refine jr_v rfl rfl (Or.inl rfl) rfl rfl (by decide) rfl ⟨rfl, Nat.le_of_ble_eq_true rfl, Nat.le_of_ble_eq_true rfl⟩ rfl (jc.deep (r_takeEnds_x hI_M hH_M hS_M  (by omega) (by omega) (by omega) (by rw [e12, e13]; omega) (by rw [e10]; omega) (by rw [e14]; omega) hy2 hy6 ⟨⟨by omega, by omega⟩, ⟨by omega, by omega⟩⟩ (fun M11 hI_M11 hH_M11 hS_M11  w11_0 w11_1 w11_2 w11_3 w11_4 w11_5 => ?_)) (by decide))
              refine jr.iconst rfl ?_
              have e15 : M11 598 6 = v1 := ((w11_5 6 (by decide) (by decide) (by decide) (by decide) (by decide) (by decide) (by decide)).trans e1)
              have e16 : M11 603 h = v10 := ((w11_4 603 h (by decide)).trans e10)
              have e17 : M11 603 t = v12 := ((w11_4 603 t (by decide)).trans e12)
              exact jr.ireturn rfl rfl rfl (q _ _ hI_M11 hH_M11 hS_M11  (by omega) (Or.inr (RE.mk' w11_0 (by omega) (by rw [e15]; omega) (by rw [e16]; omega) (fun q => by rw [e16]; have z := w11_1 q; omega) w11_2 (t := t) (by omega) (by rw [e15]; omega) (by rw [e17]; omega))) (by have hc : 0 ≤ h ∧ h < M 598 6 := (by omega); have hh := HT.f hy2 hc; have e : nxI (rf M0 x) (M0 600 x) (M 598 6 - h).toNat h = h := (by rw [nxI_s hc.2, if_neg (by omega)]); have hin : inf (rf M0 x) (M0 600 x) (M 598 6) t = h := (by rw [hy5, e]); have e6 : M11 598 6 = M 598 6 := w11_5 6 (by decide) (by decide) (by decide) (by decide) (by decide) (by decide) (by decide); have e10 : M11 598 10 = M 598 10 := w11_5 10 (by decide) (by decide) (by decide) (by decide) (by decide) (by decide) (by decide); unfold HN6; rw [e6, e10, ← hy4.1, hin]; exact ⟨hy2.q w11_4 e6, hy3, Or.inr ⟨⟨hy4.2.2, by rw [← hy4.1]; omega, hy4.2.1, by rw [← hy4.1, hin, kA_i hc]; omega⟩, rfl, EN6.m hy2 (by omega) hc w11_3 w11_0⟩⟩) (fun a i f598 f603 f604 f605 => ((w11_4 a i f598).trans (hF_M a i f598 f603 f604 f605))) (fun i g6 g10 g11 g12 g59 g60 g61 g62 g63 g64 g65 => ((w11_5 i g59 g60 g61 g62 g63 g64 g65).trans (hG_M i g6 g10 g11 g12 g59 g60 g61 g62 g63 g64 g65))))
            · refine jr.if_ne rfl rfl (by omega) (fun h => absurd h (by decide)) (fun _ => ?_)
              refine jr.iconst rfl ?_
              exact jr.ireturn rfl rfl rfl (q _ _ hI_M hH_M hS_M  (by omega) (Or.inl rfl) ⟨hy2, hy3, Or.inl ⟨(fun u => by have u3 := u.2.2.2; rw [← hy4.1, hy5] at u3; first | (rw [nxI_e (by have h9 := hy2.1; omega)] at u3; unfold kA at u3; rw [if_neg (by omega)] at u3; omega) | (have hc : 0 ≤ h ∧ h < M 598 6 := (by omega); have e : nxI (rf M0 x) (M0 600 x) (M 598 6 - h).toNat h = h := (by have hh := HT.f hy2 hc; rw [nxI_s hc.2, if_neg (by omega)]); have hh := HT.f hy2 hc; rw [e, kA_i hc] at u3; omega)), rfl⟩⟩ (fun a i f598 f603 f604 f605 => (hF_M a i f598 f603 f604 f605)) (fun i g6 g10 g11 g12 g59 g60 g61 g62 g63 g64 g65 => (hG_M i g6 g10 g11 g12 g59 g60 g61 g62 g63 g64 g65)))
        · refine jr.iinc rfl rfl (by decide) rfl ?_
          refine jr.goto rfl rfl ?_
          refine jr.pick [0, 1, 2, 3] rfl rfl ?_
          exact ih (nM - 1) (by omega) M (h + 1) t x hI_M hH_M hS_M  (fun a i f598 f603 f604 f605 => (hF_M a i f598 f603 f604 f605)) (fun i g6 g10 g11 g12 g59 g60 g61 g62 g63 g64 g65 => (hG_M i g6 g10 g11 g12 g59 g60 g61 g62 g63 g64 g65)) (by omega) (by omega) (by omega) (by omega) (by omega) hy2 hy3 hy4 (by have hc : 0 ≤ h ∧ h < M 598 6 := (by omega); have hh := HT.f hy2 hc; rw [hy5, nxI_s hc.2, if_pos (by omega)]) hy6 (by omega) (by omega)
theorem r_hasEnds_x {A : Nat → Option (Nat × (Nat → Int32))} {Q : Option Value → jm → Prop} {M : jm} (hI_M : RI M) (hH_M : RH M) (hS_M : RF M) {x : Int} (h_x : 0 ≤ x ∧ x ≤ 23) (p0 : M 600 x ≠ -1) (q : ∀ (r : Int) (M' : jm), RI M' → RH M' → RF M' → 0 ≤ r ∧ r ≤ 1 → (r = 0 ∨ RE M') → HN6 M M' x r → (∀ (a : Nat) (i : Int), a ≠ 598 → a ≠ 603 → a ≠ 604 → a ≠ 605 → M' a i = M a i) → (∀ (i : Int), i ≠ 6 → i ≠ 10 → i ≠ 11 → i ≠ 12 → i ≠ 59 → i ≠ 60 → i ≠ 61 → i ≠ 62 → i ≠ 63 → i ≠ 64 → i ≠ 65 → M' 598 i = M 598 i) → Q (some (.int (Int32.ofInt r))) M') : jc A 7 302 [.ref (598), .int (Int32.ofInt (x))] M Q := by
  refine jc_of (m := xm_302) rfl (Nat.le_of_ble_eq_true rfl) rfl ?_
  refine jr.aload_n rfl rfl ?_
  refine jr.iload_n rfl rfl ?_
  obtain ⟨v2, e2⟩ : ∃ z, M 600 x = z := ⟨_, rfl⟩
  have b2 : (-1) ≤ v2 ∧ v2 ≤ 400 := by rw [← e2]; exact (by have q := hI_M 600 x (by decide); rw [xri_row rfl rfl] at q; exact q)
  refine jr_v rfl rfl (Or.inl rfl) rfl rfl (by decide) rfl ⟨rfl, Nat.le_of_ble_eq_true rfl, Nat.le_of_ble_eq_true rfl⟩ rfl (jc.deep (r_look_x hI_M hH_M hS_M  (by omega) (by rw [e2]; omega) (fun M1 hI_M1 hH_M1 hS_M1  w1_0 w1_1 w1_2 w1_3 => ?_)) (by decide))
  refine jr.aload_n rfl rfl ?_
  obtain ⟨v3, e3⟩ : ∃ z, M1 598 10 = z := ⟨_, rfl⟩
  have b3 : 0 ≤ v3 ∧ v3 ≤ 6 := by rw [← e3]; exact hI_M1 598 10 (by decide)
  refine jr.getf (i := 10) (x := v3) (v := .int (Int32.ofInt (v3))) rfl rfl (by decide) rfl (by decide) rfl rfl e3 rfl ?_
  refine jr.if_ne rfl rfl (by omega) (fun h9 => ?_) (fun h9 => ?_)
  · refine jr.iconst rfl ?_
    exact jr.ireturn rfl rfl rfl (q _ _ hI_M1 hH_M1 hS_M1  (by omega) (Or.inl rfl) ⟨(HQ6.t w1_1 (rN6 hI_M p0) (fun i h0 h1 => rf_r hI_M x i)), ⟨HQ6.e w1_1, HQ6.f w1_1⟩, Or.inl ⟨(fun h => by unfold heF at h; first | (have h9 := h.1; rw [e3] at h9; omega)), rfl⟩⟩ (fun a i f598 f603 f604 f605 => ((w1_2 a i f598 f603 f604 f605).trans rfl)) (fun i g6 g10 g11 g12 g59 g60 g61 g62 g63 g64 g65 => ((w1_3 i g6 g10 g11 g12).trans rfl)))
  · refine jr.aload_n rfl rfl ?_
    refine jr.iload_n rfl rfl ?_
    refine jr_v rfl rfl (Or.inl rfl) rfl rfl (by decide) rfl ⟨rfl, Nat.le_of_ble_eq_true rfl, Nat.le_of_ble_eq_true rfl⟩ rfl (jc.deep (r_piece_x hI_M1 hH_M1 hS_M1  (by omega) (HQ6.t w1_1 (rN6 hI_M p0) (fun i h0 h1 => rf_r hI_M x i)) (rf_e (fun i => w1_2 601 i (by decide) (by decide) (by decide) (by decide))) (fun r4 z4 w4_0 w4_1 w4_2 => ?_)) (by decide))
    refine jr.iconst rfl ?_
    refine jr.icmp_eq rfl rfl (by omega) (by omega) (fun h18 => ?_) (fun h18 => ?_)
    · refine jr.aload_n rfl rfl ?_
      refine jr_v rfl rfl (Or.inl rfl) rfl rfl (by decide) rfl ⟨rfl, Nat.le_of_ble_eq_true rfl, Nat.le_of_ble_eq_true rfl⟩ rfl (jc.deep (r_net_x hI_M1 hH_M1 hS_M1   (HQ6.t w1_1 (rN6 hI_M p0) (fun i h0 h1 => rf_r hI_M x i)) (fun r5 z5 w5_0 w5_1 w5_2 w5_3 => ?_)) (by decide))
      refine jr.istore_n rfl (by decide) rfl ?_
      refine jr.iload_n rfl rfl ?_
      refine jr.iconst rfl ?_
      refine jr.icmp_ne rfl rfl (by omega) (by omega) (fun h30 => ?_) (fun h30 => ?_)
      · refine jr.iload_n rfl rfl ?_
        refine jr.iconst rfl ?_
        refine jr.iadd rfl ?_
        refine jr.istore_n rfl (by decide) rfl ?_
        refine jr.pick [0, 1, 3, 2] rfl rfl ?_
        exact r_hasEnds_L39_x q 13 M1 (r5 + 1) r5 x hI_M1 hH_M1 hS_M1  (fun a i f598 f603 f604 f605 => ((w1_2 a i f598 f603 f604 f605).trans rfl)) (fun i g6 g10 g11 g12 g59 g60 g61 g62 g63 g64 g65 => ((w1_3 i g6 g10 g11 g12).trans rfl)) (by omega) (by omega) (by omega) (by omega) (by omega) (HQ6.t w1_1 (rN6 hI_M p0) (fun i h0 h1 => rf_r hI_M x i)) ⟨HQ6.e w1_1, HQ6.f w1_1⟩ ⟨w5_3, by rw [← w4_2]; omega, by rw [e3]; omega⟩ rfl (rf_e (fun i => w1_2 601 i (by decide) (by decide) (by decide) (by decide))) (by omega) (by omega)
      · refine jr.iconst rfl ?_
        exact jr.ireturn rfl rfl rfl (q _ _ hI_M1 hH_M1 hS_M1  (by omega) (Or.inl rfl) ⟨(HQ6.t w1_1 (rN6 hI_M p0) (fun i h0 h1 => rf_r hI_M x i)), ⟨HQ6.e w1_1, HQ6.f w1_1⟩, Or.inl ⟨(fun h => by unfold heF at h; first | (have h9 := h.1; rw [e3] at h9; omega) | (have h9 := h.2.2.1; rw [← w4_2] at h9; omega) | (have h9 := h.2.1; rw [← w5_3] at h9; omega)), rfl⟩⟩ (fun a i f598 f603 f604 f605 => ((w1_2 a i f598 f603 f604 f605).trans rfl)) (fun i g6 g10 g11 g12 g59 g60 g61 g62 g63 g64 g65 => ((w1_3 i g6 g10 g11 g12).trans rfl)))
    · refine jr.iconst rfl ?_
      exact jr.ireturn rfl rfl rfl (q _ _ hI_M1 hH_M1 hS_M1  (by omega) (Or.inl rfl) ⟨(HQ6.t w1_1 (rN6 hI_M p0) (fun i h0 h1 => rf_r hI_M x i)), ⟨HQ6.e w1_1, HQ6.f w1_1⟩, Or.inl ⟨(fun h => by unfold heF at h; first | (have h9 := h.1; rw [e3] at h9; omega) | (have h9 := h.2.2.1; rw [← w4_2] at h9; omega) | (have h9 := h.2.1; rw [← w5_3] at h9; omega)), rfl⟩⟩ (fun a i f598 f603 f604 f605 => ((w1_2 a i f598 f603 f604 f605).trans rfl)) (fun i g6 g10 g11 g12 g59 g60 g61 g62 g63 g64 g65 => ((w1_3 i g6 g10 g11 g12).trans rfl)))
end
section
/-! ===== the class: sorts of a stream, lives, forgetting, gathered ===== -/
theorem jbt0 : ∀ n : Nat, n < 256 → j_and (n : Int) 1 = ((n % 2 : Nat) : Int) ∧ j_and (n : Int) 2 = ((n / 2 % 2 * 2 : Nat) : Int) ∧ j_and (n : Int) 4 = ((n / 4 % 2 * 4 : Nat) : Int) ∧ j_and (n : Int) 16 = ((n / 16 % 2 * 16 : Nat) : Int) := by decide +kernel
theorem jbt {x : Int} (h : 0 ≤ x ∧ x ≤ 255) : j_and x 1 = x % 2 ∧ j_and x 2 = x / 2 % 2 * 2 ∧ j_and x 4 = x / 4 % 2 * 4 ∧ j_and x 16 = x / 16 % 2 * 16 := by
  obtain ⟨n, rfl⟩ := Int.eq_ofNat_of_zero_le h.1
  have q := jbt0 n (by omega)
  refine ⟨?_, ?_, ?_, ?_⟩
  · rw [q.1]; omega
  · rw [q.2.1]; omega
  · rw [q.2.2.1]; omega
  · rw [q.2.2.2]; omega
noncomputable def scf (x : Int) : Int := if x / 4 % 2 = 1 then 3 else if x / 2 % 2 = 1 then (if x / 16 % 2 = 1 then 1 else 0) else if x % 2 = 1 then 2 else if x / 16 % 2 = 1 then 4 else 5
noncomputable def lvf (n s : Int) : Int := if n = 1 then 5 else if n = 17 then (if s = 0 then 15 else 40) else if s = 1 ∨ s = 2 then 10 else if s = 3 then 200 else if s = 6 then 20 else if s = 9 then 8 else if s = 10 then 3 else if 1 ≤ s ∧ s ≤ 10 then 40 else 0
theorem lv0 : ∀ n : Nat, n < 10 → xcv_6 (n : Int) = (if n = 0 ∨ n = 1 then 10 else if n = 2 then 200 else if n = 5 then 20 else if n = 8 then 8 else if n = 9 then 3 else 40) := by decide +kernel
theorem lv1 {n s : Int} (h1 : n ≠ 1) (h2 : n ≠ 17) (hs : 1 ≤ s ∧ s ≤ 10) : xcv_6 (s - 1) = lvf n s := by
  obtain ⟨m, hm⟩ : ∃ m : Nat, s = m + 1 := ⟨(s - 1).toNat, by omega⟩
  subst hm
  rw [show ((m : Int) + 1 - 1) = (m : Int) by omega, lv0 m (by omega)]
  unfold lvf
  rw [if_neg h1, if_neg h2]
  (repeat' split) <;> omega
end
