section
theorem pcf_r {f : Int → Int} {N C : Int} (hC : 0 ≤ C) : pcf f N C = -1 ∨ ((0 ≤ pcf f N C ∧ pcf f N C < C) ∧ ((hX f N (pcf f N C) = 2 ∧ pcf f N C = ntf f N C) ∨ hX f N (pcf f N C) = 6)) := by
  have hn := ntf_r (f := f) (N := N) hC
  unfold pcf
  split
  · exact Or.inl rfl
  · rename_i h1
    have hn2 := hn.resolve_left h1
    split
    · rename_i h2
      split
      · right
        rw [kA_i hn2.1] at h2
        exact ⟨hn2.1, Or.inl ⟨h2, rfl⟩⟩
      · exact Or.inl rfl
    · split
      · rename_i h3
        right
        have hi := inf_r (f := f) (N := N) (C := C) (x := ntf f N C) (by omega)
        have hin : 0 ≤ inf f N C (ntf f N C) ∧ inf f N C (ntf f N C) < C := by
          unfold kA at h3
          split at h3
          · assumption
          · omega
        rw [kA_i hin] at h3
        exact ⟨hin, Or.inr h3⟩
      · exact Or.inl rfl
theorem gS_r (M : jm) : ∀ (n : Nat) (i : Int), 0 ≤ i → gS M n i = -1 ∨ ((i ≤ gS M n i ∧ gS M n i < i + n) ∧ M (xe 10 (gS M n i)) 0 ≠ 0 ∧ M (xe 10 (gS M n i)) 1 = M 11 1) := by
  intro n
  induction n with
  | zero => intro i _; exact Or.inl rfl
  | succ n ih =>
    intro i h0
    unfold gS
    split
    · rename_i q; exact Or.inr ⟨⟨Int.le_refl _, by omega⟩, q.1, q.2.1⟩
    · rcases ih (i + 1) (by omega) with r | r
      · exact Or.inl r
      · exact Or.inr ⟨⟨by omega, by omega⟩, r.2⟩
theorem rdy_1 {w : Int → Int} : ∀ (n : Nat) (i : Int), rdy w n i ≠ 0 → ∀ k : Int, i ≤ k → k < i + n → w k ≠ -1 := by
  intro n
  induction n with
  | zero => intro i _ k h0 h1; omega
  | succ n ih =>
    intro i h k h0 h1
    unfold rdy at h
    split at h
    · exact absurd rfl h
    · rename_i q
      by_cases e : k = i
      · rw [e]; exact q
      · exact ih (i + 1) h k (by omega) (by omega)
/-- all but headers and the name that is sought is as it was -/
noncomputable def NH (T M : jm) : Prop := ∀ (b : Nat) (k : Int), (kd b < 18 ∨ 21 < kd b) → b ≠ 11 → M b k = T b k
noncomputable def GK1 (M : jm) (G : Nat) : Prop := (M G 7 = -1 ∨ (0 ≤ M G 7 ∧ M G 7 ≤ 360)) ∧ (M G 11 = -1 ∨ ((8 ≤ M G 11 ∧ M G 11 ≤ 400) ∧ (0 ≤ M G 12 ∧ M G 12 ≤ 400) ∧ (M G 1 ≠ 2 ∨ M G 12 + 20 ≤ hlf (M G 1) (M G 11)) ∧ ∀ k : Int, 0 ≤ k → k < M G 11 → 0 ≤ M (G + 2) k ∧ M (G + 2) k ≤ 255))
noncomputable def GOK (M : jm) : Prop := ∀ g : Int, 0 ≤ g → g < 8 → M (xe 10 g) 0 ≠ 0 → GK1 M (xe 10 g)
noncomputable def fstv (M : jm) : Int := if gS M 8 0 = -1 ∨ M (xe 10 (gS M 8 0)) 7 = -1 then 1 else 0
noncomputable def GBG (M2 M3 : jm) (g Z : Int) : Prop := (gS M2 8 0 ≠ -1 ∧ g = gS M2 8 0 ∧ M3 = M2) ∨ (gS M2 8 0 = -1 ∧ g = gF M2 8 0 ∧ g ≠ -1 ∧ BGA M2 M3 (xe 10 g) 11 (Z + 30))
noncomputable def NRD (M : jm) (G : Nat) : Prop := M G 7 = -1 ∨ M G 11 = -1 ∨ rdy (M (G + 1)) (lpf (M G 7)).toNat 0 = 0
noncomputable def NM5 (M : jm) (f : Int → Int) (N C y : Int) : Prop := M 11 1 = kA f N C y ∧ M 11 2 = adf f N C (ntf f N C) 0 ∧ M 11 3 = adf f N C (ntf f N C) 1 ∧ M 11 4 = vA f N C y 3 ∧ M 11 5 = vA f N C y (if kA f N C y = 2 then 7 else 0)
noncomputable def GAK (M2 M : jm) (f : Int → Int) (N C Z : Int) (F : Int → Int → Int) (r : Int) : Prop := (rfq f N C (pcf f N C) (fstv M2) ∧ r = -4 ∧ M = M2) ∨ (¬ rfq f N C (pcf f N C) (fstv M2) ∧ gS M2 8 0 = -1 ∧ gF M2 8 0 = -1 ∧ r = -5 ∧ M = M2) ∨ (¬ rfq f N C (pcf f N C) (fstv M2) ∧ ∃ (g : Int) (M3 M4 : jm), GBG M2 M3 g Z ∧ TKI M3 M4 (xe 10 g) f N C (pcf f N C) ∧ ((NRD M4 (xe 10 g) ∧ r = -1 ∧ M = M4) ∨ (¬ NRD M4 (xe 10 g) ∧ PTO M4 M (xe 10 g) F r)))
noncomputable def GAQ (T M : jm) (f : Int → Int) (N C Z : Int) (F : Int → Int → Int) (r : Int) : Prop := ((hX f N C ≠ -1 ∨ pcf f N C = -1) ∧ r = -4 ∧ NH T M) ∨ (hX f N C = -1 ∧ pcf f N C ≠ -1 ∧ ∃ M2 : jm, NH T M2 ∧ NM5 M2 f N C (pcf f N C) ∧ GAK M2 M f N C Z F r)
theorem kw_hd {W : List (Nat × Nat)} (h1 : W.all (fun w => Nat.ble 18 w.1 && Nat.ble w.1 21) = true) {K : Nat} {i : Int} (hk : K < 18 ∨ 21 < K) : kw W K i = false := by
  induction W with
  | nil => rfl
  | cons w r ih =>
    rw [List.all_cons, Bool.and_eq_true] at h1
    unfold kw
    rw [ih h1.2, Bool.or_false]
    unfold kh
    have q2 := h1.1
    rw [Bool.and_eq_true] at q2
    have a := Nat.le_of_ble_eq_true q2.1
    have b := Nat.le_of_ble_eq_true q2.2
    cases e : Nat.beq w.1 K with
    | false => rfl
    | true => have q := Nat.eq_of_beq_eq_true e; omega
theorem NH.f {W : List (Nat × Nat)} {T M : jm} (h : FR W T M) (h1 : W.all (fun w => Nat.ble 18 w.1 && Nat.ble w.1 21) = true) : NH T M := fun b k hb _ => h b k (kw_hd h1 hb)
theorem NH.t {T M M2 : jm} (h : NH T M) (h2 : ∀ (b : Nat) (k : Int), b ≠ 11 → M2 b k = M b k) : NH T M2 := fun b k hb h0 => (h2 b k h0).trans (h b k hb h0)
theorem nxN_m {f : Int → Int} {N : Int} : ∀ (n : Nat) (i j : Int), i ≤ j → j < i + n → (hX f N j = 2 ∨ hX f N j = 3) → nxN f N n i ≠ -1 ∨ i < 0 := by
  intro n
  induction n with
  | zero => intro i j h0 h1 _; omega
  | succ n ih =>
    intro i j h0 h1 h2
    unfold nxN
    by_cases q : hX f N i = 2 ∨ hX f N i = 3
    · rw [if_pos q]; omega
    · rw [if_neg q]
      have e : i ≠ j := fun e => q (by rw [e]; exact h2)
      rcases ih (i + 1) j (by omega) (by omega) h2 with u | u
      · exact Or.inl u
      · right; omega
theorem hX_n0 {M : jm} {f : Int → Int} {N C y : Int} (hs : HS M 3 f N) (hC : M 3 3 = C) (hy : 0 ≤ y ∧ y < C) (h4 : 4 ≤ hX f N y ∧ hX f N y ≤ 9) : ntf f N C ≠ -1 := by
  have q := hX_n f N y.toNat (by rw [Int.toNat_of_nonneg hy.1]; exact h4)
  have r := (nxD_r f N y.toNat).resolve_left q
  have u := nxN_m (f := f) (N := N) C.toNat 0 (nxD f N y.toNat) r.1 (by omega) r.2.2
  unfold ntf
  omega
theorem GRD.t {M0 M3 M4 : jm} {G : Nat} {f : Int → Int} {N C y : Int} (hs : HS M0 3 f N) (hC : M0 3 3 = C) (hy : 0 ≤ y ∧ y < C) (hk2 : (hX f N y = 2 ∧ y = ntf f N C) ∨ hX f N y = 6) (hK : GK1 M3 G) (hn : M3 G 1 = kA f N C y) (ht : TKI M3 M4 G f N C y) (hf : wh1 f N C y (M3 G 7) = M3 G 7 ∨ (0 ≤ wh1 f N C y (M3 G 7) ∧ wh1 f N C y (M3 G 7) ≤ 360)) (hC4 : CI M4) (kG : kd G = 15) (h7 : M4 G 7 ≠ -1) (h11 : M4 G 11 ≠ -1) (hr : rdy (M4 (G + 1)) (lpf (M4 G 7)).toNat 0 ≠ 0) : GRD M4 G := by
  obtain ⟨⟨⟨e7, e8⟩, eo, ek, _⟩, _, _⟩ := ht
  have hN := hs.2.2.1
  have q := HS.y hs hC hy
  have hen := enf_i (f := f) (N := N) (C := C) hy
  have e1 : M4 G 1 = M3 G 1 := eo 1 (by decide) (by decide) (by decide) (by decide) (by decide)
  have hW : 0 ≤ M4 G 7 ∧ M4 G 7 ≤ 360 := by
    rw [e7] at h7 ⊢
    rcases hf with hf | hf
    · rw [hf] at h7 ⊢
      exact hK.1.resolve_left h7
    · exact hf
  have hlp : lpf (M4 G 7) = M4 G 7 := lpf_w hW
  have hrow : ∀ k : Int, 0 ≤ k → k < M4 G 7 → 0 ≤ M4 (G + 1) k ∧ M4 (G + 1) k ≤ 255 := fun k k0 k1 => by
    have a := rdy_1 _ _ hr k k0 (by rw [hlp]; omega)
    have b : (-1 : Int) ≤ M4 (G + 1) k ∧ M4 (G + 1) k ≤ (255 : Int) := CI.r hC4 (kf_15_9 kG).2 (by decide) k
    omega
  have h8 : 8 ≤ enf f N C y := by rw [hen]; omega
  rcases ek with ⟨z1, z2, ⟨z3, z4, z5⟩, z6⟩ | ⟨z1, ⟨z3, z4, z5⟩, z6⟩
  · have hnt : pA f N C (ntf f N C) = -1 ∨ (0 ≤ pA f N C (ntf f N C) ∧ pA f N C (ntf f N C) ≤ 400) := by
      unfold pA
      split
      · rename_i hh
        have := HS.y hs hC hh
        have l := hls_r (hX f N (ntf f N C))
        right
        omega
      · exact Or.inl rfl
    have hnr := ntf_r (f := f) (N := N) (C := C) (by omega)
    have hn0 : 0 ≤ ntf f N C ∧ ntf f N C < C := by
      rcases hk2 with h | h
      · rw [← h.2]; exact hy
      · rcases hnr with u | u
        · exfalso
          have hh := hX_n0 hs hC hy (by omega)
          exact hh u
        · exact u.1
    have hnt2 : pA f N C (ntf f N C) = hY f N (ntf f N C) := by unfold pA; rw [if_pos hn0]
    have qn := HS.y hs hC hn0
    refine ⟨hW, ⟨by rw [z3]; omega, by rw [z3, hen]; omega⟩, ?_, ⟨by rw [z4, hnt2]; omega, by rw [z4, hnt2]; omega⟩, fun k k0 k1 => ?_, hrow⟩
    · rcases hk2 with h | h
      · right
        rw [e1, hn, kA_i hy, h.1, z4, hnt2, z3, hen, ← h.2]
        show hY f N y + 20 ≤ hY f N y + hZ f N y
        omega
      · left
        rw [e1, hn, kA_i hy, h]
        decide
    · rw [z3] at k1
      rw [z6 k k0 k1]
      exact (hs.1 k k0 (by omega)).2
  · rw [z3] at h11
    obtain ⟨g1, g2, g3, g4⟩ := hK.2.resolve_left h11
    refine ⟨hW, by rw [z3]; exact g1, by rw [e1, z4, z3]; exact g3, by rw [z4]; exact g2, fun k k0 k1 => ?_, hrow⟩
    rw [z6 k]
    exact g4 k k0 (by rw [← z3]; exact k1)
end
section
/-! ===== the class: gather, the walk ===== -/
theorem PBS.fr {W : List (Nat × Nat)} {T M : jm} {F : Int → Int → Int} (h : PBS T F) (g : FR W T M) (h1 : ksep W [(34, 1000)] = true) : PBS M F := fun p h0 h2 => BY8.fr (h p h0 h2) (kf_33_0 (kxe_42 (show kd 2 = 42 from rfl) h0 h2).2).2 g h1
theorem GK1.e {T M : jm} {G : Nat} (h : GK1 T G) (e : ∀ k : Int, M G k = T G k) (e2 : ∀ k : Int, M (G + 2) k = T (G + 2) k) : GK1 M G := by
  unfold GK1 at h ⊢
  simp only [e, e2]
  exact h
theorem wh1_b {f : Int → Int} {N C y W s : Int} (h : ¬ rfq f N C y s) (hs : W = -1 → s = 1) (ho : 0 ≤ ofs f N C y) : wh1 f N C y W = W ∨ (0 ≤ wh1 f N C y W ∧ wh1 f N C y W ≤ 360) := by
  unfold rfq at h
  unfold wh1
  split
  · rename_i q
    have := hs q.1
    right
    omega
  · exact Or.inl rfl
theorem rfq_d {f : Int → Int} {N C y s : Int} (h : ¬ rfq f N C y s) : 1 ≤ N - enf f N C y := by
  unfold rfq at h
  omega
theorem hxc_z {M : jm} {t : Nat} {f : Int → Int} {N C : Int} (h : HS M t f N) (hC : M t 3 = C) (h0 : M t 4 = 0) : hX f N C = -1 := by
  subst hC
  rcases h.2.2.2.2.2 with g | g
  · exact g.1
  · exact absurd (g.2.2.1.symm.trans h0) g.2.1
theorem hxc_n {M : jm} {t : Nat} {f : Int → Int} {N C : Int} (h : HS M t f N) (hC : M t 3 = C) (h0 : M t 4 ≠ 0) : hX f N C ≠ -1 := by
  subst hC
  rcases h.2.2.2.2.2 with g | g
  · exact absurd g.2.1 h0
  · exact g.1
noncomputable def W_c_PacketWall_gather_x : List (Nat × Nat) := [(15, 0), (15, 1), (15, 2), (15, 3), (15, 4), (15, 5), (15, 6), (15, 7), (15, 8), (15, 11), (15, 12), (15, 13), (16, 1000), (17, 1000), (18, 3), (18, 4), (18, 5), (18, 6), (18, 7), (19, 1000), (20, 1000), (21, 1000), (33, 1), (33, 2), (34, 1000), (41, 1000)]
end
