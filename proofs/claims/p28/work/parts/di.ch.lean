section
/-! ===== the class: between the chains ===== -/
noncomputable def CKb (f : Int → Int) (N : Int) (M : jm) (k : Int) (nm ak : List Int) : Prop := NMc f N M nm ∧ (JLp M (M 413 2).toNat = ak ∧ ∀ x, x ∈ ak → zso f N x = 1 ∧ 0 ≤ x ∧ x ≤ 1600) ∧ M (M 413 2).toNat 4 = k ∧ (0 ≤ k ∧ k ≤ 300) ∧ (0 ≤ M (M 413 2).toNat 3 ∧ M (M 413 2).toNat 3 ≤ 16) ∧ M (M 413 2).toNat 2 ≤ 3 * k + 2 * M (M 413 2).toNat 3
noncomputable def CBt (f : Int → Int) (N : Int) (xs : ZS) (M : jm) (i : Int) : Prop := (M 413 0 ≠ 0 ∧ zr f N xs (zft (M 413 0) (M 413 1))) ∨ ((M 413 0 = 0 ∧ M 413 1 = -1) ∧ ∃ (t k zd zb : Int) (zs : List (Int × Int × Int × Int)) (nm ak : List Int), (TKc f N t M ∧ CKb f N M k nm ak) ∧ zr f N xs (0, t, k, zd, 0, zb, zs, nm, ak) ∧ (nm.length : Int) = i)
theorem len_pos {l : List Int} (h : l ≠ []) : 0 < (l.length : Int) := by
  cases l with
  | nil => exact absurd rfl h
  | cons a l =>
    show (0 : Int) < ((l.length + 1 : Nat) : Int)
    omega
theorem zcv_0 {w : Int} (h : zcv w = 0) : w = 0 := by
  unfold zcv at h
  by_cases a : w = 2
  · rw [if_pos a] at h
    omega
  · rw [if_neg a] at h
    by_cases b : w = 3
    · rw [if_pos b] at h
      omega
    · rw [if_neg b] at h
      split at h <;> omega
theorem zcv_1 {w : Int} (h : zcv w = 1) : w = 1 := by
  unfold zcv at h
  by_cases a : w = 2
  · rw [if_pos a] at h
    omega
  · rw [if_neg a] at h
    by_cases b : w = 3
    · rw [if_pos b] at h
      omega
    · rw [if_neg b] at h
      split at h <;> omega
theorem zcv_n (f : Int → Int) (N t : Int) : zcv (zwd f N t) = -1 ↔ (zwd f N t = -1 ∨ 45 ≤ zwd f N t) := by
  have hw := zwd_r f N t
  unfold zcv
  (repeat' split) <;> omega
section CN
variable {f : Int → Int} {N : Int} {xs : ZS} {T M : jm} {t k i : Int} {nm ak : List Int} {W : List (Nat × Nat)}
theorem CBt.z (h : CBt f N xs M i) (h0 : M 413 0 = 0) : M 413 1 = -1 ∧ ∃ (t k zd zb : Int) (zs : List (Int × Int × Int × Int)) (nm ak : List Int), (TKc f N t M ∧ CKb f N M k nm ak) ∧ zr f N xs (0, t, k, zd, 0, zb, zs, nm, ak) ∧ (nm.length : Int) = i := by
  rcases h with h | h
  · exact absurd h0 h.1
  · exact ⟨h.1.2, h.2⟩
theorem CBt.yf (h : CBt f N xs M i) (h0 : M 413 0 ≠ 0) : zr f N xs (zft (M 413 0) (M 413 1)) := (h.resolve_right (fun q => h0 q.1.1)).2
theorem CKb.fr (h : CKb f N T k nm ak) (hC : CI T) (fr : FR W T M) (h1 : ksep W [(44, 2), (47, 3), (45, 1000), (47, 2), (47, 4), (48, 1000), (51, 1000)] = true) : CKb f N M k nm ak := by
  have e2 : M 413 2 = T 413 2 := fr.s h1 k413 2 (by decide) 2 (Or.inr rfl)
  have kp := hC.pk
  have q1 := (kf_47_0 kp).2
  have q2 := (kf_47_1 kp).2
  have g2 := fr.s h1 kp 2 (by decide) 2 (Or.inr rfl)
  have g3 := fr.s h1 kp 3 (by decide) 3 (Or.inr rfl)
  have g4 := fr.s h1 kp 4 (by decide) 4 (Or.inr rfl)
  obtain ⟨a, ⟨b1, b2⟩, c, d, d2, d4⟩ := h
  have nm' : NMc f N M nm := by
    refine ⟨?_, fun i h0 h2 => ?_⟩
    · rw [e2, g3]
      exact a.1
    · rw [fr.s h1 (show kd 420 = 45 from rfl) 1000 (by decide) i (Or.inl rfl)]
      exact a.2 i h0 h2
  refine ⟨nm', ⟨?_, b2⟩, ?_, d, ?_, ?_⟩
  · rw [e2, ← b1]
    unfold JLp
    rw [g2]
    refine zjl_c _ (fun i i0 i1 => ⟨fr.s h1 q1 1000 (by decide) i (Or.inl rfl), fun _ => fr.s h1 q2 1000 (by decide) i (Or.inl rfl)⟩)
  · rw [e2, g4]
    exact c
  · rw [e2, g3]
    exact d2
  · rw [e2, g2, g3]
    exact d4
/-- a chain begins: its name is written -/
theorem CKb.into {b : Nat} {c v s : Int} (h : CKb f N T k nm ak) (hC : CI T) (fr : FR W T (ju (ju T 420 c v) b c s)) (h1 : ksep W [(44, 2), (47, 3), (47, 2), (47, 4), (48, 1000), (51, 1000)] = true) (hb : (420 : Nat) ≠ b) (ec : T (T 413 2).toNat 3 = c) (hc : c ≤ 15) (hv : zso f N v = 1 ∧ 0 ≤ v ∧ v ≤ 1600) : CKp f N (ju (ju T 420 c v) b c s) k (nm ++ [v]) ak 2 [] := by
  have e2 := fr.s h1 k413 2 (by decide) 2 (Or.inr rfl)
  have kp := hC.pk
  have q1 := (kf_47_0 kp).2
  have q2 := (kf_47_1 kp).2
  have g2 := fr.s h1 kp 2 (by decide) 2 (Or.inr rfl)
  have g3 := fr.s h1 kp 3 (by decide) 3 (Or.inr rfl)
  have g4 := fr.s h1 kp 4 (by decide) 4 (Or.inr rfl)
  obtain ⟨a, ⟨b1, b2⟩, c4, d, d2, d4⟩ := h
  have hl : (nm.length : Int) = c := a.1.trans ec
  unfold CKp NMi
  rw [e2, g2, g3, g4]
  refine ⟨⟨?_, fun i h0 h2 => ?_⟩, ⟨?_, b2⟩, c4, d, by omega, by omega, by omega, fun p hp => absurd hp (by simp)⟩
  · rw [List.length_append, ec]
    show ((nm.length + 1 : Nat) : Int) = c + 1
    omega
  · rw [List.length_append] at h2
    have h3 : i < (nm.length : Int) + 1 := h2
    rw [ju_c _ _ hb, getD_app]
    by_cases q : i = c
    · rw [if_neg (by omega), if_pos (by omega), q, ju_same]
      exact ⟨rfl, hv⟩
    · rw [if_pos (by omega), ju_i _ _ q]
      exact a.2 i h0 (by omega)
  · rw [← b1]
    unfold JLp
    rw [g2]
    refine zjl_c _ (fun i i0 i1 => ⟨fr.s h1 q1 1000 (by decide) i (Or.inl rfl), fun _ => fr.s h1 q2 1000 (by decide) i (Or.inl rfl)⟩)
/-- a chain has ended: it is counted -/
theorem CKp.outof {p : Nat} {c : Int} (h : CKp f N T k nm ak 0 []) (hC : CI T) (gp : T 413 2 = (p : Int)) (gc : T p 3 = c) : CKb f N (ju T p 3 (c + 1)) k nm ak := by
  have hp : (T 413 2).toNat = p := by rw [gp]; rfl
  have kp : kd p = 47 := by have z := hC.pk; rw [hp] at z; exact z
  have n413 : (413 : Nat) ≠ p := fun q => by rw [← q] at kp; exact absurd kp (by decide)
  have nnm : (420 : Nat) ≠ p := fun q => by rw [← q] at kp; exact absurd kp (by decide)
  obtain ⟨a, ⟨b1, b2⟩, c4, d, d2, d3, d4, d5⟩ := h
  rw [hp] at b1 c4 d2 d4
  have al := a.1
  rw [hp, gc] at al
  unfold CKb NMc
  rw [ju_c _ _ n413, hp, ju_same, ju_i _ _ (by decide), ju_i _ _ (by decide)]
  refine ⟨⟨al, fun i h0 h2 => ?_⟩, ⟨?_, b2⟩, c4, d, by omega, by omega⟩
  · rw [ju_c _ _ nnm]
    exact a.2 i h0 h2
  · rw [← b1]
    unfold JLp
    rw [ju_i _ _ (by decide)]
    exact zjl_c _ (fun i i0 i1 => ⟨ju_c _ _ (show p + 1 ≠ p by omega), fun _ => ju_c _ _ (show p + 2 ≠ p by omega)⟩)
end CN
/-- the jumps from i on -/
noncomputable def zjr (op ar : Int → Int) (i : Int) : Nat → List Int
  | 0 => []
  | n + 1 => if op i = 8 ∨ op i = 9 then ar i :: zjr op ar (i + 1) n else zjr op ar (i + 1) n
theorem zjr_s (op ar : Int → Int) (n : Nat) : ∀ i : Int, zjr op ar i (n + 1) = if op (i + n) = 8 ∨ op (i + n) = 9 then zjr op ar i n ++ [ar (i + n)] else zjr op ar i n := by
  induction n with
  | zero =>
    intro i
    show (if op i = 8 ∨ op i = 9 then ar i :: [] else []) = (if op (i + ((0 : Nat) : Int)) = 8 ∨ op (i + ((0 : Nat) : Int)) = 9 then [] ++ [ar (i + ((0 : Nat) : Int))] else [])
    rw [show i + ((0 : Nat) : Int) = i by omega]
    rfl
  | succ n ih =>
    intro i
    have e : i + 1 + (n : Int) = i + ((n + 1 : Nat) : Int) := by omega
    show (if op i = 8 ∨ op i = 9 then ar i :: zjr op ar (i + 1) (n + 1) else zjr op ar (i + 1) (n + 1)) = _
    rw [ih (i + 1), e]
    show _ = (if op (i + ((n + 1 : Nat) : Int)) = 8 ∨ op (i + ((n + 1 : Nat) : Int)) = 9 then (if op i = 8 ∨ op i = 9 then ar i :: zjr op ar (i + 1) n else zjr op ar (i + 1) n) ++ [ar (i + ((n + 1 : Nat) : Int))] else (if op i = 8 ∨ op i = 9 then ar i :: zjr op ar (i + 1) n else zjr op ar (i + 1) n))
    by_cases a : op i = 8 ∨ op i = 9
    · rw [if_pos a, if_pos a]
      by_cases b : op (i + ((n + 1 : Nat) : Int)) = 8 ∨ op (i + ((n + 1 : Nat) : Int)) = 9
      · rw [if_pos b, if_pos b, List.cons_append]
      · rw [if_neg b, if_neg b]
    · rw [if_neg a, if_neg a]
theorem zjl_r (op ar : Int → Int) (n : Nat) : zjl op ar n = zjr op ar 0 n := by
  induction n with
  | zero => rfl
  | succ n ih =>
    rw [zjr_s]
    show (if op (n : Int) = 8 ∨ op (n : Int) = 9 then zjl op ar n ++ [ar (n : Int)] else zjl op ar n) = _
    rw [ih, show (0 : Int) + (n : Int) = (n : Int) by omega]
theorem zjr_c {op ar op' ar' : Int → Int} (n : Nat) : ∀ i : Int, (∀ j : Int, i ≤ j → op' j = op j ∧ ar' j = ar j) → zjr op' ar' i n = zjr op ar i n := by
  induction n with
  | zero => intro i _; rfl
  | succ n ih =>
    intro i h
    have q := h i (Int.le_refl _)
    have e := ih (i + 1) (fun j hj => h j (by omega))
    unfold zjr
    rw [q.1, q.2, e]
/-- the jumps from i on are still to be resolved -/
noncomputable def RJ (f : Int → Int) (N : Int) (xs : ZS) (M : jm) (nm : List Int) (i : Int) : Prop := (M 413 0 ≠ 0 ∧ zr f N xs (zft (M 413 0) (M 413 1))) ∨ ((M 413 0 = 0 ∧ M 413 1 = -1) ∧ NMc f N M nm ∧ zr f N xs (zre f N nm (zjr (M ((M 413 2).toNat + 1)) (M ((M 413 2).toNat + 2)) i (M (M 413 2).toNat 2 - i).toNat)) ∧ (∀ j : Int, i ≤ j → j < M (M 413 2).toNat 2 → (M ((M 413 2).toNat + 1) j = 8 ∨ M ((M 413 2).toNat + 1) j = 9) → zso f N (M ((M 413 2).toNat + 2) j) = 1 ∧ 0 ≤ M ((M 413 2).toNat + 2) j ∧ M ((M 413 2).toNat + 2) j ≤ 1600))
noncomputable def RJe (f : Int → Int) (N : Int) (xs : ZS) (M : jm) : Prop := (M 413 0 ≠ 0 ∧ zr f N xs (zft (M 413 0) (M 413 1))) ∨ ((M 413 0 = 0 ∧ M 413 1 = -1) ∧ zr f N xs (zok (M (M 413 2).toNat 3)))
noncomputable def RUc (f : Int → Int) (N : Int) (M : jm) (r : Int) : Prop := (M 413 0 = 0 ∧ M 413 1 = -1 ∧ zr f N (zsI f N) (zok r)) ∨ (M 413 0 ≠ 0 ∧ r = j_w (-10 - M 413 0) ∧ zr f N (zsI f N) (zft (M 413 0) (M 413 1)))
section CJ
variable {f : Int → Int} {N : Int} {xs : ZS} {M : jm} {nm ak : List Int} {i v r c : Int} {p : Nat}
theorem zjl_m {op ar : Int → Int} (n : Nat) (_ : True) : ∀ j : Int, 0 ≤ j → j < n → (op j = 8 ∨ op j = 9) → ar j ∈ zjl op ar n := by
  induction n with
  | zero => intro j h0 h1 _; omega
  | succ n ih =>
    intro j h0 h1 h2
    unfold zjl
    by_cases q : j = (n : Int)
    · rw [← q, if_pos h2]
      exact List.mem_append_right _ (List.mem_singleton.mpr rfl)
    · have y := ih j h0 (by omega) h2
      split
      · exact List.mem_append_left _ y
      · exact y
theorem zre_c (f : Int → Int) (N : Int) (nm : List Int) (a : Int) (l : List Int) : zre f N nm (a :: l) = if zhn f N nm a = true then zre f N nm l else zft 7 a := rfl
theorem zjr_h {op ar : Int → Int} {S : Int} (h : i < S) (hj : op i = 8 ∨ op i = 9) : zjr op ar i (S - i).toNat = ar i :: zjr op ar (i + 1) (S - (i + 1)).toNat := by
  rw [show (S - i).toNat = (S - (i + 1)).toNat + 1 by omega]
  show (if op i = 8 ∨ op i = 9 then ar i :: zjr op ar (i + 1) (S - (i + 1)).toNat else zjr op ar (i + 1) (S - (i + 1)).toNat) = _
  rw [if_pos hj]
theorem zjr_k {op ar : Int → Int} {S : Int} (h : i < S) (hj : ¬ (op i = 8 ∨ op i = 9)) : zjr op ar i (S - i).toNat = zjr op ar (i + 1) (S - (i + 1)).toNat := by
  rw [show (S - i).toNat = (S - (i + 1)).toNat + 1 by omega]
  show (if op i = 8 ∨ op i = 9 then ar i :: zjr op ar (i + 1) (S - (i + 1)).toNat else zjr op ar (i + 1) (S - (i + 1)).toNat) = _
  rw [if_neg hj]
theorem RJ.zz (h : RJ f N xs M nm i) (h0 : M 413 0 = 0) : M 413 1 = -1 ∧ NMc f N M nm ∧ zr f N xs (zre f N nm (zjr (M ((M 413 2).toNat + 1)) (M ((M 413 2).toNat + 2)) i (M (M 413 2).toNat 2 - i).toNat)) ∧ (∀ j : Int, i ≤ j → j < M (M 413 2).toNat 2 → (M ((M 413 2).toNat + 1) j = 8 ∨ M ((M 413 2).toNat + 1) j = 9) → zso f N (M ((M 413 2).toNat + 2) j) = 1 ∧ 0 ≤ M ((M 413 2).toNat + 2) j ∧ M ((M 413 2).toNat + 2) j ≤ 1600) := by
  rcases h with h | h
  · exact absurd h0 h.1
  · exact ⟨h.1.2, h.2⟩
theorem RJ.n (h : RJ f N xs M nm i) (h0 : M 413 0 = 0) (gp : M 413 2 = (p : Int)) (hi : i < M p 2) (hj : ¬ (M (p + 1) i = 8 ∨ M (p + 1) i = 9)) : RJ f N xs M nm (i + 1) := by
  obtain ⟨a, b, c, d⟩ := h.zz h0
  have hp : (M 413 2).toNat = p := by rw [gp]; rfl
  rw [hp] at c d
  refine Or.inr ⟨⟨h0, a⟩, b, ?_, ?_⟩
  · rw [hp, ← zjr_k hi hj]
    exact c
  · rw [hp]
    exact fun j j0 j1 => d j (by omega) j1
theorem RJ.y (h : RJ f N xs M nm i) (h0 : M 413 0 = 0) (hC : CI M) (gp : M 413 2 = (p : Int)) (hi : i < M p 2) (hj : M (p + 1) i = 8 ∨ M (p + 1) i = 9) (hh : zhn f N nm (M (p + 2) i) = true) : RJ f N xs (ju M (p + 2) i v) nm (i + 1) := by
  obtain ⟨a, b, c, d⟩ := h.zz h0
  have hp : (M 413 2).toNat = p := by rw [gp]; rfl
  have kp : kd p = 47 := by have z := hC.pk; rw [hp] at z; exact z
  have k2 := (kf_47_1 kp).2
  have n413 : (413 : Nat) ≠ p + 2 := fun q => by rw [← q] at k2; exact absurd k2 (by decide)
  have nnm : (420 : Nat) ≠ p + 2 := fun q => by rw [← q] at k2; exact absurd k2 (by decide)
  rw [hp] at c d
  rw [zjr_h hi hj, zre_c, if_pos hh] at c
  refine Or.inr ⟨by rw [ju_c _ _ n413, ju_c _ _ n413]; exact ⟨h0, a⟩, ?_, ?_, ?_⟩
  · refine ⟨?_, fun k k0 k1 => ?_⟩
    · rw [ju_c _ _ n413, hp, ju_c _ _ (show p ≠ p + 2 by omega), ← hp]
      exact b.1
    · rw [ju_c _ _ nnm]
      exact b.2 k k0 k1
  · rw [ju_c _ _ n413, hp, ju_c _ _ (show p ≠ p + 2 by omega), zjr_c _ (i + 1) (fun j j0 => ⟨ju_c _ _ (show p + 1 ≠ p + 2 by omega), ju_i _ _ (show j ≠ i by omega)⟩)]
    exact c
  · rw [ju_c _ _ n413, hp, ju_c _ _ (show p ≠ p + 2 by omega)]
    intro j j0 j1 j2
    rw [ju_c _ _ (show p + 1 ≠ p + 2 by omega)] at j2
    rw [ju_i _ _ (show j ≠ i by omega)]
    exact d j (by omega) j1 j2
theorem RJ.x {M' : jm} (h : RJ f N xs M nm i) (h0 : M 413 0 = 0) (gp : M 413 2 = (p : Int)) (hi : i < M p 2) (hj : M (p + 1) i = 8 ∨ M (p + 1) i = 9) (hh : zhn f N nm (M (p + 2) i) = false) (e0 : M' 413 0 = 7) (e1 : M' 413 1 = M (p + 2) i) : RJ f N xs M' nm (i + 1) := by
  obtain ⟨a, b, c, d⟩ := h.zz h0
  have hp : (M 413 2).toNat = p := by rw [gp]; rfl
  rw [hp] at c d
  rw [zjr_h hi hj, zre_c, if_neg (by rw [hh]; decide)] at c
  refine Or.inl ⟨by rw [e0]; decide, ?_⟩
  rw [e0, e1]
  exact c
theorem RJ.e (h : RJ f N xs M nm i) (hi : M (M 413 2).toNat 2 ≤ i ∨ M 413 0 ≠ 0) : RJe f N xs M := by
  rcases h with h | h
  · exact Or.inl h
  · refine Or.inr ⟨h.1, ?_⟩
    have q := hi.resolve_right (fun z => z h.1.1)
    have z := h.2.2.1
    rw [show (M (M 413 2).toNat 2 - i).toNat = 0 by omega] at z
    rw [← h.2.1.1]
    exact z
/-- no chain is left: the jumps are next -/
theorem CBt.rj (h : CBt f N xs M i) (hi : M 413 0 = 0 → (1 ≤ i ∧ M 413 6 = 0) ∨ 17 ≤ i) : ∃ nm : List Int, RJ f N xs M nm 0 := by
  rcases h with h | h
  · exact ⟨[], Or.inl h⟩
  · obtain ⟨h0, t, k, zd, zb, zs, nm, ak, ⟨tk, ck⟩, z, hl⟩ := h
    have q := hi h0.1
    have c16 := ck.2.2.2.2.1
    have cl := ck.1.1
    have q2 := q.resolve_right (fun y => by omega)
    have h6 : zso f N t = 0 := by
      have y := tk.2.2.2.2.1
      omega
    have hne : nm ≠ [] := fun y => by
      rw [y] at hl
      have hl2 : (0 : Int) = i := hl
      omega
    refine ⟨nm, Or.inr ⟨h0, ck.1, ?_, ?_⟩⟩
    · have y := zr.fin z hne h6
      have e := ck.2.1.1
      unfold JLp at e
      rw [zjl_r] at e
      rw [show (M (M 413 2).toNat 2 - 0).toNat = (M (M 413 2).toNat 2).toNat by omega, e]
      exact y
    · intro j j0 j1 j2
      have e := ck.2.1.1
      unfold JLp at e
      exact ck.2.1.2 _ (by rw [← e]; exact zjl_m _ trivial j j0 (by omega) j2)
end CJ
theorem zr.nmc {f : Int → Int} {N : Int} {x : ZS} {m t k d c b : Int} {s : List (Int × Int × Int × Int)} {nm nm' ak : List Int} (h : zr f N x (m, t, k, d, c, b, s, nm, ak)) (e : nm' = nm) : zr f N x (m, t, k, d, c, b, s, nm', ak) := by
  rw [e]
  exact h
theorem CZ.out {f : Int → Int} {N : Int} {xs : ZS} {T : jm} {t k c i zd zb : Int} {zs : List (Int × Int × Int × Int)} {nm ak : List Int} {Z : Prop} {p : Nat} (h : CZ f N xs T t k nm ak 0 [] Z) (hC : CI T) (gp : T 413 2 = (p : Int)) (gc : T p 3 = c) (g : Z → zr f N xs (0, t, k, zd, 0, zb, zs, nm, ak)) (hl : (nm.length : Int) = i) : CBt f N xs (ju T p 3 (c + 1)) i := by
  have hp : (T 413 2).toNat = p := by rw [gp]; rfl
  have kp : kd p = 47 := by have z := hC.pk; rw [hp] at z; exact z
  have n413 : (413 : Nat) ≠ p := fun q => by rw [← q] at kp; exact absurd kp (by decide)
  have n1 : (1 : Nat) ≠ p := fun q => by rw [← q] at kp; exact absurd kp (by decide)
  rcases h with h | h
  · exact Or.inl (by rw [ju_c _ _ n413, ju_c _ _ n413]; exact h)
  · refine Or.inr ⟨by rw [ju_c _ _ n413, ju_c _ _ n413]; exact h.1, t, k, zd, zb, zs, nm, ak, ⟨?_, CKp.outof h.2.1.2 hC gp gc⟩, g h.2.2, hl⟩
    obtain ⟨⟨x1, x2⟩, b, c7, c8, c6, c10, c9, c11⟩ := h.2.1.1
    unfold TKc TXc
    rw [ju_c _ _ n413, ju_c _ _ n413, ju_c _ _ n413, ju_c _ _ n413, ju_c _ _ n413, ju_c _ _ n413, ju_c _ _ n413]
    exact ⟨⟨x1, fun i h0 h2 => (ju_c _ _ n1).trans (x2 i h0 h2)⟩, b, c7, c8, c6, c10, c9, c11⟩
noncomputable def W_c_Parser_chain_z : List (Nat × Nat) := [(44, 0), (44, 1), (44, 6), (44, 7), (44, 8), (44, 9), (44, 10), (44, 11), (45, 1000), (47, 2), (47, 3), (47, 4), (48, 1000), (49, 1000), (50, 1000), (51, 1000)]
theorem c_Parser_chain_z {A : Nat → Option (Nat × (Nat → Int32))} [HA A] {Q : Option Value → jm → Prop} {G : Nat → Int → Int} {f : Int → Int} {N : Int} {xs : ZS} {ci : Int} {T : jm} {M : jm} (hC_M : CI M) (ht_M : FR W_c_Parser_chain_z T M) (p0 : 1 ≤ M 413 3 ∧ M 413 3 ≤ 1) (p1 : MP M G) (p2 : TXc f N M) (p3 : M 413 8 ≤ N ∧ (M 413 6 = 1 → M 413 7 < M 413 8)) (p4 : M 413 0 = 0) (p5 : CBt f N xs M ci) (p6 : ci = 0 ∨ M 413 6 ≠ 0) (p7 : 0 ≤ ci) (q : ∀ (M' : jm), CI M' → FR W_c_Parser_chain_z T M' → (MP M' G) → (M' 413 8 ≤ N ∧ (M' 413 6 = 1 → M' 413 7 < M' 413 8)) → (CBt f N xs M' (ci + 1)) → Q none M') : jc A 361 197 [.ref (413)] M Q := by
  obtain ⟨hm1, t0, k0, zd, zb, zs, nm, ak, ⟨tk0, ck0⟩, hz0, hl0⟩ := CBt.z p5 p4
  obtain ⟨hTx, ktt, k7, k8, k6, k10, k9, k11⟩ := id tk0
  clear k9 k11
  refine jc_of (m := xm_197) rfl (Nat.le_of_ble_eq_true rfl) rfl ?_
  obtain ⟨v1, e1⟩ : ∃ z_, M 413 3 = z_ := ⟨_, rfl⟩
  have b1 : 1 ≤ v1 ∧ v1 ≤ 419 := by rw [← e1]; exact (CI.r hC_M (show kd 413 = 44 from rfl) (by decide) 3)
  have b2 : 1 ≤ v1 ∧ v1 ≤ 1 := by rw [← e1]; exact p0
  obtain ⟨v3, e3⟩ : ∃ z_, M 413 8 = z_ := ⟨_, rfl⟩
  have b3 : 0 ≤ v3 ∧ v3 ≤ 1600 := by rw [← e3]; exact (CI.r hC_M (show kd 413 = 44 from rfl) (by decide) 8)
  obtain ⟨v4, e4⟩ : ∃ z_, M 413 6 = z_ := ⟨_, rfl⟩
  have b4 : (-2147483648) ≤ v4 ∧ v4 ≤ 2147483647 := by rw [← e4]; exact (CI.r hC_M (show kd 413 = 44 from rfl) (by decide) 6)
  obtain ⟨v5, e5⟩ : ∃ z_, M 413 7 = z_ := ⟨_, rfl⟩
  have b5 : 0 ≤ v5 ∧ v5 ≤ 1600 := by rw [← e5]; exact (CI.r hC_M (show kd 413 = 44 from rfl) (by decide) 7)
  obtain ⟨v6, e6⟩ : ∃ z_, M 413 0 = z_ := ⟨_, rfl⟩
  have b6 : (-2147483648) ≤ v6 ∧ v6 ≤ 2147483647 := by rw [← e6]; exact (CI.r hC_M (show kd 413 = 44 from rfl) (by decide) 0)
  refine jr.aload_n rfl rfl ?_
  refine jr.iconst rfl ?_
  refine jr_v rfl rfl (Or.inl rfl) rfl rfl (by decide) rfl ⟨rfl, Nat.le_of_ble_eq_true rfl, Nat.le_of_ble_eq_true rfl⟩ rfl (jc.deep (c_Parser_isWord_z hC_M (by omega) (fun r7 z7 w7_0 => ?_)) (by decide))
  refine jr.if_ne rfl rfl (by omega) (fun h5 => ?_) (fun h5 => ?_)
  · refine jr.aload_n rfl rfl ?_
    obtain ⟨v8, e8⟩ : ∃ z_, M 413 2 = z_ := ⟨_, rfl⟩
    have b8 : 0 ≤ v8 ∧ v8 ≤ 597 := by rw [← e8]; exact (CI.r hC_M (show kd 413 = 44 from rfl) (by decide) 2)
    have k9 : kd (v8).toNat = 47 := ((congrArg (fun z : Int => kd z.toNat) (show M 413 2 = v8 from e8)).symm.trans (CI.x hC_M (show kd 413 = 44 from rfl) 2 rfl (by decide)))
    refine jr.getf (i := 2) (x := v8) (v := .ref (v8.toNat)) rfl rfl (by decide) rfl (by decide) rfl rfl e8 rfl ?_
    obtain ⟨v10, e10⟩ : ∃ z_, M ((v8.toNat)) 3 = z_ := ⟨_, rfl⟩
    have b10 : 0 ≤ v10 ∧ v10 ≤ 16 := by rw [← e10]; exact (CI.r hC_M k9 (by decide) 3)
    refine jr.getf (i := 3) (x := v10) (v := .int (Int32.ofInt (v10))) rfl rfl (Nat.lt_trans (kx_47 k9).1 (by decide)) (kx_47 k9).2 (by decide) rfl rfl e10 rfl ?_
    refine jr.bipush rfl (by decide) ?_
    refine jr.icmp_lt rfl rfl (by omega) (by omega) (fun h22 => ?_) (fun h22 => ?_)
    · refine jr.aload_n rfl rfl ?_
      refine jr_v rfl rfl (Or.inl rfl) rfl rfl (by decide) rfl ⟨rfl, Nat.le_of_ble_eq_true rfl, Nat.le_of_ble_eq_true rfl⟩ rfl (jc.deep (c_Parser_advance_z hC_M (FR.rfl _ M)  e6 e3 (by have hq0 : M 413 3 = v1 := e1; omega) p2 (by have hq0 : M 413 8 = v3 := e3; have hq1 : M 413 6 = v4 := e4; have hq2 : M 413 7 = v5 := e5; omega) (fun M11 hC_M11 hf_M11 w11_0 w11_1 => ?_)) (by decide))
      have ht_M11 : FR W_c_Parser_chain_z T M11 := FR.t ht_M hf_M11 (kw_sub rfl)
      obtain ⟨v12, e12⟩ : ∃ z_, M11 413 8 = z_ := ⟨_, rfl⟩
      have b12 : 0 ≤ v12 ∧ v12 ≤ 1600 := by rw [← e12]; exact (CI.r hC_M11 (show kd 413 = 44 from rfl) (by decide) 8)
      obtain ⟨v13, e13⟩ : ∃ z_, M11 413 6 = z_ := ⟨_, rfl⟩
      have b13 : (-2147483648) ≤ v13 ∧ v13 ≤ 2147483647 := by rw [← e13]; exact (CI.r hC_M11 (show kd 413 = 44 from rfl) (by decide) 6)
      obtain ⟨v14, e14⟩ : ∃ z_, M11 413 7 = z_ := ⟨_, rfl⟩
      have b14 : 0 ≤ v14 ∧ v14 ≤ 1600 := by rw [← e14]; exact (CI.r hC_M11 (show kd 413 = 44 from rfl) (by decide) 7)
      have hs1 : zso f N t0 = 1 := by omega
      have hw0 := zcv_0 (w := zwd f N t0) (by have y := k10 hs1; omega)
      have hch := ck0.1.1
      rw [e8] at hch
      have tk1 : TKc f N (znx f N t0) M11 := by
        have y := w11_0.resolve_left (by omega)
        rw [show v3 = zte f N t0 by omega] at y
        exact y
      have ck1 := CKb.fr ck0 hC_M hf_M11 rfl
      obtain ⟨a0, a1, a7, a8, a6, a10, a9, a11⟩ := id tk1
      clear a9 a11
      skip
      refine jr.aload_n rfl rfl ?_
      refine jr_v rfl rfl (Or.inl rfl) rfl rfl (by decide) rfl ⟨rfl, Nat.le_of_ble_eq_true rfl, Nat.le_of_ble_eq_true rfl⟩ rfl (jc.deep (c_Parser_isName_z hC_M11  (fun r15 z15 w15_0 => ?_)) (by decide))
      refine jr.if_ne rfl rfl (by omega) (fun h39 => ?_) (fun h39 => ?_)
      · refine jr.aload_n rfl rfl ?_
        refine jr.aload_n rfl rfl ?_
        refine jr.getf (i := 7) (x := v14) (v := .int (Int32.ofInt (v14))) rfl rfl (by decide) rfl (by decide) rfl rfl e14 rfl ?_
        have e17 : M11 413 3 = v1 := (hf_M11.g (show kd 413 = 44 from rfl) rfl).trans e1
        have hv7 : v14 = znx f N t0 := by omega
        have hgn : zso f N (znx f N t0) = 1 ∧ (zwd f N (znx f N t0) = -1 ∨ 45 ≤ zwd f N (znx f N t0)) := ⟨by omega, (zcv_n f N (znx f N t0)).mp (by have y := a10 (by omega); omega)⟩
        refine jr_v rfl rfl (Or.inl rfl) rfl rfl (by decide) rfl ⟨rfl, Nat.le_of_ble_eq_true rfl, Nat.le_of_ble_eq_true rfl⟩ rfl (jc.deep (c_Parser_chainNamed_z hC_M11 (by omega) (by have hq0 : M11 413 3 = v1 := e17; omega) (TXc.fr p2 hf_M11 rfl) ck1.1 (by rw [hv7]; exact hgn.1) (fun r16 z16 w16_0 w16_1 => ?_)) (by decide))
        skip
        refine jr.iconst rfl ?_
        refine jr.icmp_eq rfl rfl (by omega) (by omega) (fun h56 => ?_) (fun h56 => ?_)
        · refine jr.aload_n rfl rfl ?_
          refine jr.getf (i := 5) (v := .ref 420) rfl rfl (by decide) rfl (by decide) rfl rfl rfl rfl ?_
          refine jr.aload_n rfl rfl ?_
          have e18 : M11 413 2 = v8 := (hf_M11.g (show kd 413 = 44 from rfl) rfl).trans e8
          have k19 : kd (v8).toNat = 47 := ((congrArg (fun z : Int => kd z.toNat) (show M11 413 2 = v8 from e18)).symm.trans (CI.x hC_M11 (show kd 413 = 44 from rfl) 2 rfl (by decide)))
          refine jr.getf (i := 2) (x := v8) (v := .ref (v8.toNat)) rfl rfl (by decide) rfl (by decide) rfl rfl e18 rfl ?_
          have e20 : M11 ((v8.toNat)) 3 = v10 := (hf_M11.g k19 rfl).trans e10
          refine jr.getf (i := 3) (x := v10) (v := .int (Int32.ofInt (v10))) rfl rfl (Nat.lt_trans (kx_47 k19).1 (by decide)) (kx_47 k19).2 (by decide) rfl rfl e20 rfl ?_
          refine jr.aload_n rfl rfl ?_
          refine jr.getf (i := 7) (x := v14) (v := .int (Int32.ofInt (v14))) rfl rfl (by decide) rfl (by decide) rfl rfl e14 rfl ?_
          refine jr.iast (i := v10) (x := v14) rfl (by decide) rfl (by decide) (by omega) (by omega) ?_
          refine jr.aload_n rfl rfl ?_
          have k21 : kd (v8).toNat = 47 := ((congrArg (fun z : Int => kd z.toNat) (show (ju M11 420 v10 v14) 413 2 = v8 from ((ju_c _ _ (by decide)).trans e18))).symm.trans (CI.x (CI.u hC_M11 (i := v10) (show kd 420 = 45 from rfl) (show (-2147483648 : Int) ≤ _ ∧ _ ≤ (2147483647 : Int) from by omega) rfl) (show kd 413 = 44 from rfl) 2 rfl (by decide)))
          refine jr.getf (i := 2) (x := v8) (v := .ref (v8.toNat)) rfl rfl (by decide) rfl (by decide) rfl rfl ((ju_c _ _ (by decide)).trans e18) rfl ?_
          have k22 := kf_47_5 k21
          refine jr.getf (i := 5) (v := .ref ((v8.toNat) + 3)) rfl rfl (Nat.lt_trans (kx_47 k21).1 (by decide)) (kx_47 k21).2 (by decide) rfl rfl rfl (jval_ref rfl k22.1) ?_
          refine jr.aload_n rfl rfl ?_
          have k23 : kd (v8).toNat = 47 := ((congrArg (fun z : Int => kd z.toNat) (show (ju M11 420 v10 v14) 413 2 = v8 from ((ju_c _ _ (by decide)).trans e18))).symm.trans (CI.x (CI.u hC_M11 (i := v10) (show kd 420 = 45 from rfl) (show (-2147483648 : Int) ≤ _ ∧ _ ≤ (2147483647 : Int) from by omega) rfl) (show kd 413 = 44 from rfl) 2 rfl (by decide)))
          refine jr.getf (i := 2) (x := v8) (v := .ref (v8.toNat)) rfl rfl (by decide) rfl (by decide) rfl rfl ((ju_c _ _ (by decide)).trans e18) rfl ?_
          refine jr.getf (i := 3) (x := v10) (v := .int (Int32.ofInt (v10))) rfl rfl (Nat.lt_trans (kx_47 k23).1 (by decide)) (kx_47 k23).2 (by decide) rfl rfl ((ju_c _ _ (kd_ne (by rw [k23, (show kd 420 = 45 from rfl)]; decide))).trans e20) rfl ?_
          refine jr.aload_n rfl rfl ?_
          have k24 : kd (v8).toNat = 47 := ((congrArg (fun z : Int => kd z.toNat) (show (ju M11 420 v10 v14) 413 2 = v8 from ((ju_c _ _ (by decide)).trans e18))).symm.trans (CI.x (CI.u hC_M11 (i := v10) (show kd 420 = 45 from rfl) (show (-2147483648 : Int) ≤ _ ∧ _ ≤ (2147483647 : Int) from by omega) rfl) (show kd 413 = 44 from rfl) 2 rfl (by decide)))
          refine jr.getf (i := 2) (x := v8) (v := .ref (v8.toNat)) rfl rfl (by decide) rfl (by decide) rfl rfl ((ju_c _ _ (by decide)).trans e18) rfl ?_
          obtain ⟨v25, e25⟩ : ∃ z_, M ((v8.toNat)) 2 = z_ := ⟨_, rfl⟩
          have b25 : 0 ≤ v25 ∧ v25 ≤ 932 := by rw [← e25]; exact (CI.r hC_M k24 (by decide) 2)
          have e26 : M11 ((v8.toNat)) 2 = v25 := (hf_M11.g k24 rfl).trans e25
          refine jr.getf (i := 2) (x := v25) (v := .int (Int32.ofInt (v25))) rfl rfl (Nat.lt_trans (kx_47 k24).1 (by decide)) (kx_47 k24).2 (by decide) rfl rfl ((ju_c _ _ (kd_ne (by rw [k24, (show kd 420 = 45 from rfl)]; decide))).trans e26) rfl ?_
          refine jr.iast (i := v10) (x := v25) rfl (Nat.lt_trans (kx_50 k22.2).1 (by decide)) (kx_50 k22.2).2 (by decide) (by omega) (by omega) ?_
          refine jr.aload_n rfl rfl ?_
          have e28 : M11 413 0 = v6 := (hf_M11.g (show kd 413 = 44 from rfl) rfl).trans e6
          refine jr_v rfl rfl (Or.inl rfl) rfl rfl (by decide) rfl ⟨rfl, Nat.le_of_ble_eq_true rfl, Nat.le_of_ble_eq_true rfl⟩ rfl (jc.deep (c_Parser_advance_z (CI.u (CI.u hC_M11 (i := v10) (show kd 420 = 45 from rfl) (show (-2147483648 : Int) ≤ _ ∧ _ ≤ (2147483647 : Int) from by omega) rfl) (i := v10) k22.2 (show (-2147483648 : Int) ≤ _ ∧ _ ≤ (2147483647 : Int) from by omega) rfl) (FR.rfl _ ((ju (ju M11 420 v10 v14) (((v8.toNat) + 3)) v10 v25)))  ((ju_c _ _ (kd_ne (by rw [(show kd 413 = 44 from rfl), k22.2]; decide))).trans ((ju_c _ _ (by decide)).trans e28)) ((ju_c _ _ (kd_ne (by rw [(show kd 413 = 44 from rfl), k22.2]; decide))).trans ((ju_c _ _ (by decide)).trans e12)) (by have hq0 : (ju (ju M11 420 v10 v14) (((v8.toNat) + 3)) v10 v25) 413 3 = v1 := ((ju_c _ _ (kd_ne (by rw [(show kd 413 = 44 from rfl), k22.2]; decide))).trans ((ju_c _ _ (by decide)).trans e17)); omega) (TXc.fr (TXc.fr p2 hf_M11 rfl) (FR.o (FR.o (FR.rfl [(45, 1000), (50, 1000)] M11) (show kd 420 = 45 from rfl) rfl) k22.2 rfl) rfl) (by have hq0 : (ju (ju M11 420 v10 v14) (((v8.toNat) + 3)) v10 v25) 413 8 = v12 := ((ju_c _ _ (kd_ne (by rw [(show kd 413 = 44 from rfl), k22.2]; decide))).trans ((ju_c _ _ (by decide)).trans e12)); have hq1 : (ju (ju M11 420 v10 v14) (((v8.toNat) + 3)) v10 v25) 413 6 = v13 := ((ju_c _ _ (kd_ne (by rw [(show kd 413 = 44 from rfl), k22.2]; decide))).trans ((ju_c _ _ (by decide)).trans e13)); have hq2 : (ju (ju M11 420 v10 v14) (((v8.toNat) + 3)) v10 v25) 413 7 = v14 := ((ju_c _ _ (kd_ne (by rw [(show kd 413 = 44 from rfl), k22.2]; decide))).trans ((ju_c _ _ (by decide)).trans e14)); omega) (fun M27 hC_M27 hf_M27 w27_0 w27_1 => ?_)) (by decide))
          have ht_M27 : FR W_c_Parser_chain_z T M27 := FR.t (FR.o (FR.o ht_M11 (show kd 420 = 45 from rfl) rfl) k22.2 rfl) hf_M27 (kw_sub rfl)
          obtain ⟨v29, e29⟩ : ∃ z_, M27 413 8 = z_ := ⟨_, rfl⟩
          have b29 : 0 ≤ v29 ∧ v29 ≤ 1600 := by rw [← e29]; exact (CI.r hC_M27 (show kd 413 = 44 from rfl) (by decide) 8)
          obtain ⟨v30, e30⟩ : ∃ z_, M27 413 6 = z_ := ⟨_, rfl⟩
          have b30 : (-2147483648) ≤ v30 ∧ v30 ≤ 2147483647 := by rw [← e30]; exact (CI.r hC_M27 (show kd 413 = 44 from rfl) (by decide) 6)
          obtain ⟨v31, e31⟩ : ∃ z_, M27 413 7 = z_ := ⟨_, rfl⟩
          have b31 : 0 ≤ v31 ∧ v31 ≤ 1600 := by rw [← e31]; exact (CI.r hC_M27 (show kd 413 = 44 from rfl) (by decide) 7)
          have hzh := w16_0 (by omega)
          rw [hv7] at hzh
          obtain ⟨v32, e32⟩ : ∃ z_, M 413 1 = z_ := ⟨_, rfl⟩
          have b32 : (-2147483648) ≤ v32 ∧ v32 ≤ 2147483647 := by rw [← e32]; exact (CI.r hC_M (show kd 413 = 44 from rfl) (by decide) 1)
          have e33 : M11 413 1 = v32 := (hf_M11.g (show kd 413 = 44 from rfl) rfl).trans e32
          have ckp := CKb.into (b := ((v8.toNat) + 3)) (c := v10) (v := v14) (s := v25) ck1 hC_M11 (FR.o (FR.o (FR.rfl [(45, 1000), (50, 1000)] M11) (show kd 420 = 45 from rfl) rfl) k22.2 rfl) rfl (kd_ne (by rw [(show kd 420 = 45 from rfl), k22.2]; decide)) (by rw [e18]; exact e20) (by omega) (by rw [hv7]; exact ⟨hgn.1, by have y := znx_ge f N t0; omega, by have y := zso_lt (f := f) (N := N) (t := znx f N t0) (by have y := hgn.1; omega); omega⟩)
          have hq1 : CZ f N xs ((ju (ju M11 420 v10 v14) (((v8.toNat) + 3)) v10 v25)) (znx f N t0) k0 (nm ++ [v14]) ak 2 [] True := Or.inr ⟨⟨(((ju_c _ _ (kd_ne (by rw [(show kd 413 = 44 from rfl), k22.2]; decide))).trans ((ju_c _ _ (by decide)).trans e28))).trans (by omega), (((ju_c _ _ (kd_ne (by rw [(show kd 413 = 44 from rfl), k22.2]; decide))).trans ((ju_c _ _ (by decide)).trans e33))).trans (by omega)⟩, ⟨tk1.fr (FR.o (FR.o (FR.rfl [(45, 1000), (50, 1000)] M11) (show kd 420 = 45 from rfl) rfl) k22.2 rfl) rfl, ckp⟩, trivial⟩
          have hq2 := CZ.adv hq1 (CI.u (CI.u hC_M11 (i := v10) (show kd 420 = 45 from rfl) (show (-2147483648 : Int) ≤ _ ∧ _ ≤ (2147483647 : Int) from by omega) rfl) (i := v10) k22.2 (show (-2147483648 : Int) ≤ _ ∧ _ ≤ (2147483647 : Int) from by omega) rfl) hf_M27 ((ju_c _ _ (kd_ne (by rw [(show kd 413 = 44 from rfl), k22.2]; decide))).trans ((ju_c _ _ (by decide)).trans e28)) ((ju_c _ _ (kd_ne (by rw [(show kd 413 = 44 from rfl), k22.2]; decide))).trans ((ju_c _ _ (by decide)).trans e12)) w27_0
          clear w27_0
          clear w11_1
          refine jr.aload_n rfl rfl ?_
          refine jr.iconst rfl ?_
          refine jr.iconst rfl ?_
          have e35 : M27 413 3 = v1 := (hf_M27.g (show kd 413 = 44 from rfl) rfl).trans ((ju_c _ _ (kd_ne (by rw [(show kd 413 = 44 from rfl), k22.2]; decide))).trans ((ju_c _ _ (by decide)).trans e17))
          refine jr_v rfl rfl (Or.inl rfl) rfl rfl (by decide) rfl ⟨rfl, Nat.le_of_ble_eq_true rfl, Nat.le_of_ble_eq_true rfl⟩ rfl (jc.deep ((PXz_all (A := A) 300).2.2.2.2.1 hC_M27 (FR.rfl _ M27) (by omega) (by omega) (by have hq0 : M27 413 3 = v1 := e35; omega) (MP.fr (MP.w (MP.n (MP.fr p1 hC_M hf_M11 rfl) hC_M11 (show kd 420 = 45 from rfl) (by decide) (Or.inr (by decide))) (CI.u hC_M11 (i := v10) (show kd 420 = 45 from rfl) (show (-2147483648 : Int) ≤ _ ∧ _ ≤ (2147483647 : Int) from by omega) rfl) ((ju_c _ _ (by decide)).trans e18) ⟨by omega, by omega⟩) (CI.u (CI.u hC_M11 (i := v10) (show kd 420 = 45 from rfl) (show (-2147483648 : Int) ≤ _ ∧ _ ≤ (2147483647 : Int) from by omega) rfl) (i := v10) k22.2 (show (-2147483648 : Int) ≤ _ ∧ _ ≤ (2147483647 : Int) from by omega) rfl) hf_M27 rfl) (by omega) (TXc.fr (TXc.fr (TXc.fr p2 hf_M11 rfl) (FR.o (FR.o (FR.rfl [(45, 1000), (50, 1000)] M11) (show kd 420 = 45 from rfl) rfl) k22.2 rfl) rfl) hf_M27 rfl) (by have hq0 : M27 413 8 = v29 := e29; have hq1 : M27 413 6 = v30 := e30; have hq2 : M27 413 7 = v31 := e31; omega) hq2 (by decide) (show (0 : Int) = 0 from rfl) (fun _ g hd => zr.nmc (zr.eq (zr.cha hz0 ⟨hs1, hw0⟩ (by omega) hgn hzh g) rfl rfl rfl (by decide) rfl rfl) (by rw [hv7])) (fun _ g hd => absurd hd (by decide)) (fun _ g => zr.cbf hz0 ⟨hs1, hw0⟩ (by omega) hgn hzh g) (fun M34 hC_M34 hf_M34 w34_0 w34_1 w34_2 => ?_)) (by decide))
          have ht_M34 : FR W_c_Parser_chain_z T M34 := FR.t ht_M27 hf_M34 (kw_sub rfl)
          obtain ⟨v36, e36⟩ : ∃ z_, M34 413 8 = z_ := ⟨_, rfl⟩
          have b36 : 0 ≤ v36 ∧ v36 ≤ 1600 := by rw [← e36]; exact (CI.r hC_M34 (show kd 413 = 44 from rfl) (by decide) 8)
          obtain ⟨v37, e37⟩ : ∃ z_, M34 413 6 = z_ := ⟨_, rfl⟩
          have b37 : (-2147483648) ≤ v37 ∧ v37 ≤ 2147483647 := by rw [← e37]; exact (CI.r hC_M34 (show kd 413 = 44 from rfl) (by decide) 6)
          obtain ⟨v38, e38⟩ : ∃ z_, M34 413 7 = z_ := ⟨_, rfl⟩
          have b38 : 0 ≤ v38 ∧ v38 ≤ 1600 := by rw [← e38]; exact (CI.r hC_M34 (show kd 413 = 44 from rfl) (by decide) 7)
          obtain ⟨t2, k2, ak2, hu2, hq3⟩ := w34_2
          refine jr.aload_n rfl rfl ?_
          have e39 : M27 413 2 = v8 := (hf_M27.g (show kd 413 = 44 from rfl) rfl).trans ((ju_c _ _ (kd_ne (by rw [(show kd 413 = 44 from rfl), k22.2]; decide))).trans ((ju_c _ _ (by decide)).trans e18))
          have e40 : M34 413 2 = v8 := (hf_M34.g (show kd 413 = 44 from rfl) rfl).trans e39
          have k41 : kd (v8).toNat = 47 := ((congrArg (fun z : Int => kd z.toNat) (show M34 413 2 = v8 from e40)).symm.trans (CI.x hC_M34 (show kd 413 = 44 from rfl) 2 rfl (by decide)))
          refine jr.getf (i := 2) (x := v8) (v := .ref (v8.toNat)) rfl rfl (by decide) rfl (by decide) rfl rfl e40 rfl ?_
          refine jr.bipush rfl (by decide) ?_
          refine jr.iconst rfl ?_
          obtain ⟨v43, e43⟩ : ∃ z_, M34 ((v8.toNat)) 2 = z_ := ⟨_, rfl⟩
          have b43 : 0 ≤ v43 ∧ v43 ≤ 932 := by rw [← e43]; exact (CI.r hC_M34 k41 (by decide) 2)
          refine jr_v rfl rfl (Or.inl rfl) rfl rfl (Nat.lt_trans (kx_47 k41).1 (by decide)) (kx_47 k41).2 ⟨rfl, Nat.le_of_ble_eq_true rfl, Nat.le_of_ble_eq_true rfl⟩ rfl (jc.deep (c_Program_emit_z hC_M34 (FR.rfl _ M34) k41 (by omega) (by omega) e43 rfl (by have hq0 : M34 413 2 = v8 := e40; omega) w34_0 (fun r42 M42 hC_M42 hf_M42 z42 w42_0 w42_1 w42_2 => ?_)) (by decide))
          have ht_M42 : FR W_c_Parser_chain_z T M42 := FR.t ht_M34 hf_M42 (kw_sub rfl)
          have hq4 := CZ.emn (p := (v8.toNat)) hq3 hC_M34 hf_M42 (e40.trans (by omega)) e43 w42_2 (by omega) (by omega)
          clear w42_2 w42_1
          refine jr.pop rfl rfl ?_
          refine jr.aload_n rfl rfl ?_
          have e44 : M42 413 2 = v8 := (hf_M42.g (show kd 413 = 44 from rfl) rfl).trans e40
          have k45 : kd (v8).toNat = 47 := ((congrArg (fun z : Int => kd z.toNat) (show M42 413 2 = v8 from e44)).symm.trans (CI.x hC_M42 (show kd 413 = 44 from rfl) 2 rfl (by decide)))
          refine jr.getf (i := 2) (x := v8) (v := .ref (v8.toNat)) rfl rfl (by decide) rfl (by decide) rfl rfl e44 rfl ?_
          have k46 := kf_47_6 k45
          refine jr.getf (i := 6) (v := .ref ((v8.toNat) + 4)) rfl rfl (Nat.lt_trans (kx_47 k45).1 (by decide)) (kx_47 k45).2 (by decide) rfl rfl rfl (jval_ref rfl k46.1) ?_
          refine jr.aload_n rfl rfl ?_
          have k47 : kd (v8).toNat = 47 := ((congrArg (fun z : Int => kd z.toNat) (show M42 413 2 = v8 from e44)).symm.trans (CI.x hC_M42 (show kd 413 = 44 from rfl) 2 rfl (by decide)))
          refine jr.getf (i := 2) (x := v8) (v := .ref (v8.toNat)) rfl rfl (by decide) rfl (by decide) rfl rfl e44 rfl ?_
          have e48 : M27 ((v8.toNat)) 3 = v10 := (hf_M27.g k47 rfl).trans ((ju_c _ _ (kd_ne (by rw [k47, k22.2]; decide))).trans ((ju_c _ _ (kd_ne (by rw [k47, (show kd 420 = 45 from rfl)]; decide))).trans e20))
          have e49 : M34 ((v8.toNat)) 3 = v10 := (hf_M34.g k47 rfl).trans e48
          have e50 : M42 ((v8.toNat)) 3 = v10 := (hf_M42.g k47 rfl).trans e49
          refine jr.getf (i := 3) (x := v10) (v := .int (Int32.ofInt (v10))) rfl rfl (Nat.lt_trans (kx_47 k47).1 (by decide)) (kx_47 k47).2 (by decide) rfl rfl e50 rfl ?_
          refine jr.aload_n rfl rfl ?_
          have k51 : kd (v8).toNat = 47 := ((congrArg (fun z : Int => kd z.toNat) (show M42 413 2 = v8 from e44)).symm.trans (CI.x hC_M42 (show kd 413 = 44 from rfl) 2 rfl (by decide)))
          refine jr.getf (i := 2) (x := v8) (v := .ref (v8.toNat)) rfl rfl (by decide) rfl (by decide) rfl rfl e44 rfl ?_
          obtain ⟨v52, e52⟩ : ∃ z_, M42 ((v8.toNat)) 2 = z_ := ⟨_, rfl⟩
          have b52 : 0 ≤ v52 ∧ v52 ≤ 932 := by rw [← e52]; exact (CI.r hC_M42 k51 (by decide) 2)
          refine jr.getf (i := 2) (x := v52) (v := .int (Int32.ofInt (v52))) rfl rfl (Nat.lt_trans (kx_47 k51).1 (by decide)) (kx_47 k51).2 (by decide) rfl rfl e52 rfl ?_
          refine jr.iast (i := v10) (x := v52) rfl (Nat.lt_trans (kx_49 k46.2).1 (by decide)) (kx_49 k46.2).2 (by decide) (by omega) (by omega) ?_
          refine jr.aload_n rfl rfl ?_
          obtain ⟨v53, e53⟩ : ∃ z_, M34 413 0 = z_ := ⟨_, rfl⟩
          have b53 : (-2147483648) ≤ v53 ∧ v53 ≤ 2147483647 := by rw [← e53]; exact (CI.r hC_M34 (show kd 413 = 44 from rfl) (by decide) 0)
          have e54 : M42 413 0 = v53 := (hf_M42.g (show kd 413 = 44 from rfl) rfl).trans e53
          refine jr.getf (i := 0) (x := v53) (v := .int (Int32.ofInt (v53))) rfl rfl (by decide) rfl (by decide) rfl rfl ((ju_c _ _ (kd_ne (by rw [(show kd 413 = 44 from rfl), k46.2]; decide))).trans e54) rfl ?_
          refine jr.if_ne rfl rfl (by omega) (fun h150 => ?_) (fun h150 => ?_)
          · refine jr.aload_n rfl rfl ?_
            have k55 : kd (v8).toNat = 47 := ((congrArg (fun z : Int => kd z.toNat) (show (ju M42 (((v8.toNat) + 4)) v10 v52) 413 2 = v8 from ((ju_c _ _ (kd_ne (by rw [(show kd 413 = 44 from rfl), k46.2]; decide))).trans e44))).symm.trans (CI.x (CI.u hC_M42 (i := v10) k46.2 (show (-2147483648 : Int) ≤ _ ∧ _ ≤ (2147483647 : Int) from by omega) rfl) (show kd 413 = 44 from rfl) 2 rfl (by decide)))
            refine jr.getf (i := 2) (x := v8) (v := .ref (v8.toNat)) rfl rfl (by decide) rfl (by decide) rfl rfl ((ju_c _ _ (kd_ne (by rw [(show kd 413 = 44 from rfl), k46.2]; decide))).trans e44) rfl ?_
            refine jr.bipush rfl (by decide) ?_
            refine jr.iconst rfl ?_
            refine jr_v rfl rfl (Or.inl rfl) rfl rfl (Nat.lt_trans (kx_47 k55).1 (by decide)) (kx_47 k55).2 ⟨rfl, Nat.le_of_ble_eq_true rfl, Nat.le_of_ble_eq_true rfl⟩ rfl (jc.deep (c_Program_emit_z (CI.u hC_M42 (i := v10) k46.2 (show (-2147483648 : Int) ≤ _ ∧ _ ≤ (2147483647 : Int) from by omega) rfl) (FR.rfl _ ((ju M42 (((v8.toNat) + 4)) v10 v52))) k55 (by omega) (by omega) ((ju_c _ _ (kd_ne (by rw [k55, k46.2]; decide))).trans e52) rfl (by have hq0 : (ju M42 (((v8.toNat) + 4)) v10 v52) 413 2 = v8 := ((ju_c _ _ (kd_ne (by rw [(show kd 413 = 44 from rfl), k46.2]; decide))).trans e44); omega) (MP.w w42_0 hC_M42 e44 ⟨by omega, by omega⟩) (fun r56 M56 hC_M56 hf_M56 z56 w56_0 w56_1 w56_2 => ?_)) (by decide))
            have ht_M56 : FR W_c_Parser_chain_z T M56 := FR.t (FR.o ht_M42 k46.2 rfl) hf_M56 (kw_sub rfl)
            have hq5 := CZ.fr (M := ((ju M42 (((v8.toNat) + 4)) v10 v52))) hq4 hC_M42 (FR.o (FR.rfl [(49, 1000)] M42) k46.2 rfl) rfl rfl rfl
            have hr0 : ((ju M42 (((v8.toNat) + 4)) v10 v52)) 413 0 = v53 := ((ju_c _ _ (kd_ne (by rw [(show kd 413 = 44 from rfl), k46.2]; decide))).trans e54)
            have hq6 := hq5.t0.tk.imp (fun z => (⟨z.1.1, fun q => by have y0 := z.1.2; have y2 := z.2.2.2.2.1; have y := z.2.2.2.2.2.1 q.1; rw [q.2, show zcv 1 = 1 by decide] at y; omega⟩ : _ ∧ ¬ (zso f N (znx f N t2) = 1 ∧ zwd f N (znx f N t2) = 1)))
            have hq9 := CZ.emn (p := (v8.toNat)) hq6 (CI.u hC_M42 (i := v10) k46.2 (show (-2147483648 : Int) ≤ _ ∧ _ ≤ (2147483647 : Int) from by omega) rfl) hf_M56 (((ju_c _ _ (kd_ne (by rw [(show kd 413 = 44 from rfl), k46.2]; decide))).trans e44).trans (by omega)) ((ju_c _ _ (kd_ne (by rw [k55, k46.2]; decide))).trans e52) w56_2 (by omega) (by omega)
            clear w56_2 w56_1
            refine jr.pop rfl rfl ?_
            refine jr.aload_n rfl rfl ?_
            have e57 : M56 413 2 = v8 := (hf_M56.g (show kd 413 = 44 from rfl) rfl).trans ((ju_c _ _ (kd_ne (by rw [(show kd 413 = 44 from rfl), k46.2]; decide))).trans e44)
            have k58 : kd (v8).toNat = 47 := ((congrArg (fun z : Int => kd z.toNat) (show M56 413 2 = v8 from e57)).symm.trans (CI.x hC_M56 (show kd 413 = 44 from rfl) 2 rfl (by decide)))
            refine jr.getf (i := 2) (x := v8) (v := .ref (v8.toNat)) rfl rfl (by decide) rfl (by decide) rfl rfl e57 rfl ?_
            refine jr.dup rfl rfl ?_
            have e59 : M56 ((v8.toNat)) 3 = v10 := (hf_M56.g k58 rfl).trans ((ju_c _ _ (kd_ne (by rw [k58, k46.2]; decide))).trans e50)
            refine jr.getf (i := 3) (x := v10) (v := .int (Int32.ofInt (v10))) rfl rfl (Nat.lt_trans (kx_47 k58).1 (by decide)) (kx_47 k58).2 (by decide) rfl rfl e59 rfl ?_
            refine jr.iconst rfl ?_
            refine jr.iadd rfl ?_
            refine jr.putf (i := 3) (x := (v10 + 1)) rfl rfl (Nat.lt_trans (kx_47 k58).1 (by decide)) (kx_47 k58).2 (by decide) rfl rfl rfl rfl rfl ?_
            have e60 : M42 413 8 = v36 := (hf_M42.g (show kd 413 = 44 from rfl) rfl).trans e36
            have e61 : M56 413 8 = v36 := (hf_M56.g (show kd 413 = 44 from rfl) rfl).trans ((ju_c _ _ (kd_ne (by rw [(show kd 413 = 44 from rfl), k46.2]; decide))).trans e60)
            have e62 : M42 413 6 = v37 := (hf_M42.g (show kd 413 = 44 from rfl) rfl).trans e37
            have e63 : M56 413 6 = v37 := (hf_M56.g (show kd 413 = 44 from rfl) rfl).trans ((ju_c _ _ (kd_ne (by rw [(show kd 413 = 44 from rfl), k46.2]; decide))).trans e62)
            have e64 : M42 413 7 = v38 := (hf_M42.g (show kd 413 = 44 from rfl) rfl).trans e38
            have e65 : M56 413 7 = v38 := (hf_M56.g (show kd 413 = 44 from rfl) rfl).trans ((ju_c _ _ (kd_ne (by rw [(show kd 413 = 44 from rfl), k46.2]; decide))).trans e64)
            exact jr.vreturn rfl rfl (q _ (CI.u hC_M56 (i := 3) k58 (show (0 : Int) ≤ _ ∧ _ ≤ (16 : Int) from by omega) rfl) (FR.o ht_M56 k58 rfl)  (MP.w w56_0 hC_M56 e57 ⟨by omega, by omega⟩) (by have hq0 : (ju M56 ((v8.toNat)) 3 (v10 + 1)) 413 8 = v36 := ((ju_i _ _ (by decide)).trans e61); have hq1 : (ju M56 ((v8.toNat)) 3 (v10 + 1)) 413 6 = v37 := ((ju_i _ _ (by decide)).trans e63); have hq2 : (ju M56 ((v8.toNat)) 3 (v10 + 1)) 413 7 = v38 := ((ju_i _ _ (by decide)).trans e65); omega) (CZ.out (p := (v8.toNat)) ((hq9.wk (fun _ h => by cases h)).le (by decide) (by decide)) hC_M56 (e57.trans (by omega)) e59 (fun z => zr.bl0 z.1.1.1.1 z.1.1.1.2 z.1.2) (by rw [List.length_append]; show ((nm.length + 1 : Nat) : Int) = _; omega)))
          · refine jr.aload_n rfl rfl ?_
            refine jr.iconst rfl ?_
            refine jr_v rfl rfl (Or.inl rfl) rfl rfl (by decide) rfl ⟨rfl, Nat.le_of_ble_eq_true rfl, Nat.le_of_ble_eq_true rfl⟩ rfl (jc.deep (c_Parser_isWord_z (CI.u hC_M42 (i := v10) k46.2 (show (-2147483648 : Int) ≤ _ ∧ _ ≤ (2147483647 : Int) from by omega) rfl) (by omega) (fun r66 z66 w66_0 => ?_)) (by decide))
            refine jr.if_eq rfl rfl (by omega) (fun h158 => ?_) (fun h158 => ?_)
            · refine jr.aload_n rfl rfl ?_
              have k67 : kd (v8).toNat = 47 := ((congrArg (fun z : Int => kd z.toNat) (show (ju M42 (((v8.toNat) + 4)) v10 v52) 413 2 = v8 from ((ju_c _ _ (kd_ne (by rw [(show kd 413 = 44 from rfl), k46.2]; decide))).trans e44))).symm.trans (CI.x (CI.u hC_M42 (i := v10) k46.2 (show (-2147483648 : Int) ≤ _ ∧ _ ≤ (2147483647 : Int) from by omega) rfl) (show kd 413 = 44 from rfl) 2 rfl (by decide)))
              refine jr.getf (i := 2) (x := v8) (v := .ref (v8.toNat)) rfl rfl (by decide) rfl (by decide) rfl rfl ((ju_c _ _ (kd_ne (by rw [(show kd 413 = 44 from rfl), k46.2]; decide))).trans e44) rfl ?_
              refine jr.bipush rfl (by decide) ?_
              refine jr.iconst rfl ?_
              refine jr_v rfl rfl (Or.inl rfl) rfl rfl (Nat.lt_trans (kx_47 k67).1 (by decide)) (kx_47 k67).2 ⟨rfl, Nat.le_of_ble_eq_true rfl, Nat.le_of_ble_eq_true rfl⟩ rfl (jc.deep (c_Program_emit_z (CI.u hC_M42 (i := v10) k46.2 (show (-2147483648 : Int) ≤ _ ∧ _ ≤ (2147483647 : Int) from by omega) rfl) (FR.rfl _ ((ju M42 (((v8.toNat) + 4)) v10 v52))) k67 (by omega) (by omega) ((ju_c _ _ (kd_ne (by rw [k67, k46.2]; decide))).trans e52) rfl (by have hq0 : (ju M42 (((v8.toNat) + 4)) v10 v52) 413 2 = v8 := ((ju_c _ _ (kd_ne (by rw [(show kd 413 = 44 from rfl), k46.2]; decide))).trans e44); omega) (MP.w w42_0 hC_M42 e44 ⟨by omega, by omega⟩) (fun r68 M68 hC_M68 hf_M68 z68 w68_0 w68_1 w68_2 => ?_)) (by decide))
              have ht_M68 : FR W_c_Parser_chain_z T M68 := FR.t (FR.o ht_M42 k46.2 rfl) hf_M68 (kw_sub rfl)
              have hq5 := CZ.fr (M := ((ju M42 (((v8.toNat) + 4)) v10 v52))) hq4 hC_M42 (FR.o (FR.rfl [(49, 1000)] M42) k46.2 rfl) rfl rfl rfl
              have hr0 : ((ju M42 (((v8.toNat) + 4)) v10 v52)) 413 0 = v53 := ((ju_c _ _ (kd_ne (by rw [(show kd 413 = 44 from rfl), k46.2]; decide))).trans e54)
              have hq6 := hq5.t0.tk.imp (fun z => (⟨z.1.1, fun q => by have y0 := z.1.2; have y2 := z.2.2.2.2.1; have y := z.2.2.2.2.2.1 q.1; rw [q.2, show zcv 1 = 1 by decide] at y; omega⟩ : _ ∧ ¬ (zso f N (znx f N t2) = 1 ∧ zwd f N (znx f N t2) = 1)))
              have hq9 := CZ.emn (p := (v8.toNat)) hq6 (CI.u hC_M42 (i := v10) k46.2 (show (-2147483648 : Int) ≤ _ ∧ _ ≤ (2147483647 : Int) from by omega) rfl) hf_M68 (((ju_c _ _ (kd_ne (by rw [(show kd 413 = 44 from rfl), k46.2]; decide))).trans e44).trans (by omega)) ((ju_c _ _ (kd_ne (by rw [k67, k46.2]; decide))).trans e52) w68_2 (by omega) (by omega)
              clear w68_2 w68_1
              refine jr.pop rfl rfl ?_
              refine jr.aload_n rfl rfl ?_
              have e69 : M68 413 2 = v8 := (hf_M68.g (show kd 413 = 44 from rfl) rfl).trans ((ju_c _ _ (kd_ne (by rw [(show kd 413 = 44 from rfl), k46.2]; decide))).trans e44)
              have k70 : kd (v8).toNat = 47 := ((congrArg (fun z : Int => kd z.toNat) (show M68 413 2 = v8 from e69)).symm.trans (CI.x hC_M68 (show kd 413 = 44 from rfl) 2 rfl (by decide)))
              refine jr.getf (i := 2) (x := v8) (v := .ref (v8.toNat)) rfl rfl (by decide) rfl (by decide) rfl rfl e69 rfl ?_
              refine jr.dup rfl rfl ?_
              have e71 : M68 ((v8.toNat)) 3 = v10 := (hf_M68.g k70 rfl).trans ((ju_c _ _ (kd_ne (by rw [k70, k46.2]; decide))).trans e50)
              refine jr.getf (i := 3) (x := v10) (v := .int (Int32.ofInt (v10))) rfl rfl (Nat.lt_trans (kx_47 k70).1 (by decide)) (kx_47 k70).2 (by decide) rfl rfl e71 rfl ?_
              refine jr.iconst rfl ?_
              refine jr.iadd rfl ?_
              refine jr.putf (i := 3) (x := (v10 + 1)) rfl rfl (Nat.lt_trans (kx_47 k70).1 (by decide)) (kx_47 k70).2 (by decide) rfl rfl rfl rfl rfl ?_
              have e72 : M42 413 8 = v36 := (hf_M42.g (show kd 413 = 44 from rfl) rfl).trans e36
              have e73 : M68 413 8 = v36 := (hf_M68.g (show kd 413 = 44 from rfl) rfl).trans ((ju_c _ _ (kd_ne (by rw [(show kd 413 = 44 from rfl), k46.2]; decide))).trans e72)
              have e74 : M42 413 6 = v37 := (hf_M42.g (show kd 413 = 44 from rfl) rfl).trans e37
              have e75 : M68 413 6 = v37 := (hf_M68.g (show kd 413 = 44 from rfl) rfl).trans ((ju_c _ _ (kd_ne (by rw [(show kd 413 = 44 from rfl), k46.2]; decide))).trans e74)
              have e76 : M42 413 7 = v38 := (hf_M42.g (show kd 413 = 44 from rfl) rfl).trans e38
              have e77 : M68 413 7 = v38 := (hf_M68.g (show kd 413 = 44 from rfl) rfl).trans ((ju_c _ _ (kd_ne (by rw [(show kd 413 = 44 from rfl), k46.2]; decide))).trans e76)
              exact jr.vreturn rfl rfl (q _ (CI.u hC_M68 (i := 3) k70 (show (0 : Int) ≤ _ ∧ _ ≤ (16 : Int) from by omega) rfl) (FR.o ht_M68 k70 rfl)  (MP.w w68_0 hC_M68 e69 ⟨by omega, by omega⟩) (by have hq0 : (ju M68 ((v8.toNat)) 3 (v10 + 1)) 413 8 = v36 := ((ju_i _ _ (by decide)).trans e73); have hq1 : (ju M68 ((v8.toNat)) 3 (v10 + 1)) 413 6 = v37 := ((ju_i _ _ (by decide)).trans e75); have hq2 : (ju M68 ((v8.toNat)) 3 (v10 + 1)) 413 7 = v38 := ((ju_i _ _ (by decide)).trans e77); omega) (CZ.out (p := (v8.toNat)) ((hq9.wk (fun _ h => by cases h)).le (by decide) (by decide)) hC_M68 (e69.trans (by omega)) e71 (fun z => zr.bl0 z.1.1.1.1 z.1.1.1.2 z.1.2) (by rw [List.length_append]; show ((nm.length + 1 : Nat) : Int) = _; omega)))
            · refine jr.aload_n rfl rfl ?_
              have e79 : M42 413 8 = v36 := (hf_M42.g (show kd 413 = 44 from rfl) rfl).trans e36
              have e80 : M34 413 3 = v1 := (hf_M34.g (show kd 413 = 44 from rfl) rfl).trans e35
              have e81 : M42 413 3 = v1 := (hf_M42.g (show kd 413 = 44 from rfl) rfl).trans e80
              have e82 : M42 413 6 = v37 := (hf_M42.g (show kd 413 = 44 from rfl) rfl).trans e37
              have e83 : M42 413 7 = v38 := (hf_M42.g (show kd 413 = 44 from rfl) rfl).trans e38
              refine jr_v rfl rfl (Or.inl rfl) rfl rfl (by decide) rfl ⟨rfl, Nat.le_of_ble_eq_true rfl, Nat.le_of_ble_eq_true rfl⟩ rfl (jc.deep (c_Parser_advance_z (CI.u hC_M42 (i := v10) k46.2 (show (-2147483648 : Int) ≤ _ ∧ _ ≤ (2147483647 : Int) from by omega) rfl) (FR.rfl _ ((ju M42 (((v8.toNat) + 4)) v10 v52)))  ((ju_c _ _ (kd_ne (by rw [(show kd 413 = 44 from rfl), k46.2]; decide))).trans e54) ((ju_c _ _ (kd_ne (by rw [(show kd 413 = 44 from rfl), k46.2]; decide))).trans e79) (by have hq0 : (ju M42 (((v8.toNat) + 4)) v10 v52) 413 3 = v1 := ((ju_c _ _ (kd_ne (by rw [(show kd 413 = 44 from rfl), k46.2]; decide))).trans e81); omega) (TXc.fr (TXc.fr (TXc.fr (TXc.fr (TXc.fr (TXc.fr p2 hf_M11 rfl) (FR.o (FR.o (FR.rfl [(45, 1000), (50, 1000)] M11) (show kd 420 = 45 from rfl) rfl) k22.2 rfl) rfl) hf_M27 rfl) hf_M34 rfl) hf_M42 rfl) (FR.o (FR.rfl [(49, 1000)] M42) k46.2 rfl) rfl) (by have hq0 : (ju M42 (((v8.toNat) + 4)) v10 v52) 413 8 = v36 := ((ju_c _ _ (kd_ne (by rw [(show kd 413 = 44 from rfl), k46.2]; decide))).trans e79); have hq1 : (ju M42 (((v8.toNat) + 4)) v10 v52) 413 6 = v37 := ((ju_c _ _ (kd_ne (by rw [(show kd 413 = 44 from rfl), k46.2]; decide))).trans e82); have hq2 : (ju M42 (((v8.toNat) + 4)) v10 v52) 413 7 = v38 := ((ju_c _ _ (kd_ne (by rw [(show kd 413 = 44 from rfl), k46.2]; decide))).trans e83); omega) (fun M78 hC_M78 hf_M78 w78_0 w78_1 => ?_)) (by decide))
              have ht_M78 : FR W_c_Parser_chain_z T M78 := FR.t (FR.o ht_M42 k46.2 rfl) hf_M78 (kw_sub rfl)
              obtain ⟨v84, e84⟩ : ∃ z_, M78 413 8 = z_ := ⟨_, rfl⟩
              have b84 : 0 ≤ v84 ∧ v84 ≤ 1600 := by rw [← e84]; exact (CI.r hC_M78 (show kd 413 = 44 from rfl) (by decide) 8)
              obtain ⟨v85, e85⟩ : ∃ z_, M78 413 6 = z_ := ⟨_, rfl⟩
              have b85 : (-2147483648) ≤ v85 ∧ v85 ≤ 2147483647 := by rw [← e85]; exact (CI.r hC_M78 (show kd 413 = 44 from rfl) (by decide) 6)
              obtain ⟨v86, e86⟩ : ∃ z_, M78 413 7 = z_ := ⟨_, rfl⟩
              have b86 : 0 ≤ v86 ∧ v86 ≤ 1600 := by rw [← e86]; exact (CI.r hC_M78 (show kd 413 = 44 from rfl) (by decide) 7)
              have hq5 := CZ.fr (M := ((ju M42 (((v8.toNat) + 4)) v10 v52))) hq4 hC_M42 (FR.o (FR.rfl [(49, 1000)] M42) k46.2 rfl) rfl rfl rfl
              have hq6 := hq5.tk.imp (fun z => (⟨z.1, by have y2 := z.2.2.2.2.1; omega, by have y2 := z.2.2.2.2.1; have y := z.2.2.2.2.2.1 (by omega); exact zcv_1 (by omega)⟩ : _ ∧ zso f N (znx f N t2) = 1 ∧ zwd f N (znx f N t2) = 1))
              have hq7 := CZ.adv hq6 (CI.u hC_M42 (i := v10) k46.2 (show (-2147483648 : Int) ≤ _ ∧ _ ≤ (2147483647 : Int) from by omega) rfl) hf_M78 ((ju_c _ _ (kd_ne (by rw [(show kd 413 = 44 from rfl), k46.2]; decide))).trans e54) ((ju_c _ _ (kd_ne (by rw [(show kd 413 = 44 from rfl), k46.2]; decide))).trans e79) w78_0
              clear w78_0
              clear w34_1
              refine jr.aload_n rfl rfl ?_
              refine jr.iconst rfl ?_
              refine jr.iconst rfl ?_
              have e88 : M78 413 3 = v1 := (hf_M78.g (show kd 413 = 44 from rfl) rfl).trans ((ju_c _ _ (kd_ne (by rw [(show kd 413 = 44 from rfl), k46.2]; decide))).trans e81)
              refine jr_v rfl rfl (Or.inl rfl) rfl rfl (by decide) rfl ⟨rfl, Nat.le_of_ble_eq_true rfl, Nat.le_of_ble_eq_true rfl⟩ rfl (jc.deep ((PXz_all (A := A) 300).2.2.2.2.1 hC_M78 (FR.rfl _ M78) (by omega) (by omega) (by have hq0 : M78 413 3 = v1 := e88; omega) (MP.fr (MP.w w42_0 hC_M42 e44 ⟨by omega, by omega⟩) (CI.u hC_M42 (i := v10) k46.2 (show (-2147483648 : Int) ≤ _ ∧ _ ≤ (2147483647 : Int) from by omega) rfl) hf_M78 rfl) (by omega) (TXc.fr (TXc.fr (TXc.fr (TXc.fr (TXc.fr (TXc.fr (TXc.fr p2 hf_M11 rfl) (FR.o (FR.o (FR.rfl [(45, 1000), (50, 1000)] M11) (show kd 420 = 45 from rfl) rfl) k22.2 rfl) rfl) hf_M27 rfl) hf_M34 rfl) hf_M42 rfl) (FR.o (FR.rfl [(49, 1000)] M42) k46.2 rfl) rfl) hf_M78 rfl) (by have hq0 : M78 413 8 = v84 := e84; have hq1 : M78 413 6 = v85 := e85; have hq2 : M78 413 7 = v86 := e86; omega) hq7 (by decide) (show (1 : Int) = 1 from rfl) (fun z g hd => zr.eq (zr.bh z.1.1.1 z.1.1.2 z.2 g (by decide)) rfl rfl rfl (by decide) rfl rfl) (fun _ g hd => absurd hd (by decide)) (fun z g => zr.bhf z.1.1.1 z.1.1.2 z.2 g) (fun M87 hC_M87 hf_M87 w87_0 w87_1 w87_2 => ?_)) (by decide))
              have ht_M87 : FR W_c_Parser_chain_z T M87 := FR.t ht_M78 hf_M87 (kw_sub rfl)
              obtain ⟨v89, e89⟩ : ∃ z_, M87 413 8 = z_ := ⟨_, rfl⟩
              have b89 : 0 ≤ v89 ∧ v89 ≤ 1600 := by rw [← e89]; exact (CI.r hC_M87 (show kd 413 = 44 from rfl) (by decide) 8)
              obtain ⟨v90, e90⟩ : ∃ z_, M87 413 6 = z_ := ⟨_, rfl⟩
              have b90 : (-2147483648) ≤ v90 ∧ v90 ≤ 2147483647 := by rw [← e90]; exact (CI.r hC_M87 (show kd 413 = 44 from rfl) (by decide) 6)
              obtain ⟨v91, e91⟩ : ∃ z_, M87 413 7 = z_ := ⟨_, rfl⟩
              have b91 : 0 ≤ v91 ∧ v91 ≤ 1600 := by rw [← e91]; exact (CI.r hC_M87 (show kd 413 = 44 from rfl) (by decide) 7)
              obtain ⟨t3, k3, ak3, hu3, hq8⟩ := w87_2
              refine jr.aload_n rfl rfl ?_
              have e92 : M78 413 2 = v8 := (hf_M78.g (show kd 413 = 44 from rfl) rfl).trans ((ju_c _ _ (kd_ne (by rw [(show kd 413 = 44 from rfl), k46.2]; decide))).trans e44)
              have e93 : M87 413 2 = v8 := (hf_M87.g (show kd 413 = 44 from rfl) rfl).trans e92
              have k94 : kd (v8).toNat = 47 := ((congrArg (fun z : Int => kd z.toNat) (show M87 413 2 = v8 from e93)).symm.trans (CI.x hC_M87 (show kd 413 = 44 from rfl) 2 rfl (by decide)))
              refine jr.getf (i := 2) (x := v8) (v := .ref (v8.toNat)) rfl rfl (by decide) rfl (by decide) rfl rfl e93 rfl ?_
              refine jr.bipush rfl (by decide) ?_
              refine jr.iconst rfl ?_
              obtain ⟨v96, e96⟩ : ∃ z_, M87 ((v8.toNat)) 2 = z_ := ⟨_, rfl⟩
              have b96 : 0 ≤ v96 ∧ v96 ≤ 932 := by rw [← e96]; exact (CI.r hC_M87 k94 (by decide) 2)
              refine jr_v rfl rfl (Or.inl rfl) rfl rfl (Nat.lt_trans (kx_47 k94).1 (by decide)) (kx_47 k94).2 ⟨rfl, Nat.le_of_ble_eq_true rfl, Nat.le_of_ble_eq_true rfl⟩ rfl (jc.deep (c_Program_emit_z hC_M87 (FR.rfl _ M87) k94 (by omega) (by omega) e96 rfl (by have hq0 : M87 413 2 = v8 := e93; omega) w87_0 (fun r95 M95 hC_M95 hf_M95 z95 w95_0 w95_1 w95_2 => ?_)) (by decide))
              have ht_M95 : FR W_c_Parser_chain_z T M95 := FR.t ht_M87 hf_M95 (kw_sub rfl)
              have hq9 := CZ.emn (p := (v8.toNat)) hq8 hC_M87 hf_M95 (e93.trans (by omega)) e96 w95_2 (by omega) (by omega)
              clear w95_2 w95_1
              refine jr.pop rfl rfl ?_
              refine jr.aload_n rfl rfl ?_
              have e97 : M95 413 2 = v8 := (hf_M95.g (show kd 413 = 44 from rfl) rfl).trans e93
              have k98 : kd (v8).toNat = 47 := ((congrArg (fun z : Int => kd z.toNat) (show M95 413 2 = v8 from e97)).symm.trans (CI.x hC_M95 (show kd 413 = 44 from rfl) 2 rfl (by decide)))
              refine jr.getf (i := 2) (x := v8) (v := .ref (v8.toNat)) rfl rfl (by decide) rfl (by decide) rfl rfl e97 rfl ?_
              refine jr.dup rfl rfl ?_
              have e99 : M78 ((v8.toNat)) 3 = v10 := (hf_M78.g k98 rfl).trans ((ju_c _ _ (kd_ne (by rw [k98, k46.2]; decide))).trans e50)
              have e100 : M87 ((v8.toNat)) 3 = v10 := (hf_M87.g k98 rfl).trans e99
              have e101 : M95 ((v8.toNat)) 3 = v10 := (hf_M95.g k98 rfl).trans e100
              refine jr.getf (i := 3) (x := v10) (v := .int (Int32.ofInt (v10))) rfl rfl (Nat.lt_trans (kx_47 k98).1 (by decide)) (kx_47 k98).2 (by decide) rfl rfl e101 rfl ?_
              refine jr.iconst rfl ?_
              refine jr.iadd rfl ?_
              refine jr.putf (i := 3) (x := (v10 + 1)) rfl rfl (Nat.lt_trans (kx_47 k98).1 (by decide)) (kx_47 k98).2 (by decide) rfl rfl rfl rfl rfl ?_
              have e102 : M95 413 8 = v89 := (hf_M95.g (show kd 413 = 44 from rfl) rfl).trans e89
              have e103 : M95 413 6 = v90 := (hf_M95.g (show kd 413 = 44 from rfl) rfl).trans e90
              have e104 : M95 413 7 = v91 := (hf_M95.g (show kd 413 = 44 from rfl) rfl).trans e91
              exact jr.vreturn rfl rfl (q _ (CI.u hC_M95 (i := 3) k98 (show (0 : Int) ≤ _ ∧ _ ≤ (16 : Int) from by omega) rfl) (FR.o ht_M95 k98 rfl)  (MP.w w95_0 hC_M95 e97 ⟨by omega, by omega⟩) (by have hq0 : (ju M95 ((v8.toNat)) 3 (v10 + 1)) 413 8 = v89 := ((ju_i _ _ (by decide)).trans e102); have hq1 : (ju M95 ((v8.toNat)) 3 (v10 + 1)) 413 6 = v90 := ((ju_i _ _ (by decide)).trans e103); have hq2 : (ju M95 ((v8.toNat)) 3 (v10 + 1)) 413 7 = v91 := ((ju_i _ _ (by decide)).trans e104); omega) (CZ.out (p := (v8.toNat)) ((hq9.wk (fun _ h => by cases h)).le (by decide) (by decide)) hC_M95 (e97.trans (by omega)) e101 (fun z => zr.bl1 z.1.1 z.1.2) (by rw [List.length_append]; show ((nm.length + 1 : Nat) : Int) = _; omega)))
        · refine jr.aload_n rfl rfl ?_
          refine jr.iconst rfl ?_
          have e106 : M11 413 0 = v6 := (hf_M11.g (show kd 413 = 44 from rfl) rfl).trans e6
          obtain ⟨v107, e107⟩ : ∃ z_, M 413 1 = z_ := ⟨_, rfl⟩
          have b107 : (-2147483648) ≤ v107 ∧ v107 ≤ 2147483647 := by rw [← e107]; exact (CI.r hC_M (show kd 413 = 44 from rfl) (by decide) 1)
          have e108 : M11 413 1 = v107 := (hf_M11.g (show kd 413 = 44 from rfl) rfl).trans e107
          refine jr_v rfl rfl (Or.inl rfl) rfl rfl (by decide) rfl ⟨rfl, Nat.le_of_ble_eq_true rfl, Nat.le_of_ble_eq_true rfl⟩ rfl (jc.deep (c_Parser_fail_z hC_M11 (FR.rfl _ M11) (by omega) e106 e108 e14 (fun M105 hC_M105 hf_M105 w105_0 => ?_)) (by decide))
          have ht_M105 : FR W_c_Parser_chain_z T M105 := FR.t ht_M11 hf_M105 (kw_sub rfl)
          obtain ⟨v109, e109⟩ : ∃ z_, M105 413 0 = z_ := ⟨_, rfl⟩
          have b109 : (-2147483648) ≤ v109 ∧ v109 ≤ 2147483647 := by rw [← e109]; exact (CI.r hC_M105 (show kd 413 = 44 from rfl) (by decide) 0)
          obtain ⟨v110, e110⟩ : ∃ z_, M105 413 1 = z_ := ⟨_, rfl⟩
          have b110 : (-2147483648) ≤ v110 ∧ v110 ≤ 2147483647 := by rw [← e110]; exact (CI.r hC_M105 (show kd 413 = 44 from rfl) (by decide) 1)
          have e111 : M105 413 8 = v12 := (hf_M105.g (show kd 413 = 44 from rfl) rfl).trans e12
          have e112 : M105 413 6 = v13 := (hf_M105.g (show kd 413 = 44 from rfl) rfl).trans e13
          have e113 : M105 413 7 = v14 := (hf_M105.g (show kd 413 = 44 from rfl) rfl).trans e14
          exact jr.vreturn rfl rfl (q _ hC_M105 ht_M105  (MP.fr (MP.fr p1 hC_M hf_M11 rfl) hC_M11 hf_M105 rfl) (by have hq0 : M105 413 8 = v12 := e111; have hq1 : M105 413 6 = v13 := e112; have hq2 : M105 413 7 = v14 := e113; omega) (Or.inl ⟨by omega, zr.fe (zr.ctw hz0 ⟨hs1, hw0⟩ (by omega) hgn (by have y := w16_1 (by omega); rw [hv7] at y; exact y)) (by omega) (by omega)⟩))
      · refine jr.aload_n rfl rfl ?_
        have e115 : M11 413 0 = v6 := (hf_M11.g (show kd 413 = 44 from rfl) rfl).trans e6
        obtain ⟨v116, e116⟩ : ∃ z_, M 413 1 = z_ := ⟨_, rfl⟩
        have b116 : (-2147483648) ≤ v116 ∧ v116 ≤ 2147483647 := by rw [← e116]; exact (CI.r hC_M (show kd 413 = 44 from rfl) (by decide) 1)
        have e117 : M11 413 1 = v116 := (hf_M11.g (show kd 413 = 44 from rfl) rfl).trans e116
        refine jr_v rfl rfl (Or.inl rfl) rfl rfl (by decide) rfl ⟨rfl, Nat.le_of_ble_eq_true rfl, Nat.le_of_ble_eq_true rfl⟩ rfl (jc.deep (c_Parser_refuse_z hC_M11 (FR.rfl _ M11)  e115 e117 e14 e13 (fun M114 hC_M114 hf_M114 w114_0 => ?_)) (by decide))
        have ht_M114 : FR W_c_Parser_chain_z T M114 := FR.t ht_M11 hf_M114 (kw_sub rfl)
        obtain ⟨v118, e118⟩ : ∃ z_, M114 413 0 = z_ := ⟨_, rfl⟩
        have b118 : (-2147483648) ≤ v118 ∧ v118 ≤ 2147483647 := by rw [← e118]; exact (CI.r hC_M114 (show kd 413 = 44 from rfl) (by decide) 0)
        obtain ⟨v119, e119⟩ : ∃ z_, M114 413 1 = z_ := ⟨_, rfl⟩
        have b119 : (-2147483648) ≤ v119 ∧ v119 ≤ 2147483647 := by rw [← e119]; exact (CI.r hC_M114 (show kd 413 = 44 from rfl) (by decide) 1)
        have e120 : M114 413 8 = v12 := (hf_M114.g (show kd 413 = 44 from rfl) rfl).trans e12
        have e121 : M114 413 6 = v13 := (hf_M114.g (show kd 413 = 44 from rfl) rfl).trans e13
        have e122 : M114 413 7 = v14 := (hf_M114.g (show kd 413 = 44 from rfl) rfl).trans e14
        exact jr.vreturn rfl rfl (q _ hC_M114 ht_M114  (MP.fr (MP.fr p1 hC_M hf_M11 rfl) hC_M11 hf_M114 rfl) (by have hq0 : M114 413 8 = v12 := e120; have hq1 : M114 413 6 = v13 := e121; have hq2 : M114 413 7 = v14 := e122; omega) (Or.inl ⟨by omega, zr.rfx (zr.cnf hz0 ⟨hs1, hw0⟩ (by omega) (fun q => by have y := a10 q.1; have y2 := (zcv_n f N (znx f N t0)).mpr q.2; omega)) (fun y => by omega) (fun y => by omega) (by omega)⟩))
    · refine jr.aload_n rfl rfl ?_
      refine jr.iconst rfl ?_
      obtain ⟨v124, e124⟩ : ∃ z_, M 413 1 = z_ := ⟨_, rfl⟩
      have b124 : (-2147483648) ≤ v124 ∧ v124 ≤ 2147483647 := by rw [← e124]; exact (CI.r hC_M (show kd 413 = 44 from rfl) (by decide) 1)
      refine jr_v rfl rfl (Or.inl rfl) rfl rfl (by decide) rfl ⟨rfl, Nat.le_of_ble_eq_true rfl, Nat.le_of_ble_eq_true rfl⟩ rfl (jc.deep (c_Parser_fail_z hC_M (FR.rfl _ M) (by omega) e6 e124 e5 (fun M123 hC_M123 hf_M123 w123_0 => ?_)) (by decide))
      have ht_M123 : FR W_c_Parser_chain_z T M123 := FR.t ht_M hf_M123 (kw_sub rfl)
      obtain ⟨v125, e125⟩ : ∃ z_, M123 413 0 = z_ := ⟨_, rfl⟩
      have b125 : (-2147483648) ≤ v125 ∧ v125 ≤ 2147483647 := by rw [← e125]; exact (CI.r hC_M123 (show kd 413 = 44 from rfl) (by decide) 0)
      obtain ⟨v126, e126⟩ : ∃ z_, M123 413 1 = z_ := ⟨_, rfl⟩
      have b126 : (-2147483648) ≤ v126 ∧ v126 ≤ 2147483647 := by rw [← e126]; exact (CI.r hC_M123 (show kd 413 = 44 from rfl) (by decide) 1)
      have e127 : M123 413 8 = v3 := (hf_M123.g (show kd 413 = 44 from rfl) rfl).trans e3
      have e128 : M123 413 6 = v4 := (hf_M123.g (show kd 413 = 44 from rfl) rfl).trans e4
      have e129 : M123 413 7 = v5 := (hf_M123.g (show kd 413 = 44 from rfl) rfl).trans e5
      have hs1 : zso f N t0 = 1 := by omega
      have hw0 := zcv_0 (w := zwd f N t0) (by have y := k10 hs1; omega)
      have hch := ck0.1.1
      rw [e8] at hch
      exact jr.vreturn rfl rfl (q _ hC_M123 ht_M123  (MP.fr p1 hC_M hf_M123 rfl) (by have hq0 : M123 413 8 = v3 := e127; have hq1 : M123 413 6 = v4 := e128; have hq2 : M123 413 7 = v5 := e129; omega) (Or.inl ⟨by omega, zr.fe (zr.cfu hz0 ⟨hs1, hw0⟩ (by omega)) (by omega) (by omega)⟩))
  · refine jr.aload_n rfl rfl ?_
    obtain ⟨v131, e131⟩ : ∃ z_, M 413 1 = z_ := ⟨_, rfl⟩
    have b131 : (-2147483648) ≤ v131 ∧ v131 ≤ 2147483647 := by rw [← e131]; exact (CI.r hC_M (show kd 413 = 44 from rfl) (by decide) 1)
    refine jr_v rfl rfl (Or.inl rfl) rfl rfl (by decide) rfl ⟨rfl, Nat.le_of_ble_eq_true rfl, Nat.le_of_ble_eq_true rfl⟩ rfl (jc.deep (c_Parser_refuse_z hC_M (FR.rfl _ M)  e6 e131 e5 e4 (fun M130 hC_M130 hf_M130 w130_0 => ?_)) (by decide))
    have ht_M130 : FR W_c_Parser_chain_z T M130 := FR.t ht_M hf_M130 (kw_sub rfl)
    obtain ⟨v132, e132⟩ : ∃ z_, M130 413 0 = z_ := ⟨_, rfl⟩
    have b132 : (-2147483648) ≤ v132 ∧ v132 ≤ 2147483647 := by rw [← e132]; exact (CI.r hC_M130 (show kd 413 = 44 from rfl) (by decide) 0)
    obtain ⟨v133, e133⟩ : ∃ z_, M130 413 1 = z_ := ⟨_, rfl⟩
    have b133 : (-2147483648) ≤ v133 ∧ v133 ≤ 2147483647 := by rw [← e133]; exact (CI.r hC_M130 (show kd 413 = 44 from rfl) (by decide) 1)
    have e134 : M130 413 8 = v3 := (hf_M130.g (show kd 413 = 44 from rfl) rfl).trans e3
    have e135 : M130 413 6 = v4 := (hf_M130.g (show kd 413 = 44 from rfl) rfl).trans e4
    have e136 : M130 413 7 = v5 := (hf_M130.g (show kd 413 = 44 from rfl) rfl).trans e5
    exact jr.vreturn rfl rfl (q _ hC_M130 ht_M130  (MP.fr p1 hC_M hf_M130 rfl) (by have hq0 : M130 413 8 = v3 := e134; have hq1 : M130 413 6 = v4 := e135; have hq2 : M130 413 7 = v5 := e136; omega) (Or.inl ⟨by omega, zr.rfx (zr.cno hz0 (fun q => by have y := len_pos q.1; omega) (fun q => by have y := k10 q.1; rw [q.2, show zcv 0 = 0 by decide] at y; omega)) (fun y => by omega) (fun y => by omega) (by omega)⟩))
noncomputable def W_c_Parser_resolveJumps_z : List (Nat × Nat) := [(44, 0), (44, 1), (48, 1000)]
theorem c_Parser_resolveJumps_z_L2 {A : Nat → Option (Nat × (Nat → Int32))} [HA A] {Q : Option Value → jm → Prop} {G : Nat → Int → Int} {f : Int → Int} {N : Int} {xs : ZS} {nm : List Int} {T : jm} (q : ∀ (M' : jm), CI M' → FR W_c_Parser_resolveJumps_z T M' → (MP M' G) → (PR M') → (RJe f N xs M') → Q none M') : ∀ (nM : Nat) (M : jm) (i : Int), CI M → FR W_c_Parser_resolveJumps_z T M → 0 ≤ i ∧ i ≤ 932 → (1 ≤ M 413 3 ∧ M 413 3 ≤ 1) → (MP M G) → (JR M i) → (TXc f N M) → (RJ f N xs M nm i) → 932 - i ≤ nM → jr A 3 xm_208 2 [(1, .int (Int32.ofInt (i))), (0, .ref (413))] [] M Q := by
  intro nM
  induction nM using Nat.strongRecOn with
  | ind nM ih =>
    intro M i hC_M ht_M h_i hy0 hy1 hy2 hy3 hy4 hm
    obtain ⟨v1, e1⟩ : ∃ z_, M 413 3 = z_ := ⟨_, rfl⟩
    have b1 : 1 ≤ v1 ∧ v1 ≤ 419 := by rw [← e1]; exact (CI.r hC_M (show kd 413 = 44 from rfl) (by decide) 3)
    have b2 : 1 ≤ v1 ∧ v1 ≤ 1 := by rw [← e1]; exact hy0
    refine jr.iload_n rfl rfl ?_
    refine jr.aload_n rfl rfl ?_
    obtain ⟨v3, e3⟩ : ∃ z_, M 413 2 = z_ := ⟨_, rfl⟩
    have b3 : 0 ≤ v3 ∧ v3 ≤ 597 := by rw [← e3]; exact (CI.r hC_M (show kd 413 = 44 from rfl) (by decide) 2)
    have k4 : kd (v3).toNat = 47 := ((congrArg (fun z : Int => kd z.toNat) (show M 413 2 = v3 from e3)).symm.trans (CI.x hC_M (show kd 413 = 44 from rfl) 2 rfl (by decide)))
    refine jr.getf (i := 2) (x := v3) (v := .ref (v3.toNat)) rfl rfl (by decide) rfl (by decide) rfl rfl e3 rfl ?_
    obtain ⟨v5, e5⟩ : ∃ z_, M ((v3.toNat)) 2 = z_ := ⟨_, rfl⟩
    have b5 : 0 ≤ v5 ∧ v5 ≤ 932 := by rw [← e5]; exact (CI.r hC_M k4 (by decide) 2)
    refine jr.getf (i := 2) (x := v5) (v := .int (Int32.ofInt (v5))) rfl rfl (Nat.lt_trans (kx_47 k4).1 (by decide)) (kx_47 k4).2 (by decide) rfl rfl e5 rfl ?_
    refine jr.icmp_ge rfl rfl (by omega) (by omega) (fun h10 => ?_) (fun h10 => ?_)
    · exact jr.vreturn rfl rfl (q _ hC_M ht_M  hy1 (by first | exact PR.f (by omega) | exact JR.e hy2 e3 e5 (by omega)) (RJ.e hy4 (by first | exact Or.inr (by omega) | exact Or.inl (by rw [e3, e5]; omega))))
    · refine jr.aload_n rfl rfl ?_
      obtain ⟨v6, e6⟩ : ∃ z_, M 413 0 = z_ := ⟨_, rfl⟩
      have b6 : (-2147483648) ≤ v6 ∧ v6 ≤ 2147483647 := by rw [← e6]; exact (CI.r hC_M (show kd 413 = 44 from rfl) (by decide) 0)
      refine jr.getf (i := 0) (x := v6) (v := .int (Int32.ofInt (v6))) rfl rfl (by decide) rfl (by decide) rfl rfl e6 rfl ?_
      refine jr.if_ne rfl rfl (by omega) (fun h17 => ?_) (fun h17 => ?_)
      · exact jr.vreturn rfl rfl (q _ hC_M ht_M  hy1 (by first | exact PR.f (by omega) | exact JR.e hy2 e3 e5 (by omega)) (RJ.e hy4 (by first | exact Or.inr (by omega) | exact Or.inl (by rw [e3, e5]; omega))))
      · refine jr.aload_n rfl rfl ?_
        have k7 : kd (v3).toNat = 47 := ((congrArg (fun z : Int => kd z.toNat) (show M 413 2 = v3 from e3)).symm.trans (CI.x hC_M (show kd 413 = 44 from rfl) 2 rfl (by decide)))
        refine jr.getf (i := 2) (x := v3) (v := .ref (v3.toNat)) rfl rfl (by decide) rfl (by decide) rfl rfl e3 rfl ?_
        refine jr.iload_n rfl rfl ?_
        refine jr_v rfl rfl (Or.inl rfl) rfl rfl (Nat.lt_trans (kx_47 k7).1 (by decide)) (kx_47 k7).2 ⟨rfl, Nat.le_of_ble_eq_true rfl, Nat.le_of_ble_eq_true rfl⟩ rfl (jc.deep (c_Program_opAt hC_M k7 (by omega) (fun r8 z8 w8_0 w8_1 => ?_)) (by decide))
        refine jr.istore_n rfl (by decide) rfl ?_
        refine jr.iload_n rfl rfl ?_
        refine jr.bipush rfl (by decide) ?_
        refine jr.icmp_eq rfl rfl (by omega) (by omega) (fun h32 => ?_) (fun h32 => ?_)
        · refine jr.aload_n rfl rfl ?_
          refine jr.aload_n rfl rfl ?_
          have k9 : kd (v3).toNat = 47 := ((congrArg (fun z : Int => kd z.toNat) (show M 413 2 = v3 from e3)).symm.trans (CI.x hC_M (show kd 413 = 44 from rfl) 2 rfl (by decide)))
          refine jr.getf (i := 2) (x := v3) (v := .ref (v3.toNat)) rfl rfl (by decide) rfl (by decide) rfl rfl e3 rfl ?_
          have k10 := kf_47_1 k9
          refine jr.getf (i := 1) (v := .ref ((v3.toNat) + 2)) rfl rfl (Nat.lt_trans (kx_47 k9).1 (by decide)) (kx_47 k9).2 (by decide) rfl rfl rfl (jval_ref rfl k10.1) ?_
          refine jr.iload_n rfl rfl ?_
          obtain ⟨v11, e11⟩ : ∃ z_, M (((v3.toNat) + 2)) i = z_ := ⟨_, rfl⟩
          have b11 : (-2147483648) ≤ v11 ∧ v11 ≤ 2147483647 := by rw [← e11]; exact (CI.r hC_M k10.2 (by decide) i)
          refine jr.iald (i := i) (x := v11) rfl (Nat.lt_trans (kx_48 k10.2).1 (by decide)) (kx_48 k10.2).2 (by decide) (by omega) (by omega) e11 ?_
          have hra := (RJ.zz hy4 (by omega)).2.2.2 i (by omega)
          rw [e3] at hra
          have hrb := hra (by rw [e5]; omega) (by omega)
          rw [e11] at hrb
          clear hra
          refine jr_v rfl rfl (Or.inl rfl) rfl rfl (by decide) rfl ⟨rfl, Nat.le_of_ble_eq_true rfl, Nat.le_of_ble_eq_true rfl⟩ rfl (jc.deep (c_Parser_chainNamed_z hC_M (by omega) (by have hq0 : M 413 3 = v1 := e1; omega) hy3 (RJ.zz hy4 (by omega)).2.1 hrb.1 (fun r12 z12 w12_0 w12_1 => ?_)) (by decide))
          refine jr.istore_n rfl (by decide) rfl ?_
          refine jr.iload_n rfl rfl ?_
          refine jr.iconst rfl ?_
          refine jr.icmp_ne rfl rfl (by omega) (by omega) (fun h57 => ?_) (fun h57 => ?_)
          · refine jr.aload_n rfl rfl ?_
            have k13 : kd (v3).toNat = 47 := ((congrArg (fun z : Int => kd z.toNat) (show M 413 2 = v3 from e3)).symm.trans (CI.x hC_M (show kd 413 = 44 from rfl) 2 rfl (by decide)))
            refine jr.getf (i := 2) (x := v3) (v := .ref (v3.toNat)) rfl rfl (by decide) rfl (by decide) rfl rfl e3 rfl ?_
            have k14 := kf_47_1 k13
            refine jr.getf (i := 1) (v := .ref ((v3.toNat) + 2)) rfl rfl (Nat.lt_trans (kx_47 k13).1 (by decide)) (kx_47 k13).2 (by decide) rfl rfl rfl (jval_ref rfl k14.1) ?_
            refine jr.iload_n rfl rfl ?_
            refine jr.iload_n rfl rfl ?_
            refine jr.iast (i := i) (x := r12) rfl (Nat.lt_trans (kx_48 k14.2).1 (by decide)) (kx_48 k14.2).2 (by decide) (by omega) (by omega) ?_
            refine jr.iinc rfl rfl (by decide) rfl ?_
            refine jr.goto rfl rfl ?_
            refine jr.pick [0, 3] rfl rfl ?_
            exact ih (nM - 1) (by omega) ((ju M (((v3.toNat) + 2)) i r12)) (i + 1) (CI.u hC_M (i := i) k14.2 (show (-2147483648 : Int) ≤ _ ∧ _ ≤ (2147483647 : Int) from by omega) rfl) (FR.o ht_M k14.2 rfl) (by omega) (by have hq0 : (ju M (((v3.toNat) + 2)) i r12) 413 3 = v1 := ((ju_c _ _ (kd_ne (by rw [(show kd 413 = 44 from rfl), k14.2]; decide))).trans e1); omega) (MP.w hy1 hC_M e3 ⟨by omega, by omega⟩) (JR.w hy2 hC_M e3 (by omega)) (TXc.fr hy3 (FR.o (FR.rfl [(48, 1000)] M) k14.2 rfl) rfl) (RJ.y (p := (v3.toNat)) hy4 (by omega) hC_M (e3.trans (by omega)) (by rw [e5]; omega) (by omega) (by rw [e11]; exact w12_1 (by omega))) (by omega)
          · refine jr.aload_n rfl rfl ?_
            refine jr.bipush rfl (by decide) ?_
            refine jr.putf (i := 0) (x := 7) rfl rfl (by decide) rfl (by decide) rfl rfl rfl rfl rfl ?_
            refine jr.aload_n rfl rfl ?_
            refine jr.aload_n rfl rfl ?_
            have k15 : kd (v3).toNat = 47 := ((congrArg (fun z : Int => kd z.toNat) (show (ju M 413 0 7) 413 2 = v3 from ((ju_i _ _ (by decide)).trans e3))).symm.trans (CI.x (CI.u hC_M (i := 0) (show kd 413 = 44 from rfl) (show (-2147483648 : Int) ≤ _ ∧ _ ≤ (2147483647 : Int) from by omega) rfl) (show kd 413 = 44 from rfl) 2 rfl (by decide)))
            refine jr.getf (i := 2) (x := v3) (v := .ref (v3.toNat)) rfl rfl (by decide) rfl (by decide) rfl rfl ((ju_i _ _ (by decide)).trans e3) rfl ?_
            have k16 := kf_47_1 k15
            refine jr.getf (i := 1) (v := .ref ((v3.toNat) + 2)) rfl rfl (Nat.lt_trans (kx_47 k15).1 (by decide)) (kx_47 k15).2 (by decide) rfl rfl rfl (jval_ref rfl k16.1) ?_
            refine jr.iload_n rfl rfl ?_
            refine jr.iald (i := i) (x := v11) rfl (Nat.lt_trans (kx_48 k16.2).1 (by decide)) (kx_48 k16.2).2 (by decide) (by omega) (by omega) ((ju_c _ _ (kd_ne (by rw [k16.2, (show kd 413 = 44 from rfl)]; decide))).trans e11) ?_
            refine jr.putf (i := 1) (x := v11) rfl rfl (by decide) rfl (by decide) rfl rfl rfl rfl rfl ?_
            refine jr.aload_n rfl rfl ?_
            have k17 : kd (v3).toNat = 47 := ((congrArg (fun z : Int => kd z.toNat) (show (ju (ju M 413 0 7) 413 1 v11) 413 2 = v3 from ((ju_i _ _ (by decide)).trans ((ju_i _ _ (by decide)).trans e3)))).symm.trans (CI.x (CI.u (CI.u hC_M (i := 0) (show kd 413 = 44 from rfl) (show (-2147483648 : Int) ≤ _ ∧ _ ≤ (2147483647 : Int) from by omega) rfl) (i := 1) (show kd 413 = 44 from rfl) (show (-2147483648 : Int) ≤ _ ∧ _ ≤ (2147483647 : Int) from by omega) rfl) (show kd 413 = 44 from rfl) 2 rfl (by decide)))
            refine jr.getf (i := 2) (x := v3) (v := .ref (v3.toNat)) rfl rfl (by decide) rfl (by decide) rfl rfl ((ju_i _ _ (by decide)).trans ((ju_i _ _ (by decide)).trans e3)) rfl ?_
            have k18 := kf_47_1 k17
            refine jr.getf (i := 1) (v := .ref ((v3.toNat) + 2)) rfl rfl (Nat.lt_trans (kx_47 k17).1 (by decide)) (kx_47 k17).2 (by decide) rfl rfl rfl (jval_ref rfl k18.1) ?_
            refine jr.iload_n rfl rfl ?_
            refine jr.iload_n rfl rfl ?_
            refine jr.iast (i := i) (x := r12) rfl (Nat.lt_trans (kx_48 k18.2).1 (by decide)) (kx_48 k18.2).2 (by decide) (by omega) (by omega) ?_
            refine jr.iinc rfl rfl (by decide) rfl ?_
            refine jr.goto rfl rfl ?_
            refine jr.pick [0, 3] rfl rfl ?_
            exact ih (nM - 1) (by omega) ((ju (ju (ju M 413 0 7) 413 1 v11) (((v3.toNat) + 2)) i r12)) (i + 1) (CI.u (CI.u (CI.u hC_M (i := 0) (show kd 413 = 44 from rfl) (show (-2147483648 : Int) ≤ _ ∧ _ ≤ (2147483647 : Int) from by omega) rfl) (i := 1) (show kd 413 = 44 from rfl) (show (-2147483648 : Int) ≤ _ ∧ _ ≤ (2147483647 : Int) from by omega) rfl) (i := i) k18.2 (show (-2147483648 : Int) ≤ _ ∧ _ ≤ (2147483647 : Int) from by omega) rfl) (FR.o (FR.o (FR.o ht_M (show kd 413 = 44 from rfl) rfl) (show kd 413 = 44 from rfl) rfl) k18.2 rfl) (by omega) (by have hq0 : (ju (ju (ju M 413 0 7) 413 1 v11) (((v3.toNat) + 2)) i r12) 413 3 = v1 := ((ju_c _ _ (kd_ne (by rw [(show kd 413 = 44 from rfl), k18.2]; decide))).trans ((ju_i _ _ (by decide)).trans ((ju_i _ _ (by decide)).trans e1))); omega) (MP.w (MP.n (MP.n hy1 hC_M (show kd 413 = 44 from rfl) (by decide) (Or.inl (by decide))) (CI.u hC_M (i := 0) (show kd 413 = 44 from rfl) (show (-2147483648 : Int) ≤ _ ∧ _ ≤ (2147483647 : Int) from by omega) rfl) (show kd 413 = 44 from rfl) (by decide) (Or.inl (by decide))) (CI.u (CI.u hC_M (i := 0) (show kd 413 = 44 from rfl) (show (-2147483648 : Int) ≤ _ ∧ _ ≤ (2147483647 : Int) from by omega) rfl) (i := 1) (show kd 413 = 44 from rfl) (show (-2147483648 : Int) ≤ _ ∧ _ ≤ (2147483647 : Int) from by omega) rfl) ((ju_i _ _ (by decide)).trans ((ju_i _ _ (by decide)).trans e3)) ⟨by omega, by omega⟩) (JR.f (by have hq : (ju (ju (ju M 413 0 7) 413 1 v11) (((v3.toNat) + 2)) i r12) 413 0 = 7 := ((ju_c _ _ (kd_ne (by rw [(show kd 413 = 44 from rfl), k18.2]; decide))).trans ((ju_i _ _ (by decide)).trans (ju_same _ _ _ _))); omega)) (TXc.fr hy3 (FR.o (FR.o (FR.o (FR.rfl [(44, 0), (44, 1), (48, 1000)] M) (show kd 413 = 44 from rfl) rfl) (show kd 413 = 44 from rfl) rfl) k18.2 rfl) rfl) (RJ.x (p := (v3.toNat)) hy4 (by omega) (e3.trans (by omega)) (by rw [e5]; omega) (by omega) (by rw [e11]; exact w12_0 (by omega)) ((ju_c _ _ (kd_ne (by rw [(show kd 413 = 44 from rfl), k18.2]; decide))).trans ((ju_i _ _ (by decide)).trans (ju_same _ _ _ _))) ((((ju_c _ _ (kd_ne (by rw [(show kd 413 = 44 from rfl), k18.2]; decide))).trans (ju_same _ _ _ _))).trans (e11).symm)) (by omega)
        · refine jr.iload_n rfl rfl ?_
          refine jr.bipush rfl (by decide) ?_
          refine jr.icmp_ne rfl rfl (by omega) (by omega) (fun h38 => ?_) (fun h38 => ?_)
          · refine jr.iinc rfl rfl (by decide) rfl ?_
            refine jr.goto rfl rfl ?_
            refine jr.pick [0, 2] rfl rfl ?_
            exact ih (nM - 1) (by omega) M (i + 1) hC_M ht_M (by omega) (by have hq0 : M 413 3 = v1 := e1; omega) hy1 (JR.n (o := r8) hy2 e3 (by omega) (by omega)) hy3 (RJ.n (p := (v3.toNat)) hy4 (by omega) (e3.trans (by omega)) (by rw [e5]; omega) (by omega)) (by omega)
          · refine jr.aload_n rfl rfl ?_
            refine jr.aload_n rfl rfl ?_
            have k19 : kd (v3).toNat = 47 := ((congrArg (fun z : Int => kd z.toNat) (show M 413 2 = v3 from e3)).symm.trans (CI.x hC_M (show kd 413 = 44 from rfl) 2 rfl (by decide)))
            refine jr.getf (i := 2) (x := v3) (v := .ref (v3.toNat)) rfl rfl (by decide) rfl (by decide) rfl rfl e3 rfl ?_
            have k20 := kf_47_1 k19
            refine jr.getf (i := 1) (v := .ref ((v3.toNat) + 2)) rfl rfl (Nat.lt_trans (kx_47 k19).1 (by decide)) (kx_47 k19).2 (by decide) rfl rfl rfl (jval_ref rfl k20.1) ?_
            refine jr.iload_n rfl rfl ?_
            obtain ⟨v21, e21⟩ : ∃ z_, M (((v3.toNat) + 2)) i = z_ := ⟨_, rfl⟩
            have b21 : (-2147483648) ≤ v21 ∧ v21 ≤ 2147483647 := by rw [← e21]; exact (CI.r hC_M k20.2 (by decide) i)
            refine jr.iald (i := i) (x := v21) rfl (Nat.lt_trans (kx_48 k20.2).1 (by decide)) (kx_48 k20.2).2 (by decide) (by omega) (by omega) e21 ?_
            have hra := (RJ.zz hy4 (by omega)).2.2.2 i (by omega)
            rw [e3] at hra
            have hrb := hra (by rw [e5]; omega) (by omega)
            rw [e21] at hrb
            clear hra
            refine jr_v rfl rfl (Or.inl rfl) rfl rfl (by decide) rfl ⟨rfl, Nat.le_of_ble_eq_true rfl, Nat.le_of_ble_eq_true rfl⟩ rfl (jc.deep (c_Parser_chainNamed_z hC_M (by omega) (by have hq0 : M 413 3 = v1 := e1; omega) hy3 (RJ.zz hy4 (by omega)).2.1 hrb.1 (fun r22 z22 w22_0 w22_1 => ?_)) (by decide))
            refine jr.istore_n rfl (by decide) rfl ?_
            refine jr.iload_n rfl rfl ?_
            refine jr.iconst rfl ?_
            refine jr.icmp_ne rfl rfl (by omega) (by omega) (fun h57 => ?_) (fun h57 => ?_)
            · refine jr.aload_n rfl rfl ?_
              have k23 : kd (v3).toNat = 47 := ((congrArg (fun z : Int => kd z.toNat) (show M 413 2 = v3 from e3)).symm.trans (CI.x hC_M (show kd 413 = 44 from rfl) 2 rfl (by decide)))
              refine jr.getf (i := 2) (x := v3) (v := .ref (v3.toNat)) rfl rfl (by decide) rfl (by decide) rfl rfl e3 rfl ?_
              have k24 := kf_47_1 k23
              refine jr.getf (i := 1) (v := .ref ((v3.toNat) + 2)) rfl rfl (Nat.lt_trans (kx_47 k23).1 (by decide)) (kx_47 k23).2 (by decide) rfl rfl rfl (jval_ref rfl k24.1) ?_
              refine jr.iload_n rfl rfl ?_
              refine jr.iload_n rfl rfl ?_
              refine jr.iast (i := i) (x := r22) rfl (Nat.lt_trans (kx_48 k24.2).1 (by decide)) (kx_48 k24.2).2 (by decide) (by omega) (by omega) ?_
              refine jr.iinc rfl rfl (by decide) rfl ?_
              refine jr.goto rfl rfl ?_
              refine jr.pick [0, 3] rfl rfl ?_
              exact ih (nM - 1) (by omega) ((ju M (((v3.toNat) + 2)) i r22)) (i + 1) (CI.u hC_M (i := i) k24.2 (show (-2147483648 : Int) ≤ _ ∧ _ ≤ (2147483647 : Int) from by omega) rfl) (FR.o ht_M k24.2 rfl) (by omega) (by have hq0 : (ju M (((v3.toNat) + 2)) i r22) 413 3 = v1 := ((ju_c _ _ (kd_ne (by rw [(show kd 413 = 44 from rfl), k24.2]; decide))).trans e1); omega) (MP.w hy1 hC_M e3 ⟨by omega, by omega⟩) (JR.w hy2 hC_M e3 (by omega)) (TXc.fr hy3 (FR.o (FR.rfl [(48, 1000)] M) k24.2 rfl) rfl) (RJ.y (p := (v3.toNat)) hy4 (by omega) hC_M (e3.trans (by omega)) (by rw [e5]; omega) (by omega) (by rw [e21]; exact w22_1 (by omega))) (by omega)
            · refine jr.aload_n rfl rfl ?_
              refine jr.bipush rfl (by decide) ?_
              refine jr.putf (i := 0) (x := 7) rfl rfl (by decide) rfl (by decide) rfl rfl rfl rfl rfl ?_
              refine jr.aload_n rfl rfl ?_
              refine jr.aload_n rfl rfl ?_
              have k25 : kd (v3).toNat = 47 := ((congrArg (fun z : Int => kd z.toNat) (show (ju M 413 0 7) 413 2 = v3 from ((ju_i _ _ (by decide)).trans e3))).symm.trans (CI.x (CI.u hC_M (i := 0) (show kd 413 = 44 from rfl) (show (-2147483648 : Int) ≤ _ ∧ _ ≤ (2147483647 : Int) from by omega) rfl) (show kd 413 = 44 from rfl) 2 rfl (by decide)))
              refine jr.getf (i := 2) (x := v3) (v := .ref (v3.toNat)) rfl rfl (by decide) rfl (by decide) rfl rfl ((ju_i _ _ (by decide)).trans e3) rfl ?_
              have k26 := kf_47_1 k25
              refine jr.getf (i := 1) (v := .ref ((v3.toNat) + 2)) rfl rfl (Nat.lt_trans (kx_47 k25).1 (by decide)) (kx_47 k25).2 (by decide) rfl rfl rfl (jval_ref rfl k26.1) ?_
              refine jr.iload_n rfl rfl ?_
              refine jr.iald (i := i) (x := v21) rfl (Nat.lt_trans (kx_48 k26.2).1 (by decide)) (kx_48 k26.2).2 (by decide) (by omega) (by omega) ((ju_c _ _ (kd_ne (by rw [k26.2, (show kd 413 = 44 from rfl)]; decide))).trans e21) ?_
              refine jr.putf (i := 1) (x := v21) rfl rfl (by decide) rfl (by decide) rfl rfl rfl rfl rfl ?_
              refine jr.aload_n rfl rfl ?_
              have k27 : kd (v3).toNat = 47 := ((congrArg (fun z : Int => kd z.toNat) (show (ju (ju M 413 0 7) 413 1 v21) 413 2 = v3 from ((ju_i _ _ (by decide)).trans ((ju_i _ _ (by decide)).trans e3)))).symm.trans (CI.x (CI.u (CI.u hC_M (i := 0) (show kd 413 = 44 from rfl) (show (-2147483648 : Int) ≤ _ ∧ _ ≤ (2147483647 : Int) from by omega) rfl) (i := 1) (show kd 413 = 44 from rfl) (show (-2147483648 : Int) ≤ _ ∧ _ ≤ (2147483647 : Int) from by omega) rfl) (show kd 413 = 44 from rfl) 2 rfl (by decide)))
              refine jr.getf (i := 2) (x := v3) (v := .ref (v3.toNat)) rfl rfl (by decide) rfl (by decide) rfl rfl ((ju_i _ _ (by decide)).trans ((ju_i _ _ (by decide)).trans e3)) rfl ?_
              have k28 := kf_47_1 k27
              refine jr.getf (i := 1) (v := .ref ((v3.toNat) + 2)) rfl rfl (Nat.lt_trans (kx_47 k27).1 (by decide)) (kx_47 k27).2 (by decide) rfl rfl rfl (jval_ref rfl k28.1) ?_
              refine jr.iload_n rfl rfl ?_
              refine jr.iload_n rfl rfl ?_
              refine jr.iast (i := i) (x := r22) rfl (Nat.lt_trans (kx_48 k28.2).1 (by decide)) (kx_48 k28.2).2 (by decide) (by omega) (by omega) ?_
              refine jr.iinc rfl rfl (by decide) rfl ?_
              refine jr.goto rfl rfl ?_
              refine jr.pick [0, 3] rfl rfl ?_
              exact ih (nM - 1) (by omega) ((ju (ju (ju M 413 0 7) 413 1 v21) (((v3.toNat) + 2)) i r22)) (i + 1) (CI.u (CI.u (CI.u hC_M (i := 0) (show kd 413 = 44 from rfl) (show (-2147483648 : Int) ≤ _ ∧ _ ≤ (2147483647 : Int) from by omega) rfl) (i := 1) (show kd 413 = 44 from rfl) (show (-2147483648 : Int) ≤ _ ∧ _ ≤ (2147483647 : Int) from by omega) rfl) (i := i) k28.2 (show (-2147483648 : Int) ≤ _ ∧ _ ≤ (2147483647 : Int) from by omega) rfl) (FR.o (FR.o (FR.o ht_M (show kd 413 = 44 from rfl) rfl) (show kd 413 = 44 from rfl) rfl) k28.2 rfl) (by omega) (by have hq0 : (ju (ju (ju M 413 0 7) 413 1 v21) (((v3.toNat) + 2)) i r22) 413 3 = v1 := ((ju_c _ _ (kd_ne (by rw [(show kd 413 = 44 from rfl), k28.2]; decide))).trans ((ju_i _ _ (by decide)).trans ((ju_i _ _ (by decide)).trans e1))); omega) (MP.w (MP.n (MP.n hy1 hC_M (show kd 413 = 44 from rfl) (by decide) (Or.inl (by decide))) (CI.u hC_M (i := 0) (show kd 413 = 44 from rfl) (show (-2147483648 : Int) ≤ _ ∧ _ ≤ (2147483647 : Int) from by omega) rfl) (show kd 413 = 44 from rfl) (by decide) (Or.inl (by decide))) (CI.u (CI.u hC_M (i := 0) (show kd 413 = 44 from rfl) (show (-2147483648 : Int) ≤ _ ∧ _ ≤ (2147483647 : Int) from by omega) rfl) (i := 1) (show kd 413 = 44 from rfl) (show (-2147483648 : Int) ≤ _ ∧ _ ≤ (2147483647 : Int) from by omega) rfl) ((ju_i _ _ (by decide)).trans ((ju_i _ _ (by decide)).trans e3)) ⟨by omega, by omega⟩) (JR.f (by have hq : (ju (ju (ju M 413 0 7) 413 1 v21) (((v3.toNat) + 2)) i r22) 413 0 = 7 := ((ju_c _ _ (kd_ne (by rw [(show kd 413 = 44 from rfl), k28.2]; decide))).trans ((ju_i _ _ (by decide)).trans (ju_same _ _ _ _))); omega)) (TXc.fr hy3 (FR.o (FR.o (FR.o (FR.rfl [(44, 0), (44, 1), (48, 1000)] M) (show kd 413 = 44 from rfl) rfl) (show kd 413 = 44 from rfl) rfl) k28.2 rfl) rfl) (RJ.x (p := (v3.toNat)) hy4 (by omega) (e3.trans (by omega)) (by rw [e5]; omega) (by omega) (by rw [e21]; exact w22_0 (by omega)) ((ju_c _ _ (kd_ne (by rw [(show kd 413 = 44 from rfl), k28.2]; decide))).trans ((ju_i _ _ (by decide)).trans (ju_same _ _ _ _))) ((((ju_c _ _ (kd_ne (by rw [(show kd 413 = 44 from rfl), k28.2]; decide))).trans (ju_same _ _ _ _))).trans (e21).symm)) (by omega)
theorem c_Parser_resolveJumps_z {A : Nat → Option (Nat × (Nat → Int32))} [HA A] {Q : Option Value → jm → Prop} {G : Nat → Int → Int} {f : Int → Int} {N : Int} {xs : ZS} {nm : List Int} {T : jm} {M : jm} (hC_M : CI M) (ht_M : FR W_c_Parser_resolveJumps_z T M) (p0 : 1 ≤ M 413 3 ∧ M 413 3 ≤ 1) (p1 : MP M G) (p2 : TXc f N M) (p3 : RJ f N xs M nm 0) (q : ∀ (M' : jm), CI M' → FR W_c_Parser_resolveJumps_z T M' → (MP M' G) → (PR M') → (RJe f N xs M') → Q none M') : jc A 4 208 [.ref (413)] M Q := by
  refine jc_of (m := xm_208) rfl (Nat.le_of_ble_eq_true rfl) rfl ?_
  obtain ⟨v1, e1⟩ : ∃ z_, M 413 3 = z_ := ⟨_, rfl⟩
  have b1 : 1 ≤ v1 ∧ v1 ≤ 419 := by rw [← e1]; exact (CI.r hC_M (show kd 413 = 44 from rfl) (by decide) 3)
  have b2 : 1 ≤ v1 ∧ v1 ≤ 1 := by rw [← e1]; exact p0
  refine jr.iconst rfl ?_
  refine jr.istore_n rfl (by decide) rfl ?_
  refine jr.pick [0, 1] rfl rfl ?_
  exact c_Parser_resolveJumps_z_L2  q 932 M 0 hC_M ht_M (by omega) (by have hq0 : M 413 3 = v1 := e1; omega) p1 (JR.z _) p2 p3 (by omega)
theorem c_Parser_hasMore_z {A : Nat → Option (Nat × (Nat → Int32))} [HA A] {Q : Option Value → jm → Prop} {M : jm} (hC_M : CI M) {x : Int} (h_x : (-2147483648) ≤ x ∧ x ≤ 2147483647) (q : ∀ (r : Int), 0 ≤ r ∧ r ≤ 1 → ((r = 1 ∧ M 413 0 = 0 ∧ (x = 0 ∨ M 413 6 ≠ 0)) ∨ (r = 0 ∧ (M 413 0 ≠ 0 ∨ (x ≠ 0 ∧ M 413 6 = 0)))) → Q (some (.int (Int32.ofInt r))) M) : jc A 1 196 [.ref (413), .int (Int32.ofInt (x))] M Q := by
  refine jc_of (m := xm_196) rfl (Nat.le_of_ble_eq_true rfl) rfl ?_
  refine jr.aload_n rfl rfl ?_
  obtain ⟨v1, e1⟩ : ∃ z_, M 413 0 = z_ := ⟨_, rfl⟩
  have b1 : (-2147483648) ≤ v1 ∧ v1 ≤ 2147483647 := by rw [← e1]; exact (CI.r hC_M (show kd 413 = 44 from rfl) (by decide) 0)
  refine jr.getf (i := 0) (x := v1) (v := .int (Int32.ofInt (v1))) rfl rfl (by decide) rfl (by decide) rfl rfl e1 rfl ?_
  refine jr.if_ne rfl rfl (by omega) (fun h4 => ?_) (fun h4 => ?_)
  · refine jr.iconst rfl ?_
    exact jr.ireturn rfl rfl rfl (q _ (by omega) (by omega))
  · refine jr.iload_n rfl rfl ?_
    refine jr.if_eq rfl rfl (by omega) (fun h8 => ?_) (fun h8 => ?_)
    · refine jr.iconst rfl ?_
      refine jr.goto rfl rfl ?_
      exact jr.ireturn rfl rfl rfl (q _ (by omega) (by omega))
    · refine jr.aload_n rfl rfl ?_
      obtain ⟨v2, e2⟩ : ∃ z_, M 413 6 = z_ := ⟨_, rfl⟩
      have b2 : (-2147483648) ≤ v2 ∧ v2 ≤ 2147483647 := by rw [← e2]; exact (CI.r hC_M (show kd 413 = 44 from rfl) (by decide) 6)
      refine jr.getf (i := 6) (x := v2) (v := .int (Int32.ofInt (v2))) rfl rfl (by decide) rfl (by decide) rfl rfl e2 rfl ?_
      refine jr.if_eq rfl rfl (by omega) (fun h15 => ?_) (fun h15 => ?_)
      · refine jr.iconst rfl ?_
        exact jr.ireturn rfl rfl rfl (q _ (by omega) (by omega))
      · refine jr.iconst rfl ?_
        refine jr.goto rfl rfl ?_
        exact jr.ireturn rfl rfl rfl (q _ (by omega) (by omega))
noncomputable def W_c_Program_clear_z : List (Nat × Nat) := [(47, 2), (47, 3), (47, 4)]
theorem c_Program_clear_z {A : Nat → Option (Nat × (Nat → Int32))} {Q : Option Value → jm → Prop} {G : Nat → Int → Int} {T : jm} {M : jm} (hC_M : CI M) (ht_M : FR W_c_Program_clear_z T M) {t : Nat} (k_t : kd t = 47) (p0 : M 413 2 = ((t : Nat) : Int)) (p1 : MP M G) (q : ∀ (M' : jm), CI M' → FR W_c_Program_clear_z T M' → (MP M' G) → (M' t 2 = 0 ∧ M' t 3 = 0 ∧ M' t 4 = 0) → Q none M') : jc A 1 227 [.ref (t)] M Q := by
  refine jc_of (m := xm_227) rfl (Nat.le_of_ble_eq_true rfl) rfl ?_
  obtain ⟨v1, e1⟩ : ∃ z_, M 413 2 = z_ := ⟨_, rfl⟩
  have b1 : 0 ≤ v1 ∧ v1 ≤ 597 := by rw [← e1]; exact (CI.r hC_M (show kd 413 = 44 from rfl) (by decide) 2)
  refine jr.aload_n rfl rfl ?_
  refine jr.iconst rfl ?_
  refine jr.putf (i := 2) (x := 0) rfl rfl (Nat.lt_trans (kx_47 k_t).1 (by decide)) (kx_47 k_t).2 (by decide) rfl rfl rfl rfl rfl ?_
  refine jr.aload_n rfl rfl ?_
  refine jr.iconst rfl ?_
  refine jr.putf (i := 3) (x := 0) rfl rfl (Nat.lt_trans (kx_47 k_t).1 (by decide)) (kx_47 k_t).2 (by decide) rfl rfl rfl rfl rfl ?_
  refine jr.aload_n rfl rfl ?_
  refine jr.iconst rfl ?_
  refine jr.putf (i := 4) (x := 0) rfl rfl (Nat.lt_trans (kx_47 k_t).1 (by decide)) (kx_47 k_t).2 (by decide) rfl rfl rfl rfl rfl ?_
  exact jr.vreturn rfl rfl (q _ (CI.u (CI.u (CI.u hC_M (i := 2) k_t (show (0 : Int) ≤ _ ∧ _ ≤ (932 : Int) from by omega) rfl) (i := 3) k_t (show (0 : Int) ≤ _ ∧ _ ≤ (16 : Int) from by omega) rfl) (i := 4) k_t (show (-2147483648 : Int) ≤ _ ∧ _ ≤ (2147483647 : Int) from by omega) rfl) (FR.o (FR.o (FR.o ht_M k_t rfl) k_t rfl) k_t rfl)  (MP.w (MP.w (MP.w p1 hC_M e1 ⟨by omega, by omega⟩) (CI.u hC_M (i := 2) k_t (show (0 : Int) ≤ _ ∧ _ ≤ (932 : Int) from by omega) rfl) ((ju_c _ _ (kd_ne (by rw [(show kd 413 = 44 from rfl), k_t]; decide))).trans e1) ⟨by omega, by omega⟩) (CI.u (CI.u hC_M (i := 2) k_t (show (0 : Int) ≤ _ ∧ _ ≤ (932 : Int) from by omega) rfl) (i := 3) k_t (show (0 : Int) ≤ _ ∧ _ ≤ (16 : Int) from by omega) rfl) ((ju_i _ _ (by decide)).trans ((ju_c _ _ (kd_ne (by rw [(show kd 413 = 44 from rfl), k_t]; decide))).trans e1)) ⟨by omega, by omega⟩) (by have hq0 : (ju (ju (ju M t 2 0) t 3 0) t 4 0) t 2 = 0 := ((ju_i _ _ (by decide)).trans ((ju_i _ _ (by decide)).trans (ju_same _ _ _ _))); have hq1 : (ju (ju (ju M t 2 0) t 3 0) t 4 0) t 3 = 0 := ((ju_i _ _ (by decide)).trans (ju_same _ _ _ _)); have hq2 : (ju (ju (ju M t 2 0) t 3 0) t 4 0) t 4 = 0 := (ju_same _ _ _ _); omega))
theorem CBt.z0 {f : Int → Int} {N : Int} {M : jm} {p : Nat} (tk : TKc f N (zsp zbl f N 0) M) (gp : M 413 2 = (p : Int)) (e2 : M p 2 = 0) (e3 : M p 3 = 0) (e4 : M p 4 = 0) (h0 : M 413 0 = 0) (h1 : M 413 1 = -1) : CBt f N (zsI f N) M 0 := by
  have hp : (M 413 2).toNat = p := by rw [gp]; rfl
  refine Or.inr ⟨⟨h0, h1⟩, zsp zbl f N 0, 0, 0, 0, [], [], [], ⟨tk, ?_⟩, zr.r0 f N _, rfl⟩
  unfold CKb NMc JLp
  rw [hp, e2, e3, e4]
  refine ⟨⟨rfl, fun k k0 k1 => ?_⟩, ⟨rfl, fun x hx => absurd hx (by simp)⟩, rfl, by decide, by decide, by decide⟩
  have k2 : k < 0 := k1
  omega
noncomputable def W_c_Parser_begin_z : List (Nat × Nat) := [(44, 0), (44, 1), (44, 3), (44, 4), (44, 6), (44, 7), (44, 8), (44, 9), (44, 10), (44, 11), (47, 2), (47, 3), (47, 4)]
theorem c_Parser_begin_z {A : Nat → Option (Nat × (Nat → Int32))} [HA A] {Q : Option Value → jm → Prop} {G : Nat → Int → Int} {f : Int → Int} {N : Int} {T : jm} {M : jm} (hC_M : CI M) (ht_M : FR W_c_Parser_begin_z T M) {y : Int} (h_y : 0 ≤ y ∧ y ≤ 1600) (p0 : MP M G) (p1 : y = N) (p2 : ∀ i : Int, 0 ≤ i → i < N → M 1 i = f i) (q : ∀ (M' : jm), CI M' → FR W_c_Parser_begin_z T M' → (MP M' G) → (1 ≤ M' 413 3 ∧ M' 413 3 ≤ 1) → (M' 413 8 ≤ N ∧ (M' 413 6 = 1 → M' 413 7 < M' 413 8)) → (TXc f N M') → (CBt f N (zsI f N) M' 0) → Q none M') : jc A 7 195 [.ref (413), .ref (1), .int (Int32.ofInt (y))] M Q := by
  refine jc_of (m := xm_195) rfl (Nat.le_of_ble_eq_true rfl) rfl ?_
  refine jr.aload_n rfl rfl ?_
  refine jr.aload_n rfl rfl ?_
  refine jr.putf (i := 3) (x := 1) rfl rfl (by decide) rfl (by decide) rfl rfl rfl rfl rfl ?_
  refine jr.aload_n rfl rfl ?_
  refine jr.iload_n rfl rfl ?_
  refine jr.putf (i := 4) (x := y) rfl rfl (by decide) rfl (by decide) rfl rfl rfl rfl rfl ?_
  refine jr.aload_n rfl rfl ?_
  obtain ⟨v1, e1⟩ : ∃ z_, M 413 2 = z_ := ⟨_, rfl⟩
  have b1 : 0 ≤ v1 ∧ v1 ≤ 597 := by rw [← e1]; exact (CI.r hC_M (show kd 413 = 44 from rfl) (by decide) 2)
  have k2 : kd (v1).toNat = 47 := ((congrArg (fun z : Int => kd z.toNat) (show (ju (ju M 413 3 1) 413 4 y) 413 2 = v1 from ((ju_i _ _ (by decide)).trans ((ju_i _ _ (by decide)).trans e1)))).symm.trans (CI.x (CI.u (CI.u hC_M (i := 3) (show kd 413 = 44 from rfl) (show (1 : Int) ≤ _ ∧ _ ≤ (419 : Int) from by omega) rfl) (i := 4) (show kd 413 = 44 from rfl) (show (0 : Int) ≤ _ ∧ _ ≤ (1600 : Int) from by omega) rfl) (show kd 413 = 44 from rfl) 2 rfl (by decide)))
  refine jr.getf (i := 2) (x := v1) (v := .ref (v1.toNat)) rfl rfl (by decide) rfl (by decide) rfl rfl ((ju_i _ _ (by decide)).trans ((ju_i _ _ (by decide)).trans e1)) rfl ?_
  refine jr_v rfl rfl (Or.inl rfl) rfl rfl (Nat.lt_trans (kx_47 k2).1 (by decide)) (kx_47 k2).2 ⟨rfl, Nat.le_of_ble_eq_true rfl, Nat.le_of_ble_eq_true rfl⟩ rfl (jc.deep (c_Program_clear_z (CI.u (CI.u hC_M (i := 3) (show kd 413 = 44 from rfl) (show (1 : Int) ≤ _ ∧ _ ≤ (419 : Int) from by omega) rfl) (i := 4) (show kd 413 = 44 from rfl) (show (0 : Int) ≤ _ ∧ _ ≤ (1600 : Int) from by omega) rfl) (FR.rfl _ ((ju (ju M 413 3 1) 413 4 y))) k2 (by have hq0 : (ju (ju M 413 3 1) 413 4 y) 413 2 = v1 := ((ju_i _ _ (by decide)).trans ((ju_i _ _ (by decide)).trans e1)); omega) (MP.n (MP.n p0 hC_M (show kd 413 = 44 from rfl) (by decide) (Or.inl (by decide))) (CI.u hC_M (i := 3) (show kd 413 = 44 from rfl) (show (1 : Int) ≤ _ ∧ _ ≤ (419 : Int) from by omega) rfl) (show kd 413 = 44 from rfl) (by decide) (Or.inl (by decide))) (fun M3 hC_M3 hf_M3 w3_0 w3_1 => ?_)) (by decide))
  have ht_M3 : FR W_c_Parser_begin_z T M3 := FR.t (FR.o (FR.o ht_M (show kd 413 = 44 from rfl) rfl) (show kd 413 = 44 from rfl) rfl) hf_M3 (kw_sub rfl)
  obtain ⟨v4, e4⟩ : ∃ z_, M3 ((v1.toNat)) 2 = z_ := ⟨_, rfl⟩
  have b4 : 0 ≤ v4 ∧ v4 ≤ 932 := by rw [← e4]; exact (CI.r hC_M3 k2 (by decide) 2)
  obtain ⟨v5, e5⟩ : ∃ z_, M3 ((v1.toNat)) 3 = z_ := ⟨_, rfl⟩
  have b5 : 0 ≤ v5 ∧ v5 ≤ 16 := by rw [← e5]; exact (CI.r hC_M3 k2 (by decide) 3)
  obtain ⟨v6, e6⟩ : ∃ z_, M3 ((v1.toNat)) 4 = z_ := ⟨_, rfl⟩
  have b6 : (-2147483648) ≤ v6 ∧ v6 ≤ 2147483647 := by rw [← e6]; exact (CI.r hC_M3 k2 (by decide) 4)
  refine jr.aload_n rfl rfl ?_
  refine jr.iconst rfl ?_
  refine jr.putf (i := 0) (x := 0) rfl rfl (by decide) rfl (by decide) rfl rfl rfl rfl rfl ?_
  refine jr.aload_n rfl rfl ?_
  refine jr.iconst rfl ?_
  refine jr.putf (i := 1) (x := (-1)) rfl rfl (by decide) rfl (by decide) rfl rfl rfl rfl rfl ?_
  refine jr.aload_n rfl rfl ?_
  refine jr.iconst rfl ?_
  refine jr.putf (i := 8) (x := 0) rfl rfl (by decide) rfl (by decide) rfl rfl rfl rfl rfl ?_
  refine jr.aload_n rfl rfl ?_
  have e8 : M3 413 3 = 1 := (hf_M3.g (show kd 413 = 44 from rfl) rfl).trans ((ju_i _ _ (by decide)).trans (ju_same _ _ _ _))
  have e9 : M3 413 4 = y := (hf_M3.g (show kd 413 = 44 from rfl) rfl).trans (ju_same _ _ _ _)
  obtain ⟨v10, e10⟩ : ∃ z_, M 413 6 = z_ := ⟨_, rfl⟩
  have b10 : (-2147483648) ≤ v10 ∧ v10 ≤ 2147483647 := by rw [← e10]; exact (CI.r hC_M (show kd 413 = 44 from rfl) (by decide) 6)
  have e11 : M3 413 6 = v10 := (hf_M3.g (show kd 413 = 44 from rfl) rfl).trans ((ju_i _ _ (by decide)).trans ((ju_i _ _ (by decide)).trans e10))
  obtain ⟨v12, e12⟩ : ∃ z_, M 413 7 = z_ := ⟨_, rfl⟩
  have b12 : 0 ≤ v12 ∧ v12 ≤ 1600 := by rw [← e12]; exact (CI.r hC_M (show kd 413 = 44 from rfl) (by decide) 7)
  have e13 : M3 413 7 = v12 := (hf_M3.g (show kd 413 = 44 from rfl) rfl).trans ((ju_i _ _ (by decide)).trans ((ju_i _ _ (by decide)).trans e12))
  refine jr_v rfl rfl (Or.inl rfl) rfl rfl (by decide) rfl ⟨rfl, Nat.le_of_ble_eq_true rfl, Nat.le_of_ble_eq_true rfl⟩ rfl (jc.deep (c_Parser_advance_w (CI.u (CI.u (CI.u hC_M3 (i := 0) (show kd 413 = 44 from rfl) (show (-2147483648 : Int) ≤ _ ∧ _ ≤ (2147483647 : Int) from by omega) rfl) (i := 1) (show kd 413 = 44 from rfl) (show (-2147483648 : Int) ≤ _ ∧ _ ≤ (2147483647 : Int) from by omega) rfl) (i := 8) (show kd 413 = 44 from rfl) (show (0 : Int) ≤ _ ∧ _ ≤ (1600 : Int) from by omega) rfl) (FR.rfl _ ((ju (ju (ju M3 413 0 0) 413 1 (-1)) 413 8 0)))  ((ju_i _ _ (by decide)).trans ((ju_i _ _ (by decide)).trans (ju_same _ _ _ _))) (ju_same _ _ _ _) (by have hq0 : (ju (ju (ju M3 413 0 0) 413 1 (-1)) 413 8 0) 413 3 = 1 := ((ju_i _ _ (by decide)).trans ((ju_i _ _ (by decide)).trans ((ju_i _ _ (by decide)).trans e8))); omega) ⟨(((ju_i _ _ (by decide)).trans ((ju_i _ _ (by decide)).trans ((ju_i _ _ (by decide)).trans e9)))).trans p1, fun i h0 h1 => (ju_c _ _ (by decide)).trans ((ju_c _ _ (by decide)).trans ((ju_c _ _ (by decide)).trans ((hf_M3.g (show kd 1 = 43 from rfl) rfl).trans ((ju_c _ _ (by decide)).trans ((ju_c _ _ (by decide)).trans (p2 i h0 h1))))))⟩ (by have hq0 : (ju (ju (ju M3 413 0 0) 413 1 (-1)) 413 8 0) 413 8 = 0 := (ju_same _ _ _ _); have hq1 : (ju (ju (ju M3 413 0 0) 413 1 (-1)) 413 8 0) 413 6 = v10 := ((ju_i _ _ (by decide)).trans ((ju_i _ _ (by decide)).trans ((ju_i _ _ (by decide)).trans e11))); have hq2 : (ju (ju (ju M3 413 0 0) 413 1 (-1)) 413 8 0) 413 7 = v12 := ((ju_i _ _ (by decide)).trans ((ju_i _ _ (by decide)).trans ((ju_i _ _ (by decide)).trans e13))); omega) (fun M7 hC_M7 hf_M7 w7_0 w7_1 => ?_)) (by decide))
  have ht_M7 : FR W_c_Parser_begin_z T M7 := FR.t (FR.o (FR.o (FR.o ht_M3 (show kd 413 = 44 from rfl) rfl) (show kd 413 = 44 from rfl) rfl) (show kd 413 = 44 from rfl) rfl) hf_M7 (kw_sub rfl)
  obtain ⟨v14, e14⟩ : ∃ z_, M7 413 8 = z_ := ⟨_, rfl⟩
  have b14 : 0 ≤ v14 ∧ v14 ≤ 1600 := by rw [← e14]; exact (CI.r hC_M7 (show kd 413 = 44 from rfl) (by decide) 8)
  obtain ⟨v15, e15⟩ : ∃ z_, M7 413 6 = z_ := ⟨_, rfl⟩
  have b15 : (-2147483648) ≤ v15 ∧ v15 ≤ 2147483647 := by rw [← e15]; exact (CI.r hC_M7 (show kd 413 = 44 from rfl) (by decide) 6)
  obtain ⟨v16, e16⟩ : ∃ z_, M7 413 7 = z_ := ⟨_, rfl⟩
  have b16 : 0 ≤ v16 ∧ v16 ≤ 1600 := by rw [← e16]; exact (CI.r hC_M7 (show kd 413 = 44 from rfl) (by decide) 7)
  have e17 : M3 413 2 = v1 := (hf_M3.g (show kd 413 = 44 from rfl) rfl).trans ((ju_i _ _ (by decide)).trans ((ju_i _ _ (by decide)).trans e1))
  have e18 : M7 413 2 = v1 := (hf_M7.g (show kd 413 = 44 from rfl) rfl).trans ((ju_i _ _ (by decide)).trans ((ju_i _ _ (by decide)).trans ((ju_i _ _ (by decide)).trans e17)))
  have e19 : M7 413 3 = 1 := (hf_M7.g (show kd 413 = 44 from rfl) rfl).trans ((ju_i _ _ (by decide)).trans ((ju_i _ _ (by decide)).trans ((ju_i _ _ (by decide)).trans e8)))
  have e20 : M7 ((v1.toNat)) 2 = v4 := (hf_M7.g k2 rfl).trans ((ju_i _ _ (by decide)).trans ((ju_i _ _ (by decide)).trans ((ju_i _ _ (by decide)).trans e4)))
  have e21 : M7 ((v1.toNat)) 3 = v5 := (hf_M7.g k2 rfl).trans ((ju_i _ _ (by decide)).trans ((ju_i _ _ (by decide)).trans ((ju_i _ _ (by decide)).trans e5)))
  have e22 : M7 ((v1.toNat)) 4 = v6 := (hf_M7.g k2 rfl).trans ((ju_i _ _ (by decide)).trans ((ju_i _ _ (by decide)).trans ((ju_i _ _ (by decide)).trans e6)))
  have e23 : M7 413 0 = 0 := (hf_M7.g (show kd 413 = 44 from rfl) rfl).trans ((ju_i _ _ (by decide)).trans ((ju_i _ _ (by decide)).trans (ju_same _ _ _ _)))
  have e24 : M7 413 1 = -1 := (hf_M7.g (show kd 413 = 44 from rfl) rfl).trans ((ju_i _ _ (by decide)).trans (ju_same _ _ _ _))
  exact jr.vreturn rfl rfl (q _ hC_M7 ht_M7  (MP.fr (MP.n (MP.n (MP.n w3_0 hC_M3 (show kd 413 = 44 from rfl) (by decide) (Or.inl (by decide))) (CI.u hC_M3 (i := 0) (show kd 413 = 44 from rfl) (show (-2147483648 : Int) ≤ _ ∧ _ ≤ (2147483647 : Int) from by omega) rfl) (show kd 413 = 44 from rfl) (by decide) (Or.inl (by decide))) (CI.u (CI.u hC_M3 (i := 0) (show kd 413 = 44 from rfl) (show (-2147483648 : Int) ≤ _ ∧ _ ≤ (2147483647 : Int) from by omega) rfl) (i := 1) (show kd 413 = 44 from rfl) (show (-2147483648 : Int) ≤ _ ∧ _ ≤ (2147483647 : Int) from by omega) rfl) (show kd 413 = 44 from rfl) (by decide) (Or.inl (by decide))) (CI.u (CI.u (CI.u hC_M3 (i := 0) (show kd 413 = 44 from rfl) (show (-2147483648 : Int) ≤ _ ∧ _ ≤ (2147483647 : Int) from by omega) rfl) (i := 1) (show kd 413 = 44 from rfl) (show (-2147483648 : Int) ≤ _ ∧ _ ≤ (2147483647 : Int) from by omega) rfl) (i := 8) (show kd 413 = 44 from rfl) (show (0 : Int) ≤ _ ∧ _ ≤ (1600 : Int) from by omega) rfl) hf_M7 rfl) (by have hq0 : M7 413 3 = 1 := e19; omega) (by have hq0 : M7 413 8 = v14 := e14; have hq1 : M7 413 6 = v15 := e15; have hq2 : M7 413 7 = v16 := e16; omega) (w7_0.resolve_left (fun z => z rfl)).1 (CBt.z0 (p := (v1.toNat)) (w7_0.resolve_left (fun z => z rfl)) (e18.trans (by omega)) (e20.trans (by omega)) (e21.trans (by omega)) (e22.trans (by omega)) (e23.trans (by omega)) (e24.trans (by omega))))
theorem CBt.fr {f : Int → Int} {N : Int} {xs : ZS} {T M : jm} {i : Int} {W : List (Nat × Nat)} (h : CBt f N xs T i) (hC : CI T) (fr : FR W T M) (h1 : ksep W [(44, 2), (47, 3), (45, 1000), (47, 2), (47, 4), (48, 1000), (51, 1000)] = true) (h2 : ksep W [(44, 4), (43, 1000), (44, 6), (44, 7), (44, 8), (44, 9), (44, 10), (44, 11)] = true) (h3 : ksep W [(44, 0), (44, 1)] = true) : CBt f N xs M i := by
  have g0 := fr.s h3 k413 0 (by decide) 0 (Or.inr rfl)
  have g1 := fr.s h3 k413 1 (by decide) 1 (Or.inr rfl)
  unfold CBt
  rw [g0, g1]
  refine Or.imp id (fun z => ⟨z.1, ?_⟩) h
  obtain ⟨t, k, zd, zb, zs, nm, ak, ⟨tk, ck⟩, hz, hl⟩ := z.2
  exact ⟨t, k, zd, zb, zs, nm, ak, ⟨tk.fr fr h2, ck.fr hC fr h1⟩, hz, hl⟩
theorem RUc.mk {f : Int → Int} {N : Int} {T M : jm} {r : Int} (h : RJe f N (zsI f N) T) (e0 : M 413 0 = T 413 0) (e1 : M 413 1 = T 413 1) (hr : T 413 0 = 0 → r = T (T 413 2).toNat 3) (hr2 : T 413 0 ≠ 0 → r = j_w (-10 - T 413 0)) : RUc f N M r := by
  unfold RUc
  rw [e0, e1]
  rcases h with h | h
  · exact Or.inr ⟨h.1, hr2 h.1, h.2⟩
  · exact Or.inl ⟨h.1.1, h.1.2, by rw [hr h.1.1]; exact h.2⟩
noncomputable def W_c_PacketWall_rules_z : List (Nat × Nat) := [(22, 2), (35, 1), (44, 0), (44, 1), (44, 2), (44, 3), (44, 4), (44, 6), (44, 7), (44, 8), (44, 9), (44, 10), (44, 11), (45, 1000), (47, 2), (47, 3), (47, 4), (48, 1000), (49, 1000), (50, 1000), (51, 1000)]
theorem c_PacketWall_rules_z_L22 {A : Nat → Option (Nat × (Nat → Int32))} [HA A] {Q : Option Value → jm → Prop} {f : Int → Int} {N : Int} {T : jm} {G : Nat → Int → Int} (q : ∀ (r : Int) (M' : jm), CI M' → FR W_c_PacketWall_rules_z T M' → (-2147483648) ≤ r ∧ r ≤ 2147483647 → (PC M' ) → (M' 413 2 ≠ M' 421 2) → (M' 0 1 = 0) → (RUc f N M' r) → Q (some (.int (Int32.ofInt r))) M') : ∀ (nM : Nat) (M : jm) (i : Int), CI M → FR W_c_PacketWall_rules_z T M → 0 ≤ i ∧ i ≤ 17 → (1 ≤ M 413 3 ∧ M 413 3 ≤ 1) → (MP M G) → (PG G) → (M 0 1 = 0) → (TXc f N M) → (M 413 8 ≤ N ∧ (M 413 6 = 1 → M 413 7 < M 413 8)) → (CBt f N (zsI f N) M i) → 17 - i ≤ nM → jr A 361 xm_26 22 [(1, .int (Int32.ofInt (i))), (0, .ref (0))] [] M Q := by
  intro nM
  induction nM using Nat.strongRecOn with
  | ind nM ih =>
    intro M i hC_M ht_M h_i hy0 hy1 hy2 hy3 hy4 hy5 hy6 hm
    obtain ⟨v1, e1⟩ : ∃ z_, M 413 3 = z_ := ⟨_, rfl⟩
    have b1 : 1 ≤ v1 ∧ v1 ≤ 419 := by rw [← e1]; exact (CI.r hC_M (show kd 413 = 44 from rfl) (by decide) 3)
    have b2 : 1 ≤ v1 ∧ v1 ≤ 1 := by rw [← e1]; exact hy0
    obtain ⟨v3, e3⟩ : ∃ z_, M 0 1 = z_ := ⟨_, rfl⟩
    have b3 : 0 ≤ v3 ∧ v3 ≤ 1600 := by rw [← e3]; exact (CI.r hC_M (show kd 0 = 35 from rfl) (by decide) 1)
    obtain ⟨v4, e4⟩ : ∃ z_, M 413 8 = z_ := ⟨_, rfl⟩
    have b4 : 0 ≤ v4 ∧ v4 ≤ 1600 := by rw [← e4]; exact (CI.r hC_M (show kd 413 = 44 from rfl) (by decide) 8)
    obtain ⟨v5, e5⟩ : ∃ z_, M 413 6 = z_ := ⟨_, rfl⟩
    have b5 : (-2147483648) ≤ v5 ∧ v5 ≤ 2147483647 := by rw [← e5]; exact (CI.r hC_M (show kd 413 = 44 from rfl) (by decide) 6)
    obtain ⟨v6, e6⟩ : ∃ z_, M 413 7 = z_ := ⟨_, rfl⟩
    have b6 : 0 ≤ v6 ∧ v6 ≤ 1600 := by rw [← e6]; exact (CI.r hC_M (show kd 413 = 44 from rfl) (by decide) 7)
    refine jr.iload_n rfl rfl ?_
    refine jr.bipush rfl (by decide) ?_
    refine jr.icmp_gt rfl rfl (by omega) (by omega) (fun h25 => ?_) (fun h25 => ?_)
    · refine jr.aload_n rfl rfl ?_
      refine jr.getf (i := 10) (v := .ref 413) rfl rfl (by decide) rfl (by decide) rfl rfl rfl rfl ?_
      obtain ⟨nm, hrj⟩ := CBt.rj hy6 (fun q => by omega)
      refine jr_v rfl rfl (Or.inl rfl) rfl rfl (by decide) rfl ⟨rfl, Nat.le_of_ble_eq_true rfl, Nat.le_of_ble_eq_true rfl⟩ rfl (jc.deep (c_Parser_resolveJumps_z hC_M (FR.rfl _ M)  (by have hq0 : M 413 3 = v1 := e1; omega) hy1 hy4 hrj (fun M7 hC_M7 hf_M7 w7_0 w7_1 w7_2 => ?_)) (by decide))
      have ht_M7 : FR W_c_PacketWall_rules_z T M7 := FR.t ht_M hf_M7 (kw_sub rfl)
      refine jr.aload_n rfl rfl ?_
      refine jr.getf (i := 10) (v := .ref 413) rfl rfl (by decide) rfl (by decide) rfl rfl rfl rfl ?_
      obtain ⟨v8, e8⟩ : ∃ z_, M7 413 0 = z_ := ⟨_, rfl⟩
      have b8 : (-2147483648) ≤ v8 ∧ v8 ≤ 2147483647 := by rw [← e8]; exact (CI.r hC_M7 (show kd 413 = 44 from rfl) (by decide) 0)
      refine jr.getf (i := 0) (x := v8) (v := .int (Int32.ofInt (v8))) rfl rfl (by decide) rfl (by decide) rfl rfl e8 rfl ?_
      refine jr.if_eq rfl rfl (by omega) (fun h66 => ?_) (fun h66 => ?_)
      · refine jr.aload_n rfl rfl ?_
        refine jr.getf (i := 11) (v := .ref 421) rfl rfl (by decide) rfl (by decide) rfl rfl rfl rfl ?_
        obtain ⟨v9, e9⟩ : ∃ z_, M 421 2 = z_ := ⟨_, rfl⟩
        have b9 : 0 ≤ v9 ∧ v9 ≤ 597 := by rw [← e9]; exact (CI.r hC_M (show kd 421 = 22 from rfl) (by decide) 2)
        have e10 : M7 421 2 = v9 := (hf_M7.g (show kd 421 = 22 from rfl) rfl).trans e9
        have k11 : kd (v9).toNat = 47 := ((congrArg (fun z : Int => kd z.toNat) (show M7 421 2 = v9 from e10)).symm.trans (CI.x hC_M7 (show kd 421 = 22 from rfl) 2 rfl (by decide)))
        refine jr.getf (i := 2) (x := v9) (v := .ref (v9.toNat)) rfl rfl (by decide) rfl (by decide) rfl rfl e10 rfl ?_
        refine jr.astore_n rfl (by decide) rfl ?_
        refine jr.aload_n rfl rfl ?_
        refine jr.getf (i := 11) (v := .ref 421) rfl rfl (by decide) rfl (by decide) rfl rfl rfl rfl ?_
        refine jr.aload_n rfl rfl ?_
        refine jr.getf (i := 10) (v := .ref 413) rfl rfl (by decide) rfl (by decide) rfl rfl rfl rfl ?_
        obtain ⟨v12, e12⟩ : ∃ z_, M 413 2 = z_ := ⟨_, rfl⟩
        have b12 : 0 ≤ v12 ∧ v12 ≤ 597 := by rw [← e12]; exact (CI.r hC_M (show kd 413 = 44 from rfl) (by decide) 2)
        have e13 : M7 413 2 = v12 := (hf_M7.g (show kd 413 = 44 from rfl) rfl).trans e12
        have k14 : kd (v12).toNat = 47 := ((congrArg (fun z : Int => kd z.toNat) (show M7 413 2 = v12 from e13)).symm.trans (CI.x hC_M7 (show kd 413 = 44 from rfl) 2 rfl (by decide)))
        refine jr.getf (i := 2) (x := v12) (v := .ref (v12.toNat)) rfl rfl (by decide) rfl (by decide) rfl rfl e13 rfl ?_
        refine jr.putf (i := 2) (x := v12) rfl rfl (by decide) rfl (by decide) rfl rfl rfl rfl rfl ?_
        refine jr.aload_n rfl rfl ?_
        refine jr.getf (i := 10) (v := .ref 413) rfl rfl (by decide) rfl (by decide) rfl rfl rfl rfl ?_
        refine jr.aload_n rfl rfl ?_
        refine jr.putf (i := 2) (x := v9) rfl rfl (by decide) rfl (by decide) rfl rfl rfl rfl rfl ?_
        refine jr.aload_n rfl rfl ?_
        refine jr.getf (i := 11) (v := .ref 421) rfl rfl (by decide) rfl (by decide) rfl rfl rfl rfl ?_
        have k15 : kd (v12).toNat = 47 := ((congrArg (fun z : Int => kd z.toNat) (show (ju (ju M7 421 2 v12) 413 2 v9) 421 2 = v12 from ((ju_c _ _ (by decide)).trans (ju_same _ _ _ _)))).symm.trans (CI.x (CI.w (v := v9) (CI.w (v := v12) hC_M7 (i := 2) (show kd 421 = 22 from rfl) (show (0 : Int) ≤ _ ∧ _ ≤ (597 : Int) from by have hk := kd_lt (a := (v12).toNat) (by rw [k14]; decide); omega) k14) (i := 2) (show kd 413 = 44 from rfl) (show (0 : Int) ≤ _ ∧ _ ≤ (597 : Int) from by have hk := kd_lt (a := (v9).toNat) (by rw [k11]; decide); omega) k11) (show kd 421 = 22 from rfl) 2 rfl (by decide)))
        refine jr.getf (i := 2) (x := v12) (v := .ref (v12.toNat)) rfl rfl (by decide) rfl (by decide) rfl rfl ((ju_c _ _ (by decide)).trans (ju_same _ _ _ _)) rfl ?_
        obtain ⟨v16, e16⟩ : ∃ z_, M ((v12.toNat)) 3 = z_ := ⟨_, rfl⟩
        have b16 : 0 ≤ v16 ∧ v16 ≤ 16 := by rw [← e16]; exact (CI.r hC_M k15 (by decide) 3)
        have e17 : M7 ((v12.toNat)) 3 = v16 := (hf_M7.g k15 rfl).trans e16
        refine jr.getf (i := 3) (x := v16) (v := .int (Int32.ofInt (v16))) rfl rfl (Nat.lt_trans (kx_47 k15).1 (by decide)) (kx_47 k15).2 (by decide) rfl rfl ((ju_i _ _ (by decide)).trans ((ju_i _ _ (by decide)).trans e17)) rfl ?_
        have e18 : M7 0 1 = v3 := (hf_M7.g (show kd 0 = 35 from rfl) rfl).trans e3
        obtain ⟨v19, e19⟩ : ∃ z_, M7 413 1 = z_ := ⟨_, rfl⟩
        have b19 : (-2147483648) ≤ v19 ∧ v19 ≤ 2147483647 := by rw [← e19]; exact (CI.r hC_M7 (show kd 413 = 44 from rfl) (by decide) 1)
        have kpp : kd (v12.toNat) = 47 := (congrArg (fun z : Int => kd z.toNat) (show M7 413 2 = v12 from e13)).symm.trans (CI.x hC_M7 (show kd 413 = 44 from rfl) 2 rfl (by decide))
        exact jr.ireturn rfl rfl rfl (q _ _ (CI.w (v := v9) (CI.w (v := v12) hC_M7 (i := 2) (show kd 421 = 22 from rfl) (show (0 : Int) ≤ _ ∧ _ ≤ (597 : Int) from by have hk := kd_lt (a := (v12).toNat) (by rw [k14]; decide); omega) k14) (i := 2) (show kd 413 = 44 from rfl) (show (0 : Int) ≤ _ ∧ _ ≤ (597 : Int) from by have hk := kd_lt (a := (v9).toNat) (by rw [k11]; decide); omega) k11) (FR.o (FR.o ht_M7 (show kd 421 = 22 from rfl) rfl) (show kd 413 = 44 from rfl) rfl) (by omega) (PC.sw w7_1 hC_M7 (by have hq : M7 413 0 = v8 := e8; omega) e13) (by have hne := w7_0.1; have h1 : M7 413 2 = v12 := e13; have h2 : M7 421 2 = v9 := e10; have h3 : (ju (ju M7 421 2 v12) 413 2 v9) 413 2 = v9 := (ju_same _ _ _ _); have h4 : (ju (ju M7 421 2 v12) 413 2 v9) 421 2 = v12 := ((ju_c _ _ (by decide)).trans (ju_same _ _ _ _)); omega) (by have hq : (ju (ju M7 421 2 v12) 413 2 v9) 0 1 = v3 := ((ju_c _ _ (by decide)).trans ((ju_c _ _ (by decide)).trans e18)); omega) (RUc.mk w7_2 ((((ju_i _ _ (by decide)).trans ((ju_c _ _ (by decide)).trans e8))).trans (e8).symm) ((((ju_i _ _ (by decide)).trans ((ju_c _ _ (by decide)).trans e19))).trans (e19).symm) (fun q => by have y0 := e8; rw [e13, e17] <;> omega) (fun q => by first | (exfalso; have y0 := e8; omega) | rw [e8])))
      · refine jr.bipush rfl (by decide) ?_
        refine jr.aload_n rfl rfl ?_
        refine jr.getf (i := 10) (v := .ref 413) rfl rfl (by decide) rfl (by decide) rfl rfl rfl rfl ?_
        refine jr.getf (i := 0) (x := v8) (v := .int (Int32.ofInt (v8))) rfl rfl (by decide) rfl (by decide) rfl rfl e8 rfl ?_
        refine jr.isub rfl ?_
        refine jr.iw (j_w ((-10) - v8)) (j_w_eq _) ?_
        have b20 : -2147483648 ≤ j_w ((-10) - v8) ∧ j_w ((-10) - v8) ≤ 2147483647 := jb_any _
        have e21 : M7 0 1 = v3 := (hf_M7.g (show kd 0 = 35 from rfl) rfl).trans e3
        obtain ⟨v22, e22⟩ : ∃ z_, M7 413 1 = z_ := ⟨_, rfl⟩
        have b22 : (-2147483648) ≤ v22 ∧ v22 ≤ 2147483647 := by rw [← e22]; exact (CI.r hC_M7 (show kd 413 = 44 from rfl) (by decide) 1)
        obtain ⟨v23, e23⟩ : ∃ z_, M 413 2 = z_ := ⟨_, rfl⟩
        have b23 : 0 ≤ v23 ∧ v23 ≤ 597 := by rw [← e23]; exact (CI.r hC_M (show kd 413 = 44 from rfl) (by decide) 2)
        have e24 : M7 413 2 = v23 := (hf_M7.g (show kd 413 = 44 from rfl) rfl).trans e23
        have kpp : kd (v23.toNat) = 47 := (congrArg (fun z : Int => kd z.toNat) (show M7 413 2 = v23 from e24)).symm.trans (CI.x hC_M7 (show kd 413 = 44 from rfl) 2 rfl (by decide))
        obtain ⟨v25, e25⟩ : ∃ z_, M ((v23.toNat)) 3 = z_ := ⟨_, rfl⟩
        have b25 : 0 ≤ v25 ∧ v25 ≤ 16 := by rw [← e25]; exact (CI.r hC_M kpp (by decide) 3)
        have e26 : M7 ((v23.toNat)) 3 = v25 := (hf_M7.g kpp rfl).trans e25
        exact jr.ireturn rfl rfl rfl (q _ _ hC_M7 ht_M7 (by omega) (PC.g w7_0 hy2) w7_0.1 (by have hq : M7 0 1 = v3 := e21; omega) (RUc.mk w7_2 ((e8).trans (e8).symm) ((e22).trans (e22).symm) (fun q => by have y0 := e8; rw [e24, e26] <;> omega) (fun q => by first | (exfalso; have y0 := e8; omega) | rw [e8])))
    · refine jr.aload_n rfl rfl ?_
      refine jr.getf (i := 10) (v := .ref 413) rfl rfl (by decide) rfl (by decide) rfl rfl rfl rfl ?_
      refine jr.iload_n rfl rfl ?_
      refine jr_v rfl rfl (Or.inl rfl) rfl rfl (by decide) rfl ⟨rfl, Nat.le_of_ble_eq_true rfl, Nat.le_of_ble_eq_true rfl⟩ rfl (jc.deep (c_Parser_hasMore_z hC_M (by omega) (fun r27 z27 w27_0 => ?_)) (by decide))
      refine jr.if_eq rfl rfl (by omega) (fun h36 => ?_) (fun h36 => ?_)
      · refine jr.aload_n rfl rfl ?_
        refine jr.getf (i := 10) (v := .ref 413) rfl rfl (by decide) rfl (by decide) rfl rfl rfl rfl ?_
        obtain ⟨nm, hrj⟩ := CBt.rj hy6 (fun q => by omega)
        refine jr_v rfl rfl (Or.inl rfl) rfl rfl (by decide) rfl ⟨rfl, Nat.le_of_ble_eq_true rfl, Nat.le_of_ble_eq_true rfl⟩ rfl (jc.deep (c_Parser_resolveJumps_z hC_M (FR.rfl _ M)  (by have hq0 : M 413 3 = v1 := e1; omega) hy1 hy4 hrj (fun M28 hC_M28 hf_M28 w28_0 w28_1 w28_2 => ?_)) (by decide))
        have ht_M28 : FR W_c_PacketWall_rules_z T M28 := FR.t ht_M hf_M28 (kw_sub rfl)
        refine jr.aload_n rfl rfl ?_
        refine jr.getf (i := 10) (v := .ref 413) rfl rfl (by decide) rfl (by decide) rfl rfl rfl rfl ?_
        obtain ⟨v29, e29⟩ : ∃ z_, M28 413 0 = z_ := ⟨_, rfl⟩
        have b29 : (-2147483648) ≤ v29 ∧ v29 ≤ 2147483647 := by rw [← e29]; exact (CI.r hC_M28 (show kd 413 = 44 from rfl) (by decide) 0)
        refine jr.getf (i := 0) (x := v29) (v := .int (Int32.ofInt (v29))) rfl rfl (by decide) rfl (by decide) rfl rfl e29 rfl ?_
        refine jr.if_eq rfl rfl (by omega) (fun h66 => ?_) (fun h66 => ?_)
        · refine jr.aload_n rfl rfl ?_
          refine jr.getf (i := 11) (v := .ref 421) rfl rfl (by decide) rfl (by decide) rfl rfl rfl rfl ?_
          obtain ⟨v30, e30⟩ : ∃ z_, M 421 2 = z_ := ⟨_, rfl⟩
          have b30 : 0 ≤ v30 ∧ v30 ≤ 597 := by rw [← e30]; exact (CI.r hC_M (show kd 421 = 22 from rfl) (by decide) 2)
          have e31 : M28 421 2 = v30 := (hf_M28.g (show kd 421 = 22 from rfl) rfl).trans e30
          have k32 : kd (v30).toNat = 47 := ((congrArg (fun z : Int => kd z.toNat) (show M28 421 2 = v30 from e31)).symm.trans (CI.x hC_M28 (show kd 421 = 22 from rfl) 2 rfl (by decide)))
          refine jr.getf (i := 2) (x := v30) (v := .ref (v30.toNat)) rfl rfl (by decide) rfl (by decide) rfl rfl e31 rfl ?_
          refine jr.astore_n rfl (by decide) rfl ?_
          refine jr.aload_n rfl rfl ?_
          refine jr.getf (i := 11) (v := .ref 421) rfl rfl (by decide) rfl (by decide) rfl rfl rfl rfl ?_
          refine jr.aload_n rfl rfl ?_
          refine jr.getf (i := 10) (v := .ref 413) rfl rfl (by decide) rfl (by decide) rfl rfl rfl rfl ?_
          obtain ⟨v33, e33⟩ : ∃ z_, M 413 2 = z_ := ⟨_, rfl⟩
          have b33 : 0 ≤ v33 ∧ v33 ≤ 597 := by rw [← e33]; exact (CI.r hC_M (show kd 413 = 44 from rfl) (by decide) 2)
          have e34 : M28 413 2 = v33 := (hf_M28.g (show kd 413 = 44 from rfl) rfl).trans e33
          have k35 : kd (v33).toNat = 47 := ((congrArg (fun z : Int => kd z.toNat) (show M28 413 2 = v33 from e34)).symm.trans (CI.x hC_M28 (show kd 413 = 44 from rfl) 2 rfl (by decide)))
          refine jr.getf (i := 2) (x := v33) (v := .ref (v33.toNat)) rfl rfl (by decide) rfl (by decide) rfl rfl e34 rfl ?_
          refine jr.putf (i := 2) (x := v33) rfl rfl (by decide) rfl (by decide) rfl rfl rfl rfl rfl ?_
          refine jr.aload_n rfl rfl ?_
          refine jr.getf (i := 10) (v := .ref 413) rfl rfl (by decide) rfl (by decide) rfl rfl rfl rfl ?_
          refine jr.aload_n rfl rfl ?_
          refine jr.putf (i := 2) (x := v30) rfl rfl (by decide) rfl (by decide) rfl rfl rfl rfl rfl ?_
          refine jr.aload_n rfl rfl ?_
          refine jr.getf (i := 11) (v := .ref 421) rfl rfl (by decide) rfl (by decide) rfl rfl rfl rfl ?_
          have k36 : kd (v33).toNat = 47 := ((congrArg (fun z : Int => kd z.toNat) (show (ju (ju M28 421 2 v33) 413 2 v30) 421 2 = v33 from ((ju_c _ _ (by decide)).trans (ju_same _ _ _ _)))).symm.trans (CI.x (CI.w (v := v30) (CI.w (v := v33) hC_M28 (i := 2) (show kd 421 = 22 from rfl) (show (0 : Int) ≤ _ ∧ _ ≤ (597 : Int) from by have hk := kd_lt (a := (v33).toNat) (by rw [k35]; decide); omega) k35) (i := 2) (show kd 413 = 44 from rfl) (show (0 : Int) ≤ _ ∧ _ ≤ (597 : Int) from by have hk := kd_lt (a := (v30).toNat) (by rw [k32]; decide); omega) k32) (show kd 421 = 22 from rfl) 2 rfl (by decide)))
          refine jr.getf (i := 2) (x := v33) (v := .ref (v33.toNat)) rfl rfl (by decide) rfl (by decide) rfl rfl ((ju_c _ _ (by decide)).trans (ju_same _ _ _ _)) rfl ?_
          obtain ⟨v37, e37⟩ : ∃ z_, M ((v33.toNat)) 3 = z_ := ⟨_, rfl⟩
          have b37 : 0 ≤ v37 ∧ v37 ≤ 16 := by rw [← e37]; exact (CI.r hC_M k36 (by decide) 3)
          have e38 : M28 ((v33.toNat)) 3 = v37 := (hf_M28.g k36 rfl).trans e37
          refine jr.getf (i := 3) (x := v37) (v := .int (Int32.ofInt (v37))) rfl rfl (Nat.lt_trans (kx_47 k36).1 (by decide)) (kx_47 k36).2 (by decide) rfl rfl ((ju_i _ _ (by decide)).trans ((ju_i _ _ (by decide)).trans e38)) rfl ?_
          have e39 : M28 0 1 = v3 := (hf_M28.g (show kd 0 = 35 from rfl) rfl).trans e3
          obtain ⟨v40, e40⟩ : ∃ z_, M28 413 1 = z_ := ⟨_, rfl⟩
          have b40 : (-2147483648) ≤ v40 ∧ v40 ≤ 2147483647 := by rw [← e40]; exact (CI.r hC_M28 (show kd 413 = 44 from rfl) (by decide) 1)
          have kpp : kd (v33.toNat) = 47 := (congrArg (fun z : Int => kd z.toNat) (show M28 413 2 = v33 from e34)).symm.trans (CI.x hC_M28 (show kd 413 = 44 from rfl) 2 rfl (by decide))
          exact jr.ireturn rfl rfl rfl (q _ _ (CI.w (v := v30) (CI.w (v := v33) hC_M28 (i := 2) (show kd 421 = 22 from rfl) (show (0 : Int) ≤ _ ∧ _ ≤ (597 : Int) from by have hk := kd_lt (a := (v33).toNat) (by rw [k35]; decide); omega) k35) (i := 2) (show kd 413 = 44 from rfl) (show (0 : Int) ≤ _ ∧ _ ≤ (597 : Int) from by have hk := kd_lt (a := (v30).toNat) (by rw [k32]; decide); omega) k32) (FR.o (FR.o ht_M28 (show kd 421 = 22 from rfl) rfl) (show kd 413 = 44 from rfl) rfl) (by omega) (PC.sw w28_1 hC_M28 (by have hq : M28 413 0 = v29 := e29; omega) e34) (by have hne := w28_0.1; have h1 : M28 413 2 = v33 := e34; have h2 : M28 421 2 = v30 := e31; have h3 : (ju (ju M28 421 2 v33) 413 2 v30) 413 2 = v30 := (ju_same _ _ _ _); have h4 : (ju (ju M28 421 2 v33) 413 2 v30) 421 2 = v33 := ((ju_c _ _ (by decide)).trans (ju_same _ _ _ _)); omega) (by have hq : (ju (ju M28 421 2 v33) 413 2 v30) 0 1 = v3 := ((ju_c _ _ (by decide)).trans ((ju_c _ _ (by decide)).trans e39)); omega) (RUc.mk w28_2 ((((ju_i _ _ (by decide)).trans ((ju_c _ _ (by decide)).trans e29))).trans (e29).symm) ((((ju_i _ _ (by decide)).trans ((ju_c _ _ (by decide)).trans e40))).trans (e40).symm) (fun q => by have y0 := e29; rw [e34, e38] <;> omega) (fun q => by first | (exfalso; have y0 := e29; omega) | rw [e29])))
        · refine jr.bipush rfl (by decide) ?_
          refine jr.aload_n rfl rfl ?_
          refine jr.getf (i := 10) (v := .ref 413) rfl rfl (by decide) rfl (by decide) rfl rfl rfl rfl ?_
          refine jr.getf (i := 0) (x := v29) (v := .int (Int32.ofInt (v29))) rfl rfl (by decide) rfl (by decide) rfl rfl e29 rfl ?_
          refine jr.isub rfl ?_
          refine jr.iw (j_w ((-10) - v29)) (j_w_eq _) ?_
          have b41 : -2147483648 ≤ j_w ((-10) - v29) ∧ j_w ((-10) - v29) ≤ 2147483647 := jb_any _
          have e42 : M28 0 1 = v3 := (hf_M28.g (show kd 0 = 35 from rfl) rfl).trans e3
          obtain ⟨v43, e43⟩ : ∃ z_, M28 413 1 = z_ := ⟨_, rfl⟩
          have b43 : (-2147483648) ≤ v43 ∧ v43 ≤ 2147483647 := by rw [← e43]; exact (CI.r hC_M28 (show kd 413 = 44 from rfl) (by decide) 1)
          obtain ⟨v44, e44⟩ : ∃ z_, M 413 2 = z_ := ⟨_, rfl⟩
          have b44 : 0 ≤ v44 ∧ v44 ≤ 597 := by rw [← e44]; exact (CI.r hC_M (show kd 413 = 44 from rfl) (by decide) 2)
          have e45 : M28 413 2 = v44 := (hf_M28.g (show kd 413 = 44 from rfl) rfl).trans e44
          have kpp : kd (v44.toNat) = 47 := (congrArg (fun z : Int => kd z.toNat) (show M28 413 2 = v44 from e45)).symm.trans (CI.x hC_M28 (show kd 413 = 44 from rfl) 2 rfl (by decide))
          obtain ⟨v46, e46⟩ : ∃ z_, M ((v44.toNat)) 3 = z_ := ⟨_, rfl⟩
          have b46 : 0 ≤ v46 ∧ v46 ≤ 16 := by rw [← e46]; exact (CI.r hC_M kpp (by decide) 3)
          have e47 : M28 ((v44.toNat)) 3 = v46 := (hf_M28.g kpp rfl).trans e46
          exact jr.ireturn rfl rfl rfl (q _ _ hC_M28 ht_M28 (by omega) (PC.g w28_0 hy2) w28_0.1 (by have hq : M28 0 1 = v3 := e42; omega) (RUc.mk w28_2 ((e29).trans (e29).symm) ((e43).trans (e43).symm) (fun q => by have y0 := e29; rw [e45, e47] <;> omega) (fun q => by first | (exfalso; have y0 := e29; omega) | rw [e29])))
      · refine jr.aload_n rfl rfl ?_
        refine jr.getf (i := 10) (v := .ref 413) rfl rfl (by decide) rfl (by decide) rfl rfl rfl rfl ?_
        obtain ⟨v49, e49⟩ : ∃ z_, M 413 0 = z_ := ⟨_, rfl⟩
        have b49 : (-2147483648) ≤ v49 ∧ v49 ≤ 2147483647 := by rw [← e49]; exact (CI.r hC_M (show kd 413 = 44 from rfl) (by decide) 0)
        refine jr_v rfl rfl (Or.inl rfl) rfl rfl (by decide) rfl ⟨rfl, Nat.le_of_ble_eq_true rfl, Nat.le_of_ble_eq_true rfl⟩ rfl (jc.deep (c_Parser_chain_z hC_M (FR.rfl _ M)  (by have hq0 : M 413 3 = v1 := e1; omega) hy1 hy4 (by have hq0 : M 413 8 = v4 := e4; have hq1 : M 413 6 = v5 := e5; have hq2 : M 413 7 = v6 := e6; omega) (by have hq0 : M 413 0 = v49 := e49; omega) hy6 (by have hq0 : M 413 6 = v5 := e5; omega) (by omega) (fun M48 hC_M48 hf_M48 w48_0 w48_1 w48_2 => ?_)) (by decide))
        have ht_M48 : FR W_c_PacketWall_rules_z T M48 := FR.t ht_M hf_M48 (kw_sub rfl)
        obtain ⟨v50, e50⟩ : ∃ z_, M48 413 8 = z_ := ⟨_, rfl⟩
        have b50 : 0 ≤ v50 ∧ v50 ≤ 1600 := by rw [← e50]; exact (CI.r hC_M48 (show kd 413 = 44 from rfl) (by decide) 8)
        obtain ⟨v51, e51⟩ : ∃ z_, M48 413 6 = z_ := ⟨_, rfl⟩
        have b51 : (-2147483648) ≤ v51 ∧ v51 ≤ 2147483647 := by rw [← e51]; exact (CI.r hC_M48 (show kd 413 = 44 from rfl) (by decide) 6)
        obtain ⟨v52, e52⟩ : ∃ z_, M48 413 7 = z_ := ⟨_, rfl⟩
        have b52 : 0 ≤ v52 ∧ v52 ≤ 1600 := by rw [← e52]; exact (CI.r hC_M48 (show kd 413 = 44 from rfl) (by decide) 7)
        refine jr.iinc rfl rfl (by decide) rfl ?_
        refine jr.goto rfl rfl ?_
        have e53 : M48 413 3 = v1 := (hf_M48.g (show kd 413 = 44 from rfl) rfl).trans e1
        have e54 : M48 0 1 = v3 := (hf_M48.g (show kd 0 = 35 from rfl) rfl).trans e3
        refine jr.pick [0, 1] rfl rfl ?_
        exact ih (nM - 1) (by omega) M48 (i + 1) hC_M48 ht_M48 (by omega) (by have hq0 : M48 413 3 = v1 := e53; omega) w48_0 hy2 (by have hq0 : M48 0 1 = v3 := e54; omega) (TXc.fr hy4 hf_M48 rfl) (by have hq0 : M48 413 8 = v50 := e50; have hq1 : M48 413 6 = v51 := e51; have hq2 : M48 413 7 = v52 := e52; omega) w48_2 (by omega)
theorem c_PacketWall_rules_z {A : Nat → Option (Nat × (Nat → Int32))} [HA A] {Q : Option Value → jm → Prop} {f : Int → Int} {N : Int} {T : jm} {M : jm} (hC_M : CI M) (ht_M : FR W_c_PacketWall_rules_z T M) (p0 : PC M ) (p1 : M 413 2 ≠ M 421 2) (p2 : M 0 1 = N) (p3 : ∀ i : Int, 0 ≤ i → i < N → M 1 i = f i) (q : ∀ (r : Int) (M' : jm), CI M' → FR W_c_PacketWall_rules_z T M' → (-2147483648) ≤ r ∧ r ≤ 2147483647 → (PC M' ) → (M' 413 2 ≠ M' 421 2) → (M' 0 1 = 0) → (RUc f N M' r) → Q (some (.int (Int32.ofInt r))) M') : jc A 362 26 [.ref (0)] M Q := by
  refine jc_of (m := xm_26) rfl (Nat.le_of_ble_eq_true rfl) rfl ?_
  obtain ⟨v1, e1⟩ : ∃ z_, M 413 2 = z_ := ⟨_, rfl⟩
  have b1 : 0 ≤ v1 ∧ v1 ≤ 597 := by rw [← e1]; exact (CI.r hC_M (show kd 413 = 44 from rfl) (by decide) 2)
  obtain ⟨v2, e2⟩ : ∃ z_, M 421 2 = z_ := ⟨_, rfl⟩
  have b2 : 0 ≤ v2 ∧ v2 ≤ 597 := by rw [← e2]; exact (CI.r hC_M (show kd 421 = 22 from rfl) (by decide) 2)
  obtain ⟨v3, e3⟩ : ∃ z_, M 0 1 = z_ := ⟨_, rfl⟩
  have b3 : 0 ≤ v3 ∧ v3 ≤ 1600 := by rw [← e3]; exact (CI.r hC_M (show kd 0 = 35 from rfl) (by decide) 1)
  have hG : MP M (fun d k => M ((M 421 2).toNat + d) k) := ⟨p1, fun _ _ _ => rfl⟩
  refine jr.aload_n rfl rfl ?_
  refine jr.getf (i := 10) (v := .ref 413) rfl rfl (by decide) rfl (by decide) rfl rfl rfl rfl ?_
  refine jr.aload_n rfl rfl ?_
  refine jr.getf (i := 0) (v := .ref 1) rfl rfl (by decide) rfl (by decide) rfl rfl rfl rfl ?_
  refine jr.aload_n rfl rfl ?_
  refine jr.getf (i := 1) (x := v3) (v := .int (Int32.ofInt (v3))) rfl rfl (by decide) rfl (by decide) rfl rfl e3 rfl ?_
  refine jr_v rfl rfl (Or.inl rfl) rfl rfl (by decide) rfl ⟨rfl, Nat.le_of_ble_eq_true rfl, Nat.le_of_ble_eq_true rfl⟩ rfl (jc.deep (c_Parser_begin_z hC_M (FR.rfl _ M) (by omega) hG (by omega) p3 (fun M4 hC_M4 hf_M4 w4_0 w4_1 w4_2 w4_3 w4_4 => ?_)) (by decide))
  have ht_M4 : FR W_c_PacketWall_rules_z T M4 := FR.t ht_M hf_M4 (kw_sub rfl)
  obtain ⟨v5, e5⟩ : ∃ z_, M4 413 3 = z_ := ⟨_, rfl⟩
  have b5 : 1 ≤ v5 ∧ v5 ≤ 419 := by rw [← e5]; exact (CI.r hC_M4 (show kd 413 = 44 from rfl) (by decide) 3)
  have b6 : 1 ≤ v5 ∧ v5 ≤ 1 := by rw [← e5]; exact w4_1
  obtain ⟨v7, e7⟩ : ∃ z_, M4 413 8 = z_ := ⟨_, rfl⟩
  have b7 : 0 ≤ v7 ∧ v7 ≤ 1600 := by rw [← e7]; exact (CI.r hC_M4 (show kd 413 = 44 from rfl) (by decide) 8)
  obtain ⟨v8, e8⟩ : ∃ z_, M4 413 6 = z_ := ⟨_, rfl⟩
  have b8 : (-2147483648) ≤ v8 ∧ v8 ≤ 2147483647 := by rw [← e8]; exact (CI.r hC_M4 (show kd 413 = 44 from rfl) (by decide) 6)
  obtain ⟨v9, e9⟩ : ∃ z_, M4 413 7 = z_ := ⟨_, rfl⟩
  have b9 : 0 ≤ v9 ∧ v9 ≤ 1600 := by rw [← e9]; exact (CI.r hC_M4 (show kd 413 = 44 from rfl) (by decide) 7)
  refine jr.aload_n rfl rfl ?_
  refine jr.iconst rfl ?_
  refine jr.putf (i := 1) (x := 0) rfl rfl (by decide) rfl (by decide) rfl rfl rfl rfl rfl ?_
  refine jr.iconst rfl ?_
  refine jr.istore_n rfl (by decide) rfl ?_
  refine jr.pick [0, 1] rfl rfl ?_
  exact c_PacketWall_rules_z_L22  q 17 ((ju M4 0 1 0)) 0 (CI.u hC_M4 (i := 1) (show kd 0 = 35 from rfl) (show (0 : Int) ≤ _ ∧ _ ≤ (1600 : Int) from by omega) rfl) (FR.o ht_M4 (show kd 0 = 35 from rfl) rfl) (by omega) (by have hq0 : (ju M4 0 1 0) 413 3 = v5 := ((ju_c _ _ (by decide)).trans e5); omega) (MP.n w4_0 hC_M4 (show kd 0 = 35 from rfl) (by decide) (Or.inl (by decide))) (PG.o p0) (by have hq0 : (ju M4 0 1 0) 0 1 = 0 := (ju_same _ _ _ _); omega) (TXc.fr w4_3 (FR.o (FR.rfl [(35, 1)] M4) (show kd 0 = 35 from rfl) rfl) rfl) (by have hq0 : (ju M4 0 1 0) 413 8 = v7 := ((ju_c _ _ (by decide)).trans e7); have hq1 : (ju M4 0 1 0) 413 6 = v8 := ((ju_c _ _ (by decide)).trans e8); have hq2 : (ju M4 0 1 0) 413 7 = v9 := ((ju_c _ _ (by decide)).trans e9); omega) (CBt.fr w4_4 hC_M4 (FR.o (FR.rfl [(35, 1)] M4) (show kd 0 = 35 from rfl) rfl) rfl rfl rfl) (by omega)
end
section
theorem c_PacketWall_wrong_z {A : Nat → Option (Nat × (Nat → Int32))} {Q : Option Value → jm → Prop} {M : jm} (hC_M : CI M) (q : ∀ (r : Int), (-2147483648) ≤ r ∧ r ≤ 2147483647 → (r = M 413 1) → Q (some (.int (Int32.ofInt r))) M) : jc A 1 27 [.ref (0)] M Q := by
  refine jc_of (m := xm_27) rfl (Nat.le_of_ble_eq_true rfl) rfl ?_
  refine jr.aload_n rfl rfl ?_
  refine jr.getf (i := 10) (v := .ref 413) rfl rfl (by decide) rfl (by decide) rfl rfl rfl rfl ?_
  obtain ⟨v1, e1⟩ : ∃ z_, M 413 1 = z_ := ⟨_, rfl⟩
  have b1 : (-2147483648) ≤ v1 ∧ v1 ≤ 2147483647 := by rw [← e1]; exact (CI.r hC_M (show kd 413 = 44 from rfl) (by decide) 1)
  refine jr.getf (i := 1) (x := v1) (v := .int (Int32.ofInt (v1))) rfl rfl (by decide) rfl (by decide) rfl rfl e1 rfl ?_
  exact jr.ireturn rfl rfl rfl (q _ (by omega) (by omega))
theorem rules_eq {f : Int → Int} {N r s : Int} {C R : jm} (hs : -2147483648 ≤ s ∧ s ≤ 2147483647) (h : RUc f N C r) (g : RUQ f N R s) : r = s ∧ C 413 1 = R 598 81 := by
  rcases h with h | h
  · rcases g with g | g
    · exact ⟨zr.oo h.2.2 g.2.2, h.2.1.trans g.2.1.symm⟩
    · exact (zr.fo g.2.2 h.2.2 g.1).elim
  · rcases g with g | g
    · exact (zr.fo h.2.2 g.2.2 h.1).elim
    · have q := zr.ff h.2.2 g.2.2
      exact ⟨by rw [h.2.1, q.1, ← g.2.1]; exact j_w_id hs, q.2⟩
end
section
/-! ===== what both sides keep between the law's calls ===== -/
noncomputable def CV (M : jm) (L S : Int) : Prop := CI M ∧ LC M L ∧ PC M ∧ M 413 2 ≠ M 421 2 ∧ M 421 4 = 0 ∧ M 0 8 = S
noncomputable def X7 (M : jm) : Prop := ∀ i : Int, 0 ≤ i → i < 100 → M 647 i = xcv_5 i
noncomputable def RV (M : jm) (L S : Int) : Prop := RI M ∧ RH M ∧ RF M ∧ RG1 M ∧ FWq (M 650) ∧ MC M ∧ AS M L ∧ M 598 2 = S ∧ X7 M ∧ TWr M
theorem X7.fr {M M' : jm} (h : X7 M) (e : ∀ i : Int, M' 647 i = M 647 i) : X7 M' := fun i i0 i1 => (e i).trans (h i i0 i1)
theorem kd_hi {a : Nat} (h : 598 ≤ a) : kd a = 0 := by
  unfold kd
  rw [blt_f h]
  rfl
theorem rG_hi {a : Nat} (h : rG a = true) : 598 ≤ a := by
  cases hb : Nat.blt a 598 with
  | false =>
    rcases Nat.lt_or_ge a 598 with q | q
    · rw [Nat.blt_eq.mpr q] at hb
      exact absurd hb (by decide)
    · exact q
  | true =>
    have q := Nat.blt_eq.mp hb
    have e : ∀ k, 598 ≤ k → Nat.beq a k = false := fun k hk => by
      cases hq : Nat.beq a k with
      | false => rfl
      | true => have := Nat.eq_of_beq_eq_true hq; omega
    unfold rG at h
    rw [e 606 (by decide), e 607 (by decide), e 613 (by decide), e 617 (by decide), e 618 (by decide), e 619 (by decide), e 620 (by decide), e 621 (by decide)] at h
    exact absurd h (by decide)
theorem RV.tr {M M' : jm} {L S : Int} (h : RV M L S) (e : ∀ (a : Nat) (i : Int), 598 ≤ a → M' a i = M a i) : RV M' L S := by
  obtain ⟨h1, h2, h3, h4, h5, h6, h7, h8, h9, h10⟩ := h
  exact ⟨fun a i ha => by rw [e a i ha]; exact h1 a i ha, fun j => by rw [e 603 j (by decide), e 604 j (by decide), e 605 j (by decide)]; exact h2 j, RF.fr h3 (fun f => e 629 f (by decide)) (fun f => e 638 f (by decide)), RG1.fr h4 (fun a i ha => e a i (rG_hi ha)), by rw [show M' 650 = M 650 from funext (fun i => e 650 i (by decide))]; exact h5, MC.fr h6 (fun i => e 652 i (by decide)) (fun i => e 653 i (by decide)) (fun i => e 654 i (by decide)) (fun i => e 655 i (by decide)) (e 598 82 (by decide)), AS.fr h7 (fun i => e 685 i (by decide)) (e 598 112 (by decide)), (e 598 2 (by decide)).trans h8, h9.fr (fun i => e 647 i (by decide)), h10.fr (fun i => e 649 i (by decide)) (fun i => e 650 i (by decide))⟩
theorem CV.z {M M' : jm} {L S : Int} (h : CV M L S) (e : ∀ (a : Nat) (i : Int), a < 598 → M' a i = M a i) : CV M' L S := by
  obtain ⟨h1, h2, h4, h5, h6, h7⟩ := h
  have f : FR [(0, 1000)] M M' := fun a i hk => e a i (kd_lt (fun q => by
    rw [q] at hk
    have t : kw [(0, 1000)] 0 i = true := rfl
    rw [t] at hk
    exact absurd hk (by decide)))
  exact ⟨⟨fun a i ha => by rw [e a i (kd_lt ha)]; exact h1.1 a i ha, fun a i ha => by rw [e a i (kd_lt (fun q => ha (by rw [q]; rfl)))]; exact h1.2 a i ha⟩, h2.fr f rfl, h4.fr h1 f rfl, by rw [e 413 2 (by decide), e 421 2 (by decide)]; exact h5, (e 421 4 (by decide)).trans h6, (e 0 8 (by decide)).trans h7⟩
theorem CV.le {M : jm} {L L' S : Int} (h : CV M L S) (hl : L ≤ L') : CV M L' S := ⟨h.1, h.2.1.le hl, h.2.2⟩
theorem RV.le {M : jm} {L L' S : Int} (h : RV M L S) (hl : L ≤ L') : RV M L' S := ⟨h.1, h.2.1, h.2.2.1, h.2.2.2.1, h.2.2.2.2.1, h.2.2.2.2.2.1, h.2.2.2.2.2.2.1.up hl, h.2.2.2.2.2.2.2⟩
/-- the reference's cells alone -/
theorem RDA.rr {C R S : jm} (h : RDA C R) (hG : RG1 R) (hI : RI R) (e : ∀ (a : Nat) (i : Int), 598 ≤ a → S a i = R a i) : RDA C S :=
  ⟨h.1.r (fun i => e 599 i (by decide)) (e 598 1 (by decide)), h.2.1.r (fun a i h0 _ => e a i (by omega)), h.2.2.1.r (fun i _ _ => e 598 i (by decide)), h.2.2.2.1.r (fun i => e 622 i (by decide)) (e 598 34 (by decide)), h.2.2.2.2.1.r (fun a i h0 _ => e a i (by omega)), h.2.2.2.2.2.1.r (fun a i h0 _ => e a i (by omega)), h.2.2.2.2.2.2.r hG hI (fun a i h0 _ => e a i (by omega))⟩
theorem rf_hi {M M' : jm} (e : ∀ (a : Nat) (i : Int), 598 ≤ a → M' a i = M a i) : rf M = rf M' := funext (fun x => (rf_e (fun i => e 601 i (by decide))).symm)
theorem RDA.gok {C R : jm} (h : RDA C R) (hG : RG1 R) (hI : RI R) : GOK C := fun g g0 g1 u => by
  have q := h.2.2.2.2.2.2.2 g g0 g1
  rw [q.1] at u
  have l := q.2 u
  have z := (hG g g0 u).2
  have a : (-1 : Int) ≤ R 617 g ∧ R 617 g ≤ 400 := by have q := hI 617 g (by decide); rw [xri_row rfl rfl] at q; exact q
  refine ⟨l.2.2.1.2.2, ?_⟩
  by_cases c : R 617 g = -1
  · exact Or.inl (l.2.2.2.2.1.trans c)
  · obtain ⟨l1, l2, l3, l4⟩ := l.2.2.2.2.2 c
    have zz := z c
    refine Or.inr ⟨by rw [l.2.2.2.2.1]; omega, by rw [l2]; omega, ?_, fun k k0 k1 => ?_⟩
    · rcases l.2.1 with e | e
      · right
        rw [l.1.1, l.2.2.2.2.1, l2, e]
        have := l4 e
        unfold hlf
        rw [if_neg (by decide)]
        omega
      · left
        rw [l.1.1, e]
        decide
    · rw [l.2.2.2.2.1] at k1
      rw [l1 k k0 k1]
      have q := hI 618 (400 * g + k) (by decide)
      rw [xri_row rfl rfl] at q
      exact q
theorem RDA.gq6 {C R : jm} (h : RDA C R) : GQ6 R := fun g g0 g1 u => by
  have l := ((h.2.2.2.2.2.2.2 g g0 g1).2 u).2.2.1
  rw [l.1] at l
  rcases l.2.2 with e | e
  · refine Or.inl ⟨e, ?_⟩
    rw [l.2.1, e, rbf_n]
    unfold szf
    (repeat' split) <;> omega
  · exact Or.inr e
theorem rG_ne {a k : Nat} (h : rG a = true) (hk : rG k = false) : a ≠ k := fun e => by
  rw [e, hk] at h
  exact absurd h (by decide)
noncomputable def W_all : List (Nat × Nat) := [(1, 1000), (2, 1000), (3, 1000), (4, 1000), (5, 1000), (6, 1000), (7, 1000), (8, 1000), (9, 1000), (10, 1000), (11, 1000), (12, 1000), (13, 1000), (14, 1000), (15, 1000), (16, 1000), (17, 1000), (18, 1000), (19, 1000), (20, 1000), (21, 1000), (22, 1000), (23, 1000), (24, 1000), (25, 1000), (26, 1000), (27, 1000), (28, 1000), (29, 1000), (30, 1000), (31, 1000), (32, 1000), (33, 1000), (34, 1000), (35, 1000), (36, 1000), (37, 1000), (38, 1000), (39, 1000), (40, 1000), (41, 1000), (42, 1000), (43, 1000), (44, 1000), (45, 1000), (46, 1000), (47, 1000), (48, 1000), (49, 1000), (50, 1000), (51, 1000), (52, 1000), (53, 1000), (54, 1000)]
section JP2
variable {A : Nat → Option (Nat × (Nat → Int32))} {D : Nat} {m : ix_M} {pc : Nat} {ls : ix_L} {st : List Value} {M : jm} {Q : Option Value → jm → Prop}
theorem jr.pop2 {x : Int64} (hi : m.2.2.2.2.2.2 pc = some .pop2) (k : jr A D m (pc + 1) ls st M Q) : jr A D m pc ls (.long x :: st) M Q := jr_sem hi (fun f => by simp [ix_sem, ix_ret, ix_alu, ix_len, Value.category]) k
end JP2
theorem oq_wrong {C R S : jm} (h : RDA C R) (hG : RG1 R) (hI : RI R) (hf : ∀ (a : Nat) (i : Int), a ≠ 603 → S a i = R a i) : RDA C S := ⟨((h.1).r (fun i => hf 599 i (by decide)) (hf 598 1 (by decide))), ((h.2.1).r (fun a i _ _ => hf a i (by omega))), ((h.2.2.1).r (fun i _ _ => (hf 598 i (by decide)))), ((h.2.2.2.1).r (fun i => hf 622 i (by decide)) (hf 598 34 (by decide))), ((h.2.2.2.2.1).r (fun a i _ _ => hf a i (by omega))), ((h.2.2.2.2.2.1).r (fun a i _ _ => hf a i (by omega))), ((h.2.2.2.2.2.2).r hG hI (fun a i _ _ => hf a i (by omega)))⟩
theorem oq_why {C R S : jm} (h : RDA C R) (hG : RG1 R) (hI : RI R) (hf : ∀ (a : Nat) (i : Int), a ≠ 603 → S a i = R a i) : RDA C S := ⟨((h.1).r (fun i => hf 599 i (by decide)) (hf 598 1 (by decide))), ((h.2.1).r (fun a i _ _ => hf a i (by omega))), ((h.2.2.1).r (fun i _ _ => (hf 598 i (by decide)))), ((h.2.2.2.1).r (fun i => hf 622 i (by decide)) (hf 598 34 (by decide))), ((h.2.2.2.2.1).r (fun a i _ _ => hf a i (by omega))), ((h.2.2.2.2.2.1).r (fun a i _ _ => hf a i (by omega))), ((h.2.2.2.2.2.2).r hG hI (fun a i _ _ => hf a i (by omega)))⟩
theorem oq_counter {C R S : jm} (h : RDA C R) (hG : RG1 R) (hI : RI R) (hf : ∀ (a : Nat) (i : Int), a ≠ 603 → S a i = R a i) : RDA C S := ⟨((h.1).r (fun i => hf 599 i (by decide)) (hf 598 1 (by decide))), ((h.2.1).r (fun a i _ _ => hf a i (by omega))), ((h.2.2.1).r (fun i _ _ => (hf 598 i (by decide)))), ((h.2.2.2.1).r (fun i => hf 622 i (by decide)) (hf 598 34 (by decide))), ((h.2.2.2.2.1).r (fun a i _ _ => hf a i (by omega))), ((h.2.2.2.2.2.1).r (fun a i _ _ => hf a i (by omega))), ((h.2.2.2.2.2.2).r hG hI (fun a i _ _ => hf a i (by omega)))⟩
theorem oq_logged {C R S : jm} (h : RDA C R) (hG : RG1 R) (hI : RI R) (hf : ∀ (a : Nat) (i : Int), a ≠ 603 → S a i = R a i) : RDA C S := ⟨((h.1).r (fun i => hf 599 i (by decide)) (hf 598 1 (by decide))), ((h.2.1).r (fun a i _ _ => hf a i (by omega))), ((h.2.2.1).r (fun i _ _ => (hf 598 i (by decide)))), ((h.2.2.2.1).r (fun i => hf 622 i (by decide)) (hf 598 34 (by decide))), ((h.2.2.2.2.1).r (fun a i _ _ => hf a i (by omega))), ((h.2.2.2.2.2.1).r (fun a i _ _ => hf a i (by omega))), ((h.2.2.2.2.2.2).r hG hI (fun a i _ _ => hf a i (by omega)))⟩
theorem oq_learned {C R S : jm} (h : RDA C R) (hG : RG1 R) (hI : RI R) (hf : ∀ (a : Nat) (i : Int), a ≠ 603 → S a i = R a i) : RDA C S := ⟨((h.1).r (fun i => hf 599 i (by decide)) (hf 598 1 (by decide))), ((h.2.1).r (fun a i _ _ => hf a i (by omega))), ((h.2.2.1).r (fun i _ _ => (hf 598 i (by decide)))), ((h.2.2.2.1).r (fun i => hf 622 i (by decide)) (hf 598 34 (by decide))), ((h.2.2.2.2.1).r (fun a i _ _ => hf a i (by omega))), ((h.2.2.2.2.2.1).r (fun a i _ _ => hf a i (by omega))), ((h.2.2.2.2.2.2).r hG hI (fun a i _ _ => hf a i (by omega)))⟩
theorem oq_rowAt {C R S : jm} (h : RDA C R) (hG : RG1 R) (hI : RI R) (hf : ∀ (a : Nat) (i : Int), a ≠ 603 → S a i = R a i) : RDA C S := ⟨((h.1).r (fun i => hf 599 i (by decide)) (hf 598 1 (by decide))), ((h.2.1).r (fun a i _ _ => hf a i (by omega))), ((h.2.2.1).r (fun i _ _ => (hf 598 i (by decide)))), ((h.2.2.2.1).r (fun i => hf 622 i (by decide)) (hf 598 34 (by decide))), ((h.2.2.2.2.1).r (fun a i _ _ => hf a i (by omega))), ((h.2.2.2.2.2.1).r (fun a i _ _ => hf a i (by omega))), ((h.2.2.2.2.2.2).r hG hI (fun a i _ _ => hf a i (by omega)))⟩
theorem oq_has {C R S : jm} (h : RDA C R) (hG : RG1 R) (hI : RI R) (hf : ∀ (a : Nat) (i : Int), a ≠ 603 → S a i = R a i) : RDA C S := ⟨((h.1).r (fun i => hf 599 i (by decide)) (hf 598 1 (by decide))), ((h.2.1).r (fun a i _ _ => hf a i (by omega))), ((h.2.2.1).r (fun i _ _ => (hf 598 i (by decide)))), ((h.2.2.2.1).r (fun i => hf 622 i (by decide)) (hf 598 34 (by decide))), ((h.2.2.2.2.1).r (fun a i _ _ => hf a i (by omega))), ((h.2.2.2.2.2.1).r (fun a i _ _ => hf a i (by omega))), ((h.2.2.2.2.2.2).r hG hI (fun a i _ _ => hf a i (by omega)))⟩
theorem oq_mark {C R S : jm} (h : RDA C R) (hG : RG1 R) (hI : RI R) (hf : ∀ (a : Nat) (i : Int), a ≠ 603 → S a i = R a i) : RDA C S := ⟨((h.1).r (fun i => hf 599 i (by decide)) (hf 598 1 (by decide))), ((h.2.1).r (fun a i _ _ => hf a i (by omega))), ((h.2.2.1).r (fun i _ _ => (hf 598 i (by decide)))), ((h.2.2.2.1).r (fun i => hf 622 i (by decide)) (hf 598 34 (by decide))), ((h.2.2.2.2.1).r (fun a i _ _ => hf a i (by omega))), ((h.2.2.2.2.2.1).r (fun a i _ _ => hf a i (by omega))), ((h.2.2.2.2.2.2).r hG hI (fun a i _ _ => hf a i (by omega)))⟩
theorem oq_told {C R S : jm} (h : RDA C R) (hG : RG1 R) (hI : RI R) (hf : ∀ (a : Nat) (i : Int), a ≠ 603 → S a i = R a i) : RDA C S := ⟨((h.1).r (fun i => hf 599 i (by decide)) (hf 598 1 (by decide))), ((h.2.1).r (fun a i _ _ => hf a i (by omega))), ((h.2.2.1).r (fun i _ _ => (hf 598 i (by decide)))), ((h.2.2.2.1).r (fun i => hf 622 i (by decide)) (hf 598 34 (by decide))), ((h.2.2.2.2.1).r (fun a i _ _ => hf a i (by omega))), ((h.2.2.2.2.2.1).r (fun a i _ _ => hf a i (by omega))), ((h.2.2.2.2.2.2).r hG hI (fun a i _ _ => hf a i (by omega)))⟩
theorem oq_digest {C R S : jm} (h : RDA C R) (hG : RG1 R) (hI : RI R) (hf : ∀ (a : Nat) (i : Int), a ≠ 603 → S a i = R a i) : RDA C S := ⟨((h.1).r (fun i => hf 599 i (by decide)) (hf 598 1 (by decide))), ((h.2.1).r (fun a i _ _ => hf a i (by omega))), ((h.2.2.1).r (fun i _ _ => (hf 598 i (by decide)))), ((h.2.2.2.1).r (fun i => hf 622 i (by decide)) (hf 598 34 (by decide))), ((h.2.2.2.2.1).r (fun a i _ _ => hf a i (by omega))), ((h.2.2.2.2.2.1).r (fun a i _ _ => hf a i (by omega))), ((h.2.2.2.2.2.2).r hG hI (fun a i _ _ => hf a i (by omega)))⟩
theorem oq_bucket {C D R S : jm} (h : RDA C R) (hG : RG1 R) (hI : RI R) (f : FR W_c_PacketWall_bucket C D) (hf : ∀ (a : Nat) (i : Int), a ≠ 623 → a ≠ 624 → a ≠ 625 → a ≠ 626 → S a i = R a i) : RDA D S := ⟨((h.1.f f rfl).r (fun i => hf 599 i (by decide) (by decide) (by decide) (by decide)) (hf 598 1 (by decide) (by decide) (by decide) (by decide))), ((h.2.1.f f rfl).r (fun a i _ _ => hf a i (by omega) (by omega) (by omega) (by omega))), ((h.2.2.1.f f rfl).r (fun i _ _ => (hf 598 i (by decide) (by decide) (by decide) (by decide)))), ((h.2.2.2.1.f f rfl).r (fun i => hf 622 i (by decide) (by decide) (by decide) (by decide)) (hf 598 34 (by decide) (by decide) (by decide) (by decide))), ((h.2.2.2.2.1.f f rfl).r (fun a i _ _ => hf a i (by omega) (by omega) (by omega) (by omega))), ((h.2.2.2.2.2.1.f f rfl).r (fun a i _ _ => hf a i (by omega) (by omega) (by omega) (by omega))), ((h.2.2.2.2.2.2.f f rfl).r hG hI (fun a i _ _ => hf a i (by omega) (by omega) (by omega) (by omega)))⟩
theorem oq_rules {C D R S : jm} (h : RDA C R) (hG : RG1 R) (hI : RI R) (f : FR W_c_PacketWall_rules_z C D) (p : D 0 1 = 0) (q : S 598 1 = 0) (hf : ∀ (a : Nat) (i : Int), a ≠ 598 → a ≠ 651 → a ≠ 652 → a ≠ 653 → a ≠ 654 → a ≠ 655 → a ≠ 656 → a ≠ 657 → a ≠ 658 → a ≠ 659 → a ≠ 660 → a ≠ 661 → a ≠ 662 → a ≠ 663 → a ≠ 664 → a ≠ 665 → a ≠ 666 → a ≠ 667 → a ≠ 668 → a ≠ 669 → S a i = R a i) (hk : ∀ (i : Int), i ≠ 1 → i ≠ 72 → i ≠ 73 → i ≠ 74 → i ≠ 75 → i ≠ 76 → i ≠ 77 → i ≠ 78 → i ≠ 79 → i ≠ 80 → i ≠ 81 → i ≠ 82 → i ≠ 83 → i ≠ 88 → i ≠ 89 → i ≠ 90 → i ≠ 96 → i ≠ 100 → i ≠ 101 → i ≠ 102 → i ≠ 107 → S 598 i = R 598 i) : RDA D S := by
  have e1 : D 1 = C 1 := funext (fun i => f.g (show kd 1 = 43 from rfl) rfl)
  have e2 : S 599 = R 599 := funext (fun i => hf 599 i (by decide) (by decide) (by decide) (by decide) (by decide) (by decide) (by decide) (by decide) (by decide) (by decide) (by decide) (by decide) (by decide) (by decide) (by decide) (by decide) (by decide) (by decide) (by decide) (by decide))
  exact ⟨⟨by rw [e1, e2]; exact h.1.1, by rw [p, q]⟩, ((h.2.1.f f rfl).r (fun a i _ _ => hf a i (by omega) (by omega) (by omega) (by omega) (by omega) (by omega) (by omega) (by omega) (by omega) (by omega) (by omega) (by omega) (by omega) (by omega) (by omega) (by omega) (by omega) (by omega) (by omega) (by omega))), ((h.2.2.1.f f rfl).r (fun i _ _ => (hk i (by omega) (by omega) (by omega) (by omega) (by omega) (by omega) (by omega) (by omega) (by omega) (by omega) (by omega) (by omega) (by omega) (by omega) (by omega) (by omega) (by omega) (by omega) (by omega) (by omega) (by omega)))), ((h.2.2.2.1.f f rfl).r (fun i => hf 622 i (by decide) (by decide) (by decide) (by decide) (by decide) (by decide) (by decide) (by decide) (by decide) (by decide) (by decide) (by decide) (by decide) (by decide) (by decide) (by decide) (by decide) (by decide) (by decide) (by decide)) (hk 34 (by decide) (by decide) (by decide) (by decide) (by decide) (by decide) (by decide) (by decide) (by decide) (by decide) (by decide) (by decide) (by decide) (by decide) (by decide) (by decide) (by decide) (by decide) (by decide) (by decide) (by decide))), ((h.2.2.2.2.1.f f rfl).r (fun a i _ _ => hf a i (by omega) (by omega) (by omega) (by omega) (by omega) (by omega) (by omega) (by omega) (by omega) (by omega) (by omega) (by omega) (by omega) (by omega) (by omega) (by omega) (by omega) (by omega) (by omega) (by omega))), ((h.2.2.2.2.2.1.f f rfl).r (fun a i _ _ => hf a i (by omega) (by omega) (by omega) (by omega) (by omega) (by omega) (by omega) (by omega) (by omega) (by omega) (by omega) (by omega) (by omega) (by omega) (by omega) (by omega) (by omega) (by omega) (by omega) (by omega))), ((h.2.2.2.2.2.2.f f rfl).r hG hI (fun a i _ _ => hf a i (by omega) (by omega) (by omega) (by omega) (by omega) (by omega) (by omega) (by omega) (by omega) (by omega) (by omega) (by omega) (by omega) (by omega) (by omega) (by omega) (by omega) (by omega) (by omega) (by omega)))⟩
theorem oq_verdict {C D R S : jm} (h : RDA C R) (hG : RG1 R) (hI : RI R) (f : FR W_c_PacketWall_verdict_o C D) (p : OL C D) (hf : ∀ (a : Nat) (i : Int), a ≠ 598 → a ≠ 602 → a ≠ 603 → a ≠ 604 → a ≠ 605 → a ≠ 624 → a ≠ 670 → a ≠ 671 → a ≠ 672 → a ≠ 673 → a ≠ 674 → a ≠ 675 → a ≠ 676 → a ≠ 677 → a ≠ 678 → a ≠ 679 → a ≠ 680 → a ≠ 681 → a ≠ 682 → a ≠ 683 → a ≠ 684 → a ≠ 685 → a ≠ 686 → a ≠ 687 → S a i = R a i) (hk : ∀ (i : Int), i ≠ 6 → i ≠ 10 → i ≠ 11 → i ≠ 12 → i ≠ 59 → i ≠ 60 → i ≠ 61 → i ≠ 62 → i ≠ 63 → i ≠ 64 → i ≠ 65 → i ≠ 66 → i ≠ 110 → i ≠ 111 → i ≠ 112 → i ≠ 122 → i ≠ 131 → i ≠ 132 → i ≠ 133 → i ≠ 134 → i ≠ 135 → i ≠ 136 → i ≠ 137 → i ≠ 138 → i ≠ 139 → i ≠ 140 → i ≠ 141 → i ≠ 142 → i ≠ 143 → i ≠ 144 → i ≠ 145 → i ≠ 147 → S 598 i = R 598 i) : RDA D S := ⟨((h.1.f f rfl).r (fun i => hf 599 i (by decide) (by decide) (by decide) (by decide) (by decide) (by decide) (by decide) (by decide) (by decide) (by decide) (by decide) (by decide) (by decide) (by decide) (by decide) (by decide) (by decide) (by decide) (by decide) (by decide) (by decide) (by decide) (by decide) (by decide)) (hk 1 (by decide) (by decide) (by decide) (by decide) (by decide) (by decide) (by decide) (by decide) (by decide) (by decide) (by decide) (by decide) (by decide) (by decide) (by decide) (by decide) (by decide) (by decide) (by decide) (by decide) (by decide) (by decide) (by decide) (by decide) (by decide) (by decide) (by decide) (by decide) (by decide) (by decide) (by decide) (by decide))), ((h.2.1.f f rfl).r (fun a i _ _ => hf a i (by omega) (by omega) (by omega) (by omega) (by omega) (by omega) (by omega) (by omega) (by omega) (by omega) (by omega) (by omega) (by omega) (by omega) (by omega) (by omega) (by omega) (by omega) (by omega) (by omega) (by omega) (by omega) (by omega) (by omega))), ((h.2.2.1.f f rfl).r (fun i _ _ => (hk i (by omega) (by omega) (by omega) (by omega) (by omega) (by omega) (by omega) (by omega) (by omega) (by omega) (by omega) (by omega) (by omega) (by omega) (by omega) (by omega) (by omega) (by omega) (by omega) (by omega) (by omega) (by omega) (by omega) (by omega) (by omega) (by omega) (by omega) (by omega) (by omega) (by omega) (by omega) (by omega)))), ((h.2.2.2.1.f f rfl).r (fun i => hf 622 i (by decide) (by decide) (by decide) (by decide) (by decide) (by decide) (by decide) (by decide) (by decide) (by decide) (by decide) (by decide) (by decide) (by decide) (by decide) (by decide) (by decide) (by decide) (by decide) (by decide) (by decide) (by decide) (by decide) (by decide)) (hk 34 (by decide) (by decide) (by decide) (by decide) (by decide) (by decide) (by decide) (by decide) (by decide) (by decide) (by decide) (by decide) (by decide) (by decide) (by decide) (by decide) (by decide) (by decide) (by decide) (by decide) (by decide) (by decide) (by decide) (by decide) (by decide) (by decide) (by decide) (by decide) (by decide) (by decide) (by decide) (by decide))), ((h.2.2.2.2.1.f f rfl).r (fun a i _ _ => hf a i (by omega) (by omega) (by omega) (by omega) (by omega) (by omega) (by omega) (by omega) (by omega) (by omega) (by omega) (by omega) (by omega) (by omega) (by omega) (by omega) (by omega) (by omega) (by omega) (by omega) (by omega) (by omega) (by omega) (by omega))), ((h.2.2.2.2.2.1.e p (f.g (show kd 15 = 9 from rfl) rfl) (f.g (show kd 15 = 9 from rfl) rfl)).r (fun a i _ _ => hf a i (by omega) (by omega) (by omega) (by omega) (by omega) (by omega) (by omega) (by omega) (by omega) (by omega) (by omega) (by omega) (by omega) (by omega) (by omega) (by omega) (by omega) (by omega) (by omega) (by omega) (by omega) (by omega) (by omega) (by omega))), ((h.2.2.2.2.2.2.f f rfl).r hG hI (fun a i _ _ => hf a i (by omega) (by omega) (by omega) (by omega) (by omega) (by omega) (by omega) (by omega) (by omega) (by omega) (by omega) (by omega) (by omega) (by omega) (by omega) (by omega) (by omega) (by omega) (by omega) (by omega) (by omega) (by omega) (by omega) (by omega)))⟩
end
