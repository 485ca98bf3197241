/-! ===== the class's invariants hold behind the constructors ===== -/
def okp (q : Option (Int × Int)) : Prop := (q.getD (-9223372036854775808, 9223372036854775807)).1 ≤ (q.getD (-9223372036854775808, 9223372036854775807)).2
theorem okp_n : okp none := by unfold okp; decide
theorem okp_s {a b : Int} (h : a ≤ b) : okp (some (a, b)) := h
theorem okp_c {c : Bool} {a b : Option (Int × Int)} (h1 : okp a) (h2 : okp b) : okp (bif c then a else b) := by
  cases c
  · exact h2
  · exact h1
theorem ok_cio_1 (j : Nat) : okp (cio_1 j) := by
  unfold cio_1
  repeat' (first | exact okp_n | exact okp_s (by decide) | refine okp_c ?_ ?_)
theorem ok_cio_9 (j : Nat) : okp (cio_9 j) := by
  unfold cio_9
  repeat' (first | exact okp_n | exact okp_s (by decide) | refine okp_c ?_ ?_)
theorem ok_cio_14 (j : Nat) : okp (cio_14 j) := by
  unfold cio_14
  repeat' (first | exact okp_n | exact okp_s (by decide) | refine okp_c ?_ ?_)
theorem ok_cio_15_0 (j : Nat) : okp (cio_15_0 j) := by
  unfold cio_15_0
  repeat' (first | exact okp_n | exact okp_s (by decide) | refine okp_c ?_ ?_)
theorem ok_cio_15_1 (j : Nat) : okp (cio_15_1 j) := by
  unfold cio_15_1
  repeat' (first | exact okp_n | exact okp_s (by decide) | refine okp_c ?_ ?_)
theorem ok_cio_15 (j : Nat) : okp (cio_15 j) := by
  unfold cio_15
  repeat' (first | exact okp_n | exact okp_s (by decide) | exact ok_cio_15_0 j | exact ok_cio_15_1 j | refine okp_c ?_ ?_)
theorem ok_cio_18 (j : Nat) : okp (cio_18 j) := by
  unfold cio_18
  repeat' (first | exact okp_n | exact okp_s (by decide) | refine okp_c ?_ ?_)
theorem ok_cio_22_0 (j : Nat) : okp (cio_22_0 j) := by
  unfold cio_22_0
  repeat' (first | exact okp_n | exact okp_s (by decide) | refine okp_c ?_ ?_)
theorem ok_cio_22_1 (j : Nat) : okp (cio_22_1 j) := by
  unfold cio_22_1
  repeat' (first | exact okp_n | exact okp_s (by decide) | refine okp_c ?_ ?_)
theorem ok_cio_22 (j : Nat) : okp (cio_22 j) := by
  unfold cio_22
  repeat' (first | exact okp_n | exact okp_s (by decide) | exact ok_cio_22_0 j | exact ok_cio_22_1 j | refine okp_c ?_ ?_)
theorem ok_cio_27 (j : Nat) : okp (cio_27 j) := by
  unfold cio_27
  repeat' (first | exact okp_n | exact okp_s (by decide) | refine okp_c ?_ ?_)
theorem ok_cio_33 (j : Nat) : okp (cio_33 j) := by
  unfold cio_33
  repeat' (first | exact okp_n | exact okp_s (by decide) | refine okp_c ?_ ?_)
theorem ok_cio_35 (j : Nat) : okp (cio_35 j) := by
  unfold cio_35
  repeat' (first | exact okp_n | exact okp_s (by decide) | refine okp_c ?_ ?_)
theorem ok_cio_44_0 (j : Nat) : okp (cio_44_0 j) := by
  unfold cio_44_0
  repeat' (first | exact okp_n | exact okp_s (by decide) | refine okp_c ?_ ?_)
theorem ok_cio_44_1 (j : Nat) : okp (cio_44_1 j) := by
  unfold cio_44_1
  repeat' (first | exact okp_n | exact okp_s (by decide) | refine okp_c ?_ ?_)
theorem ok_cio_44 (j : Nat) : okp (cio_44 j) := by
  unfold cio_44
  repeat' (first | exact okp_n | exact okp_s (by decide) | exact ok_cio_44_0 j | exact ok_cio_44_1 j | refine okp_c ?_ ?_)
theorem ok_cio_47 (j : Nat) : okp (cio_47 j) := by
  unfold cio_47
  repeat' (first | exact okp_n | exact okp_s (by decide) | refine okp_c ?_ ?_)
theorem ok_cio_52 (j : Nat) : okp (cio_52 j) := by
  unfold cio_52
  repeat' (first | exact okp_n | exact okp_s (by decide) | refine okp_c ?_ ?_)
theorem ok_cir_0 (j : Nat) : okp (cir_0 j) := by
  unfold cir_0
  repeat' (first | exact okp_n | exact okp_s (by decide) | refine okp_c ?_ ?_)
theorem ok_cir_1 (j : Nat) : okp (cir_1 j) := by
  unfold cir_1
  repeat' (first | exact okp_n | exact okp_s (by decide) | refine okp_c ?_ ?_)
theorem ok_cir_2 (j : Nat) : okp (cir_2 j) := by
  unfold cir_2
  repeat' (first | exact okp_n | exact okp_s (by decide) | refine okp_c ?_ ?_)
theorem ok_cir_3 (j : Nat) : okp (cir_3 j) := by
  unfold cir_3
  repeat' (first | exact okp_n | exact okp_s (by decide) | refine okp_c ?_ ?_)
theorem ok_cir (j : Nat) : okp (cir j) := by
  unfold cir
  repeat' (first | exact okp_n | exact okp_s (by decide) | exact ok_cir_0 j | exact ok_cir_1 j | exact ok_cir_2 j | exact ok_cir_3 j | refine okp_c ?_ ?_)
theorem ok_cio (K j : Nat) : okp (cio K j) := by
  unfold cio
  repeat' (first | exact okp_n | exact ok_cio_1 j | exact ok_cio_9 j | exact ok_cio_14 j | exact ok_cio_15 j | exact ok_cio_18 j | exact ok_cio_22 j | exact ok_cio_27 j | exact ok_cio_33 j | exact ok_cio_35 j | exact ok_cio_44 j | exact ok_cio_47 j | exact ok_cio_52 j | refine okp_c ?_ ?_)
theorem ci_ok (K : Nat) (i : Int) : (ci K i).1 ≤ (ci K i).2 := by
  unfold ci
  cases Nat.beq K 24
  · show (bif cob K then (cio K i.toNat).getD (-9223372036854775808, 9223372036854775807) else (cir K).getD (-9223372036854775808, 9223372036854775807)).1 ≤ (bif cob K then (cio K i.toNat).getD (-9223372036854775808, 9223372036854775807) else (cir K).getD (-9223372036854775808, 9223372036854775807)).2
    cases cob K
    · exact ok_cir K
    · exact ok_cio K i.toNat
  · show (bif Nat.beq i.toNat 4 then ((0 : Int), (40 : Int)) else (-2147483648, 2147483647)).1 ≤ (bif Nat.beq i.toNat 4 then ((0 : Int), (40 : Int)) else (-2147483648, 2147483647)).2
    cases Nat.beq i.toNat 4 <;> decide
theorem ci_row {K : Nat} (h : cob K = false) (h2 : ((cir K).getD (-9223372036854775808, 9223372036854775807)).1 ≤ 0 ∧ 0 ≤ ((cir K).getD (-9223372036854775808, 9223372036854775807)).2) (i : Int) : (ci K i).1 ≤ 0 ∧ 0 ≤ (ci K i).2 := by
  unfold ci
  cases Nat.beq K 24
  · show (bif cob K then (cio K i.toNat).getD (-9223372036854775808, 9223372036854775807) else (cir K).getD (-9223372036854775808, 9223372036854775807)).1 ≤ 0 ∧ 0 ≤ (bif cob K then (cio K i.toNat).getD (-9223372036854775808, 9223372036854775807) else (cir K).getD (-9223372036854775808, 9223372036854775807)).2
    rw [h]
    exact h2
  · show (bif Nat.beq i.toNat 4 then ((0 : Int), (40 : Int)) else (-2147483648, 2147483647)).1 ≤ 0 ∧ 0 ≤ (bif Nat.beq i.toNat 4 then ((0 : Int), (40 : Int)) else (-2147483648, 2147483647)).2
    cases Nat.beq i.toNat 4 <;> decide
theorem ci_nat (K : Nat) (i : Int) : ci K i = ci K (Int.ofNat i.toNat) := rfl
theorem cxk_nat (K : Nat) (i : Int) : cxk K i = cxk K (Int.ofNat i.toNat) := rfl
theorem cxk_lt {K : Nat} {i : Int} (h : cxk K i ≠ 0) : i.toNat < 13 := by
  rcases Nat.lt_or_ge i.toNat 13 with q | q
  · exact q
  · exfalso
    apply h
    unfold cxk
    rw [jne0 (show 7 < i.toNat by omega), jne0 (show 2 < i.toNat by omega), jne0 (show 12 < i.toNat by omega)]
    cases Nat.beq K 18 <;> cases Nat.beq K 22 <;> cases Nat.beq K 44 <;> rfl
def m0o (c : ix_C) : Bool := match c with
  | .inr _ => true
  | .inl _ => false
def M1 : jm := fun a i => bif Nat.blt a 598 then (bif m0o (xh0 a) && Nat.ble (m0n (xh0 a)) i.toNat then (ci (kd a) i).1 else jp0 (xh0 a) i.toNat) else M0 a i
theorem M1_hi {a : Nat} (h : 598 ≤ a) (i : Int) : M1 a i = M0 a i := by
  unfold M1
  rw [jnb h]
  rfl
theorem M1_lo {a : Nat} (h : a < 598) (i : Int) : M1 a i = (bif m0o (xh0 a) && Nat.ble (m0n (xh0 a)) i.toNat then (ci (kd a) i).1 else jp0 (xh0 a) i.toNat) := by
  unfold M1
  rw [Nat.blt_eq.mpr h]
  rfl
theorem M1_n {a : Nat} (j : Nat) (h : a < 598 → m0o (xh0 a) = true → j < m0n (xh0 a)) : M1 a (j : Int) = M0 a (j : Int) := by
  rcases Nat.lt_or_ge a 598 with ha | ha
  · rw [M1_lo ha, show ((j : Int)).toNat = j from rfl]
    rw [show (m0o (xh0 a) && Nat.ble (m0n (xh0 a)) j) = false from by
      cases e : m0o (xh0 a) with
      | false => rfl
      | true =>
        cases hb : Nat.ble (m0n (xh0 a)) j with
        | false => rfl
        | true =>
          have h1 := Nat.ble_eq.mp hb
          have h2 := h ha e
          omega]
    exact (M0_in (by omega) j).symm
  · exact M1_hi ha _
theorem sh0 : ∀ a, a < 598 → m0o (xh0 a) = true → 100 ≤ (xsh a).1 ∧ (xsh a).2 ≤ m0n (xh0 a) := by decide +kernel
theorem jcell_ext {a : Nat} {s : Nat × Nat} {f g : Int → Int} (h : ∀ j : Nat, (100 ≤ s.1 → j < s.2) → f (j : Int) = g (j : Int)) : jcell a s f = jcell a s g := by
  rcases Nat.lt_or_ge s.1 100 with hs | hs
  · have e : ∀ j : Nat, f (j : Int) = g (j : Int) := fun j => h j (fun q => absurd hs (Nat.not_lt.mpr q))
    unfold jcell
    simp only [e]
  · obtain ⟨s1, n⟩ := s
    obtain ⟨c, rfl⟩ : ∃ c, s1 = 100 + c := ⟨s1 - 100, by have hq : 100 ≤ s1 := hs; omega⟩
    rw [jcell_obj, jcell_obj]
    have e : (List.range n).map (fun j => jval a j ((xT_D c).2 j).1 (f (j : Nat))) = (List.range n).map (fun j => jval a j ((xT_D c).2 j).1 (g (j : Nat))) := List.map_congr_left (fun j hj => by rw [h j (fun _ => List.mem_range.mp hj)])
    rw [e]
theorem jH_M1 : jH M1 = jH M0 := by
  have e : jh M1 = jh M0 := by
    funext a
    unfold jh
    refine jcell_ext (fun j hj => M1_n j (fun ha ho => ?_))
    have q := sh0 a ha ho
    have q2 := hj q.1
    omega
  show (xNc, xNs_, jh M1) = (xNc, xNs_, jh M0)
  rw [e]
theorem ci_z : (List.range 598).all (fun a => (m0o (xh0 a) || (!(cob (kd a)) && decide (((cir (kd a)).getD (-9223372036854775808, 9223372036854775807)).1 ≤ 0 ∧ (0 : Int) ≤ ((cir (kd a)).getD (-9223372036854775808, 9223372036854775807)).2))) && (List.range (m0n (xh0 a))).all (fun j => decide ((ci (kd a) (Int.ofNat j)).1 ≤ jp0 (xh0 a) j ∧ jp0 (xh0 a) j ≤ (ci (kd a) (Int.ofNat j)).2))) = true := by decide +kernel
theorem cx_z : (List.range 598).all (fun a => (List.range 13).all (fun j => Nat.beq (cxk (kd a) (Int.ofNat j)) 0 || (Nat.blt j (m0n (xh0 a)) && Nat.beq (kd (jp0 (xh0 a) j).toNat) (cxk (kd a) (Int.ofNat j))))) = true := by decide +kernel
theorem M1_CI : CI M1 := by
  refine ⟨fun a i hk => ?_, fun a i hk => ?_⟩
  · have ha := kd_lt hk
    rw [M1_lo ha]
    cases hb : (m0o (xh0 a) && Nat.ble (m0n (xh0 a)) i.toNat) with
    | true => exact ⟨Int.le_refl _, ci_ok _ _⟩
    | false =>
      show (ci (kd a) i).1 ≤ jp0 (xh0 a) i.toNat ∧ jp0 (xh0 a) i.toNat ≤ (ci (kd a) i).2
      have q := List.all_eq_true.mp ci_z a (List.mem_range.mpr ha)
      rw [Bool.and_eq_true] at q
      rcases Nat.lt_or_ge i.toNat (m0n (xh0 a)) with hj | hj
      · rw [ci_nat (kd a) i]
        exact of_decide_eq_true (List.all_eq_true.mp q.2 i.toNat (List.mem_range.mpr hj))
      · rw [jp0_out hj]
        have ho : m0o (xh0 a) = false := by
          cases e : m0o (xh0 a) with
          | false => rfl
          | true => rw [e, Nat.ble_eq.mpr hj] at hb; exact absurd hb (by decide)
        rw [ho, Bool.false_or, Bool.and_eq_true] at q
        have q1 : cob (kd a) = false := by
          cases e : cob (kd a) with
          | false => rfl
          | true => rw [e] at q; exact absurd q.1.1 (by decide)
        exact ci_row q1 (of_decide_eq_true q.1.2) i
  · have hj := cxk_lt hk
    have ha : a < 598 := kd_lt (fun e => hk (by rw [e]; rfl))
    have q := List.all_eq_true.mp (List.all_eq_true.mp cx_z a (List.mem_range.mpr ha)) i.toNat (List.mem_range.mpr hj)
    rw [Bool.or_eq_true] at q
    rcases q with q | q
    · exact absurd (Nat.eq_of_beq_eq_true q) (by rw [← cxk_nat]; exact hk)
    · rw [Bool.and_eq_true] at q
      have h1 := Nat.blt_eq.mp q.1
      rw [M1_lo ha, show (m0o (xh0 a) && Nat.ble (m0n (xh0 a)) i.toNat) = false from by
        cases m0o (xh0 a) with
        | false => rfl
        | true =>
          cases hb : Nat.ble (m0n (xh0 a)) i.toNat with
          | false => rfl
          | true =>
            have h2 := Nat.ble_eq.mp hb
            omega]
      exact Nat.eq_of_beq_eq_true q.2
theorem lc_z : (List.range 598).all (fun a => !(Nat.beq (kd a) 27) || decide (M1 a 5 ≤ 0)) = true := by decide +kernel
theorem M1_LC : LC M1 0 := fun a ha => by
  have q := List.all_eq_true.mp lc_z a (List.mem_range.mpr (kd_lt (by rw [ha]; decide)))
  rw [ha] at q
  exact of_decide_eq_true q
theorem M1_PC : PC M1 := fun i h0 h1 => by
  have e : M1 (M1 421 2).toNat 2 = 0 := by decide +kernel
  rw [e] at h1
  omega
theorem M1_CV : CV M1 0 0 := ⟨M1_CI, M1_LC, M1_PC, by decide +kernel, by decide +kernel, by decide +kernel⟩
theorem x7_z : ∀ n : Nat, n < 100 → M0 647 (n : Int) = xcv_5 (n : Int) := by decide +kernel
theorem M0_X7 : X7 M0 := fun i i0 i1 => by
  obtain ⟨n, rfl⟩ := Int.eq_ofNat_of_zero_le i0
  exact x7_z n (by omega)
theorem M0_RV : RV M0 0 0 := ⟨M0_RI, M0_RH, M0_RF, M0_RG1, M0_FW, M0_MC, M0_AS, M0_t, M0_X7⟩
theorem jz {c : ix_C} {N : Nat} (h : (List.range N).all (fun n => decide (jp0 c n = 0)) = true) (hN : m0n c ≤ N) (n : Nat) : jp0 c n = 0 := by
  rcases Nat.lt_or_ge n N with q | q
  · exact of_decide_eq_true (List.all_eq_true.mp h n (List.mem_range.mpr q))
  · exact jp0_out (by omega)
theorem M1z {a N : Nat} (ha : a < 598) (ho : m0o (xh0 a) = false) (h : (List.range N).all (fun n => decide (jp0 (xh0 a) n = 0)) = true) (hN : m0n (xh0 a) ≤ N) (i : Int) : M1 a i = 0 := by
  rw [M1_lo ha, ho]
  exact jz h hN i.toNat
theorem M0z {a N : Nat} (ha : a < 688) (h : (List.range N).all (fun n => decide (jp0 (xh0 a) n = 0)) = true) (hN : m0n (xh0 a) ≤ N) (i : Int) : M0 a i = 0 := by
  cases i with
  | ofNat j =>
    show (bif Nat.blt a 688 then jp0 (xh0 a) j else 0) = 0
    rw [Nat.blt_eq.mpr ha]
    exact jz h hN j
  | negSucc j => rfl
theorem rd_1 (i : Int) : M1 1 i = 0 := M1z (N := 1600) (by decide) (by decide +kernel) (by decide +kernel) (by decide +kernel) i
theorem rd_599 (i : Int) : M1 599 i = 0 := (M1_hi (by decide) i).trans (M0z (N := 1600) (by decide) (by decide +kernel) (by decide +kernel) i)
theorem rd_27 (i : Int) : M1 27 i = 0 := M1z (N := 4) (by decide) (by decide +kernel) (by decide +kernel) (by decide +kernel) i
theorem rd_601 (i : Int) : M1 601 i = 0 := (M1_hi (by decide) i).trans (M0z (N := 9600) (by decide) (by decide +kernel) (by decide +kernel) i)
theorem rd_pk : ∀ n : Nat, n < 24 → M1 (xe 2 (n : Int)) 1 = M1 600 (n : Int) := by decide +kernel
theorem rd_pb : ∀ n : Nat, n < 24 → ((xe 2 (n : Int) + 1 < 598 ∧ m0o (xh0 (xe 2 (n : Int) + 1)) = false) ∧ m0n (xh0 (xe 2 (n : Int) + 1)) ≤ 400) ∧ (List.range 400).all (fun j => decide (jp0 (xh0 (xe 2 (n : Int) + 1)) j = 0)) = true := by decide +kernel
theorem rd_o : ∀ n : Nat, n < 4 → M1 643 (n : Int) = 0 ∧ M1 28 (n : Int) = 0 := by decide +kernel
theorem rd_w : ∀ n : Nat, n < 24 → M1 (xe 16 (n : Int)) 0 = 0 ∧ M1 627 (n : Int) = 0 := by decide +kernel
theorem rd_g : ∀ n : Nat, n < 8 → M1 (xe 10 (n : Int)) 0 = 0 ∧ M1 606 (n : Int) = 0 := by decide +kernel
theorem rd_l : ∀ n : Nat, n < 5 → M1 14 (n : Int) = -1 := by decide +kernel
theorem M1_RD : RDA M1 M1 := by
  refine ⟨⟨funext (fun i => (rd_1 i).trans (rd_599 i).symm), by decide +kernel⟩, fun p p0 p1 => ?_, ⟨by decide +kernel, by decide +kernel, by decide +kernel, by decide +kernel⟩, fun i i0 i1 => ?_, ⟨fun y => by rw [rd_27]; decide, fun k k0 k1 => ?_⟩, ⟨by decide +kernel, fun f f0 f1 => ?_⟩, fun g h g0 g1 h0 h1 u => ?_, fun g g0 g1 => ?_⟩
  · obtain ⟨n, rfl⟩ := Int.eq_ofNat_of_zero_le p0
    refine ⟨rd_pk n (by omega), fun i _ _ => ?_⟩
    have q := rd_pb n (by omega)
    rw [rd_601]
    exact M1z q.1.1.1 q.1.1.2 q.2 q.1.2 i
  · obtain ⟨n, rfl⟩ := Int.eq_ofNat_of_zero_le i0
    rw [rd_l n (by omega), if_pos (by decide +kernel)]
  · obtain ⟨n, rfl⟩ := Int.eq_ofNat_of_zero_le k0
    have q := rd_o n (by omega)
    exact ⟨fun _ => q.2, fun u => absurd q.1 u⟩
  · obtain ⟨n, rfl⟩ := Int.eq_ofNat_of_zero_le f0
    rw [show (M1 15 0).toNat = 16 by decide +kernel]
    have q := rd_w n (by omega)
    exact ⟨q.1.trans q.2.symm, fun u => absurd q.2 u⟩
  · obtain ⟨n, rfl⟩ := Int.eq_ofNat_of_zero_le g0
    exact absurd (rd_g n (by omega)).2 u
  · obtain ⟨n, rfl⟩ := Int.eq_ofNat_of_zero_le g0
    have q := rd_g n (by omega)
    exact ⟨q.1.trans q.2.symm, fun u => absurd q.2 u⟩
theorem M1_RV : RV M1 0 0 := M0_RV.tr (fun a i ha => M1_hi ha i)
