section
theorem jcell_ext {a : Nat} {s : Nat × Nat} {f g : Int → Int} (h : ∀ j : Nat, (100 ≤ s.1 → j < s.2) → f (j : Int) = g (j : Int)) : jcell a s f = jcell a s g := by
  rcases Nat.lt_or_ge s.1 100 with hs | hs
  · have e : ∀ j : Nat, f (j : Int) = g (j : Int) := fun j => h j (fun q => absurd hs (Nat.not_lt.mpr q))
    unfold jcell
    simp only [e]
  · obtain ⟨s1, n⟩ := s
    obtain ⟨c, rfl⟩ : ∃ c, s1 = 100 + c := ⟨s1 - 100, by have hq : 100 ≤ s1 := hs; omega⟩
    rw [jcell_obj, jcell_obj]
    have e : (List.range n).map (fun j => jval a j ((xT_D c).2 j).1 (f (j : Nat))) = (List.range n).map (fun j => jval a j ((xT_D c).2 j).1 (g (j : Nat))) := List.map_congr_left (fun j hj => by rw [h j (fun _ => List.mem_range.mp hj)])
    rw [e]
theorem jH_M1 : jH M1 = jH M0 := by
  have e : jh M1 = jh M0 := by
    funext a
    unfold jh
    refine jcell_ext (fun j hj => M1_n j (fun ha ho => ?_))
    have q := sh0 a ha ho
    have q2 := hj q.1
    omega
  show (xNc, xNs_, jh M1) = (xNc, xNs_, jh M0)
  rw [e]
theorem ci_z : (List.range 598).all (fun a => (m0o (xh0 a) || (!(cob (kd a)) && decide (((cir (kd a)).getD (-9223372036854775808, 9223372036854775807)).1 ≤ 0 ∧ (0 : Int) ≤ ((cir (kd a)).getD (-9223372036854775808, 9223372036854775807)).2))) && (List.range (m0n (xh0 a))).all (fun j => decide ((ci (kd a) (Int.ofNat j)).1 ≤ jp0 (xh0 a) j ∧ jp0 (xh0 a) j ≤ (ci (kd a) (Int.ofNat j)).2))) = true := by decide +kernel
theorem cx_z : (List.range 598).all (fun a => (List.range 13).all (fun j => Nat.beq (cxk (kd a) (Int.ofNat j)) 0 || (Nat.blt j (m0n (xh0 a)) && Nat.beq (kd (jp0 (xh0 a) j).toNat) (cxk (kd a) (Int.ofNat j))))) = true := by decide +kernel
theorem M1_CI : CI M1 := by
  refine ⟨fun a i hk => ?_, fun a i hk => ?_⟩
  · have ha := kd_lt hk
    rw [M1_lo ha]
    cases hb : (m0o (xh0 a) && Nat.ble (m0n (xh0 a)) i.toNat) with
    | true => exact ⟨Int.le_refl _, ci_ok _ _⟩
    | false =>
      show (ci (kd a) i).1 ≤ jp0 (xh0 a) i.toNat ∧ jp0 (xh0 a) i.toNat ≤ (ci (kd a) i).2
      have q := List.all_eq_true.mp ci_z a (List.mem_range.mpr ha)
      rw [Bool.and_eq_true] at q
      rcases Nat.lt_or_ge i.toNat (m0n (xh0 a)) with hj | hj
      · rw [ci_nat (kd a) i]
        exact of_decide_eq_true (List.all_eq_true.mp q.2 i.toNat (List.mem_range.mpr hj))
      · rw [jp0_out hj]
        have ho : m0o (xh0 a) = false := by
          cases e : m0o (xh0 a) with
          | false => rfl
          | true => rw [e, Nat.ble_eq.mpr hj] at hb; exact absurd hb (by decide)
        rw [ho, Bool.false_or, Bool.and_eq_true] at q
        have q1 : cob (kd a) = false := by
          cases e : cob (kd a) with
          | false => rfl
          | true => rw [e] at q; exact absurd q.1.1 (by decide)
        exact ci_row q1 (of_decide_eq_true q.1.2) i
  · have hj := cxk_lt hk
    have ha : a < 598 := kd_lt (fun e => hk (by rw [e]; rfl))
    have q := List.all_eq_true.mp (List.all_eq_true.mp cx_z a (List.mem_range.mpr ha)) i.toNat (List.mem_range.mpr hj)
    rw [Bool.or_eq_true] at q
    rcases q with q | q
    · exact absurd (Nat.eq_of_beq_eq_true q) (by rw [← cxk_nat]; exact hk)
    · rw [Bool.and_eq_true] at q
      have h1 := Nat.blt_eq.mp q.1
      rw [M1_lo ha, show (m0o (xh0 a) && Nat.ble (m0n (xh0 a)) i.toNat) = false from by
        cases m0o (xh0 a) with
        | false => rfl
        | true =>
          cases hb : Nat.ble (m0n (xh0 a)) i.toNat with
          | false => rfl
          | true =>
            have h2 := Nat.ble_eq.mp hb
            omega]
      exact Nat.eq_of_beq_eq_true q.2
theorem lc_z : (List.range 598).all (fun a => !(Nat.beq (kd a) 27) || decide (M1 a 5 ≤ 0)) = true := by decide +kernel
theorem M1_LC : LC M1 0 := fun a ha => by
  have q := List.all_eq_true.mp lc_z a (List.mem_range.mpr (kd_lt (by rw [ha]; decide)))
  rw [ha] at q
  exact of_decide_eq_true q
theorem M1_PC : PC M1 := fun i h0 h1 => by
  have e : M1 (M1 421 2).toNat 2 = 0 := by decide +kernel
  rw [e] at h1
  omega
end
