section
theorem M1_CV : CV M1 0 0 := ⟨M1_CI, M1_LC, M1_PC, by decide +kernel, by decide +kernel, by decide +kernel⟩
theorem x7_z : ∀ n : Nat, n < 100 → M0 647 (n : Int) = xcv_5 (n : Int) := by decide +kernel
theorem M0_X7 : X7 M0 := fun i i0 i1 => by
  obtain ⟨n, rfl⟩ := Int.eq_ofNat_of_zero_le i0
  exact x7_z n (by omega)
theorem M0_RV : RV M0 0 0 := ⟨M0_RI, M0_RH, M0_RF, M0_RG1, M0_FW, M0_MC, M0_AS, M0_t, M0_X7⟩
theorem jz {c : ix_C} {N : Nat} (h : (List.range N).all (fun n => decide (jp0 c n = 0)) = true) (hN : m0n c ≤ N) (n : Nat) : jp0 c n = 0 := by
  rcases Nat.lt_or_ge n N with q | q
  · exact of_decide_eq_true (List.all_eq_true.mp h n (List.mem_range.mpr q))
  · exact jp0_out (by omega)
theorem M1z {a N : Nat} (ha : a < 598) (ho : m0o (xh0 a) = false) (h : (List.range N).all (fun n => decide (jp0 (xh0 a) n = 0)) = true) (hN : m0n (xh0 a) ≤ N) (i : Int) : M1 a i = 0 := by
  rw [M1_lo ha, ho]
  exact jz h hN i.toNat
theorem M0z {a N : Nat} (ha : a < 688) (h : (List.range N).all (fun n => decide (jp0 (xh0 a) n = 0)) = true) (hN : m0n (xh0 a) ≤ N) (i : Int) : M0 a i = 0 := by
  cases i with
  | ofNat j =>
    show (bif Nat.blt a 688 then jp0 (xh0 a) j else 0) = 0
    rw [Nat.blt_eq.mpr ha]
    exact jz h hN j
  | negSucc j => rfl
theorem rd_1 (i : Int) : M1 1 i = 0 := M1z (N := 1600) (by decide) (by decide +kernel) (by decide +kernel) (by decide +kernel) i
theorem rd_599 (i : Int) : M1 599 i = 0 := (M1_hi (by decide) i).trans (M0z (N := 1600) (by decide) (by decide +kernel) (by decide +kernel) i)
theorem rd_27 (i : Int) : M1 27 i = 0 := M1z (N := 4) (by decide) (by decide +kernel) (by decide +kernel) (by decide +kernel) i
theorem rd_601 (i : Int) : M1 601 i = 0 := (M1_hi (by decide) i).trans (M0z (N := 9600) (by decide) (by decide +kernel) (by decide +kernel) i)
theorem rd_pk : ∀ n : Nat, n < 24 → M1 (xe 2 (n : Int)) 1 = M1 600 (n : Int) := by decide +kernel
theorem rd_pb : ∀ n : Nat, n < 24 → ((xe 2 (n : Int) + 1 < 598 ∧ m0o (xh0 (xe 2 (n : Int) + 1)) = false) ∧ m0n (xh0 (xe 2 (n : Int) + 1)) ≤ 400) ∧ (List.range 400).all (fun j => decide (jp0 (xh0 (xe 2 (n : Int) + 1)) j = 0)) = true := by decide +kernel
theorem rd_o : ∀ n : Nat, n < 4 → M1 643 (n : Int) = 0 ∧ M1 28 (n : Int) = 0 := by decide +kernel
theorem rd_w : ∀ n : Nat, n < 24 → M1 (xe 16 (n : Int)) 0 = 0 ∧ M1 627 (n : Int) = 0 := by decide +kernel
theorem rd_g : ∀ n : Nat, n < 8 → M1 (xe 10 (n : Int)) 0 = 0 ∧ M1 606 (n : Int) = 0 := by decide +kernel
theorem rd_l : ∀ n : Nat, n < 5 → M1 14 (n : Int) = -1 := by decide +kernel
theorem M1_RD : RDA M1 M1 := by
  refine ⟨⟨funext (fun i => (rd_1 i).trans (rd_599 i).symm), by decide +kernel⟩, fun p p0 p1 => ?_, ⟨by decide +kernel, by decide +kernel, by decide +kernel, by decide +kernel⟩, fun i i0 i1 => ?_, ⟨fun y => by rw [rd_27]; decide, fun k k0 k1 => ?_⟩, ⟨by decide +kernel, fun f f0 f1 => ?_⟩, fun g h g0 g1 h0 h1 u => ?_, fun g g0 g1 => ?_⟩
  · obtain ⟨n, rfl⟩ := Int.eq_ofNat_of_zero_le p0
    refine ⟨rd_pk n (by omega), fun i _ _ => ?_⟩
    have q := rd_pb n (by omega)
    rw [rd_601]
    exact M1z q.1.1.1 q.1.1.2 q.2 q.1.2 i
  · obtain ⟨n, rfl⟩ := Int.eq_ofNat_of_zero_le i0
    rw [rd_l n (by omega), if_pos (by decide +kernel)]
  · obtain ⟨n, rfl⟩ := Int.eq_ofNat_of_zero_le k0
    have q := rd_o n (by omega)
    exact ⟨fun _ => q.2, fun u => absurd q.1 u⟩
  · obtain ⟨n, rfl⟩ := Int.eq_ofNat_of_zero_le f0
    rw [show (M1 15 0).toNat = 16 by decide +kernel]
    have q := rd_w n (by omega)
    exact ⟨q.1.trans q.2.symm, fun u => absurd q.2 u⟩
  · obtain ⟨n, rfl⟩ := Int.eq_ofNat_of_zero_le g0
    exact absurd (rd_g n (by omega)).2 u
  · obtain ⟨n, rfl⟩ := Int.eq_ofNat_of_zero_le g0
    have q := rd_g n (by omega)
    exact ⟨q.1.trans q.2.symm, fun u => absurd q.2 u⟩
theorem M1_RV : RV M1 0 0 := M0_RV.tr (fun a i ha => M1_hi ha i)
end
section
end
