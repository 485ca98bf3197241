section
theorem xcq_1 : ∀ j : Nat, j < 12 → (1 : Int) ≤ (xv_1.getD j 0).toInt ∧ (xv_1.getD j 0).toInt ≤ (24 : Int) := by decide +kernel
theorem xcr_1 {i : Int} (h0 : 0 ≤ i) (h1 : i < 12) : (1 : Int) ≤ xcv_1 i ∧ xcv_1 i ≤ (24 : Int) := xcq_1 i.toNat (by omega)
noncomputable def xcv_2 (i : Int) : Int := (xv_2.getD i.toNat 0).toInt
theorem xcq_2 : ∀ j : Nat, j < 12 → (1 : Int) ≤ (xv_2.getD j 0).toInt ∧ (xv_2.getD j 0).toInt ≤ (11 : Int) := by decide +kernel
theorem xcr_2 {i : Int} (h0 : 0 ≤ i) (h1 : i < 12) : (1 : Int) ≤ xcv_2 i ∧ xcv_2 i ≤ (11 : Int) := xcq_2 i.toNat (by omega)
noncomputable def xcv_3 (i : Int) : Int := (xv_3.getD i.toNat 0).toInt
theorem xcq_3 : ∀ j : Nat, j < 12 → (0 : Int) ≤ (xv_3.getD j 0).toInt ∧ (xv_3.getD j 0).toInt ≤ (51 : Int) := by decide +kernel
theorem xcr_3 {i : Int} (h0 : 0 ≤ i) (h1 : i < 12) : (0 : Int) ≤ xcv_3 i ∧ xcv_3 i ≤ (51 : Int) := xcq_3 i.toNat (by omega)
noncomputable def xcv_4 (i : Int) : Int := (xv_4.getD i.toNat 0).toInt
theorem xcq_4 : ∀ j : Nat, j < 204 → (0 : Int) ≤ (xv_4.getD j 0).toInt ∧ (xv_4.getD j 0).toInt ≤ (64 : Int) := by decide +kernel
theorem xcr_4 {i : Int} (h0 : 0 ≤ i) (h1 : i < 204) : (0 : Int) ≤ xcv_4 i ∧ xcv_4 i ≤ (64 : Int) := xcq_4 i.toNat (by omega)
noncomputable def xcv_5 (i : Int) : Int := (xv_5.getD i.toNat 0).toInt
theorem xcq_5 : ∀ j : Nat, j < 100 → (0 : Int) ≤ (xv_5.getD j 0).toInt ∧ (xv_5.getD j 0).toInt ≤ (10 : Int) := by decide +kernel
theorem xcr_5 {i : Int} (h0 : 0 ≤ i) (h1 : i < 100) : (0 : Int) ≤ xcv_5 i ∧ xcv_5 i ≤ (10 : Int) := xcq_5 i.toNat (by omega)
noncomputable def xcv_6 (i : Int) : Int := (xv_6.getD i.toNat 0).toInt
theorem xcq_6 : ∀ j : Nat, j < 10 → (3 : Int) ≤ (xv_6.getD j 0).toInt ∧ (xv_6.getD j 0).toInt ≤ (200 : Int) := by decide +kernel
theorem xcr_6 {i : Int} (h0 : 0 ≤ i) (h1 : i < 10) : (3 : Int) ≤ xcv_6 i ∧ xcv_6 i ≤ (200 : Int) := xcq_6 i.toNat (by omega)
noncomputable def xcv_7 (i : Int) : Int := (xv_7.getD i.toNat 0).toInt
theorem xcq_7 : ∀ j : Nat, j < 5 → (0 : Int) ≤ (xv_7.getD j 0).toInt ∧ (xv_7.getD j 0).toInt ≤ (6 : Int) := by decide +kernel
theorem xcr_7 {i : Int} (h0 : 0 ≤ i) (h1 : i < 5) : (0 : Int) ≤ xcv_7 i ∧ xcv_7 i ≤ (6 : Int) := xcq_7 i.toNat (by omega)
noncomputable def xcv_8 (i : Int) : Int := (xv_8.getD i.toNat 0).toInt
theorem xcq_8 : ∀ j : Nat, j < 5 → (1 : Int) ≤ (xv_8.getD j 0).toInt ∧ (xv_8.getD j 0).toInt ≤ (10 : Int) := by decide +kernel
theorem xcr_8 {i : Int} (h0 : 0 ≤ i) (h1 : i < 5) : (1 : Int) ≤ xcv_8 i ∧ xcv_8 i ≤ (10 : Int) := xcq_8 i.toNat (by omega)
theorem xff0 : ∀ j : Nat, j < 11 → (xv_3.getD j 0).toInt + (xv_2.getD j 0).toInt ≤ 51 := by decide +kernel
theorem xff {i : Int} (h0 : 0 ≤ i) (h1 : i < 11) : xcv_3 i + xcv_2 i ≤ 51 := xff0 i.toNat (by omega)
theorem xf10 : ∀ j : Nat, j < 204 → j % 4 = 1 → (xv_4.getD j 0).toInt ≤ 8 := by decide +kernel
theorem xf1 {i : Int} (h0 : 0 ≤ i) (h1 : i < 204) (h2 : i % 4 = 1) : xcv_4 i ≤ 8 := xf10 i.toNat (by omega) (by omega)
end
