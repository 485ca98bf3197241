section
/-! ===== the class: what its cells may hold, by kind ===== -/
section JL2
variable {A : Nat → Option (Nat × (Nat → Int32))} {D : Nat} {m : ix_M} {pc : Nat} {ls : ix_L} {st : List Value} {M : jm} {Q : Option Value → jm → Prop}
theorem jr.acpL {idx mid na a d n0 n1 : Nat} {sp dp n : Int} (hi : m.2.2.2.2.2.2 pc = some (.invokestatic idx)) (h1 : ix_tI (xT A) m.1 idx = some (7, mid, na)) (hc : ix_cats st ≤ 8) (ha : a < xNc) (hs : xsh a = (1, n0)) (hd : d < xNc) (ht : xsh d = (1, n1)) (hn0 : n0 ≤ 2000000) (hn1 : n1 ≤ 2000000) (hsp : 0 ≤ sp) (hdp : 0 ≤ dp) (hn : 0 ≤ n) (h0 : sp + n ≤ (n0 : Nat)) (h2 : dp + n ≤ (n1 : Nat)) (k : jr A D m (pc + 3) ls st (jcpy M a sp d dp n) Q) : jr A D m pc ls (.int (Int32.ofInt n) :: .int (Int32.ofInt dp) :: .ref d :: .int (Int32.ofInt sp) :: .ref a :: st) M Q := by
  refine jr_c1 (Or.inr (Or.inr ⟨_, rfl⟩)) hi (fun f => ?_) k
  obtain ⟨p1, p2⟩ := jnn hsp (by omega)
  obtain ⟨q1, q2⟩ := jnn hdp (by omega)
  obtain ⟨r1, r2⟩ := jnn hn (by omega)
  unfold ix_cal
  simp only [h1]
  unfold ix_acp
  simp only [jarr1 ha hs, jarr1 hd ht]
  rw [p2, q2, r2, if_pos ⟨p1, q1, r1, by omega, by omega, hc⟩]
  congr 2
  refine jH_cpy M ?_
  rw [ht]
  show _ = Sum.inl (1, n1, Sum.inr (Sum.inl _))
  congr 3
  congr 2
  funext j
  unfold va_cpy jcpy
  by_cases hj : dp.toNat ≤ j ∧ j < dp.toNat + n.toNat
  · rw [if_pos hj, if_pos ⟨rfl, by omega, by omega⟩]
    show Int64.ofInt (M a ((sp.toNat + (j - dp.toNat) : Nat) : Int)) = Int64.ofInt (M a (sp + ((j : Int) - dp)))
    rw [show (((sp.toNat + (j - dp.toNat) : Nat) : Int)) = sp + ((j : Int) - dp) by omega]
  · rw [if_neg hj, if_neg (by omega)]
end JL2
noncomputable def cio_1 (j : Nat) : Option (Int × Int) := bif Nat.blt j 6 then (bif Nat.blt j 2 then (bif Nat.blt j 1 then (bif Nat.beq j 0 then some (((0 : Int), (1 : Int))) else none) else (bif Nat.beq j 1 then some (((0 : Int), (1 : Int))) else none)) else (bif Nat.blt j 5 then (bif Nat.beq j 2 then some (((-2147483648 : Int), (2147483647 : Int))) else none) else (bif Nat.beq j 5 then some (((-2147483648 : Int), (2147483647 : Int))) else none))) else (bif Nat.blt j 13 then (bif Nat.blt j 12 then (bif Nat.beq j 6 then some (((-2147483648 : Int), (2147483647 : Int))) else none) else (bif Nat.beq j 12 then some (((0 : Int), (1 : Int))) else none)) else (bif Nat.blt j 14 then (bif Nat.beq j 13 then some (((-2147483648 : Int), (2147483647 : Int))) else none) else (bif Nat.blt j 15 then (bif Nat.beq j 14 then some (((-9223372036854775808 : Int), (9223372036854775807 : Int))) else none) else (bif Nat.beq j 15 then some (((-2147483648 : Int), (2147483647 : Int))) else none))))
noncomputable def cio_9 (j : Nat) : Option (Int × Int) := bif Nat.blt j 3 then (bif Nat.blt j 1 then (bif Nat.beq j 0 then some (((16 : Int), (17 : Int))) else none) else (bif Nat.beq j 1 then some (((16 : Int), (17 : Int))) else none)) else (bif Nat.blt j 4 then (bif Nat.beq j 3 then some (((-2147483648 : Int), (2147483647 : Int))) else none) else (bif Nat.blt j 5 then (bif Nat.beq j 4 then some (((-2147483648 : Int), (2147483647 : Int))) else none) else (bif Nat.beq j 5 then some (((0 : Int), (1 : Int))) else none)))
noncomputable def cio_14 (j : Nat) : Option (Int × Int) := bif Nat.blt j 1 then (bif Nat.beq j 0 then some (((0 : Int), (15 : Int))) else none) else (bif Nat.blt j 2 then (bif Nat.beq j 1 then some (((-2147483648 : Int), (2147483647 : Int))) else none) else (bif Nat.beq j 2 then some (((0 : Int), (1 : Int))) else none))
noncomputable def cio_15_0 (j : Nat) : Option (Int × Int) := bif Nat.blt j 3 then (bif Nat.blt j 1 then (bif Nat.beq j 0 then some (((0 : Int), (1 : Int))) else none) else (bif Nat.blt j 2 then (bif Nat.beq j 1 then some (((-2147483648 : Int), (2147483647 : Int))) else none) else (bif Nat.beq j 2 then some (((-9223372036854775808 : Int), (9223372036854775807 : Int))) else none))) else (bif Nat.blt j 4 then (bif Nat.beq j 3 then some (((-9223372036854775808 : Int), (9223372036854775807 : Int))) else none) else (bif Nat.blt j 5 then (bif Nat.beq j 4 then some (((-9223372036854775808 : Int), (9223372036854775807 : Int))) else none) else (bif Nat.beq j 5 then some (((-9223372036854775808 : Int), (9223372036854775807 : Int))) else none)))
noncomputable def cio_15_1 (j : Nat) : Option (Int × Int) := bif Nat.blt j 11 then (bif Nat.blt j 7 then (bif Nat.beq j 6 then some (((-2147483648 : Int), (2147483647 : Int))) else none) else (bif Nat.blt j 8 then (bif Nat.beq j 7 then some (((-1 : Int), (70000 : Int))) else none) else (bif Nat.beq j 8 then some (((-2147483648 : Int), (2147483647 : Int))) else none))) else (bif Nat.blt j 12 then (bif Nat.beq j 11 then some (((-1 : Int), (400 : Int))) else none) else (bif Nat.blt j 13 then (bif Nat.beq j 12 then some (((-1 : Int), (400 : Int))) else none) else (bif Nat.beq j 13 then some (((-1 : Int), (404 : Int))) else none)))
noncomputable def cio_15 (j : Nat) : Option (Int × Int) := bif Nat.blt j 6 then (cio_15_0 j) else (cio_15_1 j)
noncomputable def cio_18 (j : Nat) : Option (Int × Int) := bif Nat.blt j 5 then (bif Nat.blt j 4 then (bif Nat.beq j 3 then some (((0 : Int), (12 : Int))) else none) else (bif Nat.beq j 4 then some (((-2147483648 : Int), (2147483647 : Int))) else none)) else (bif Nat.blt j 6 then (bif Nat.beq j 5 then some (((-2147483648 : Int), (2147483647 : Int))) else none) else (bif Nat.blt j 7 then (bif Nat.beq j 6 then some (((-2147483648 : Int), (2147483647 : Int))) else none) else (bif Nat.beq j 7 then some (((0 : Int), (597 : Int))) else none)))
noncomputable def cio_22_0 (j : Nat) : Option (Int × Int) := bif Nat.blt j 7 then (bif Nat.blt j 4 then (bif Nat.blt j 3 then (bif Nat.beq j 2 then some (((0 : Int), (597 : Int))) else none) else (bif Nat.beq j 3 then some (((-2147483648 : Int), (2147483647 : Int))) else none)) else (bif Nat.blt j 5 then (bif Nat.beq j 4 then some (((0 : Int), (1 : Int))) else none) else (bif Nat.beq j 5 then some (((-2147483648 : Int), (2147483647 : Int))) else none))) else (bif Nat.blt j 11 then (bif Nat.blt j 9 then (bif Nat.beq j 7 then some (((0 : Int), (8 : Int))) else none) else (bif Nat.beq j 9 then some (((0 : Int), (320 : Int))) else none)) else (bif Nat.blt j 12 then (bif Nat.beq j 11 then some (((0 : Int), (1 : Int))) else none) else (bif Nat.beq j 12 then some (((0 : Int), (597 : Int))) else none)))
noncomputable def cio_22_1 (j : Nat) : Option (Int × Int) := bif Nat.blt j 16 then (bif Nat.blt j 14 then (bif Nat.beq j 13 then some (((-2147483648 : Int), (2147483647 : Int))) else none) else (bif Nat.blt j 15 then (bif Nat.beq j 14 then some (((-2147483648 : Int), (2147483647 : Int))) else none) else (bif Nat.beq j 15 then some (((-2147483648 : Int), (2147483647 : Int))) else none))) else (bif Nat.blt j 18 then (bif Nat.blt j 17 then (bif Nat.beq j 16 then some (((-2147483648 : Int), (2147483647 : Int))) else none) else (bif Nat.beq j 17 then some (((0 : Int), (1 : Int))) else none)) else (bif Nat.blt j 19 then (bif Nat.beq j 18 then some (((-2147483648 : Int), (2147483647 : Int))) else none) else (bif Nat.beq j 19 then some (((-2147483648 : Int), (2147483647 : Int))) else none)))
noncomputable def cio_22 (j : Nat) : Option (Int × Int) := bif Nat.blt j 13 then (cio_22_0 j) else (cio_22_1 j)
noncomputable def cio_27 (j : Nat) : Option (Int × Int) := bif Nat.blt j 6 then (bif Nat.beq j 5 then some (((0 : Int), (2147483647 : Int))) else none) else (bif Nat.beq j 6 then some (((-9223372036854775808 : Int), (9223372036854775807 : Int))) else none)
noncomputable def cio_33 (j : Nat) : Option (Int × Int) := bif Nat.blt j 2 then (bif Nat.beq j 1 then some (((-1 : Int), (400 : Int))) else none) else (bif Nat.beq j 2 then some (((-9223372036854775808 : Int), (9223372036854775807 : Int))) else none)
noncomputable def cio_35 (j : Nat) : Option (Int × Int) := bif Nat.blt j 8 then (bif Nat.beq j 1 then some (((0 : Int), (1600 : Int))) else none) else (bif Nat.beq j 8 then some (((-2147483648 : Int), (2147483647 : Int))) else none)
noncomputable def cio_44_0 (j : Nat) : Option (Int × Int) := bif Nat.blt j 3 then (bif Nat.blt j 1 then (bif Nat.beq j 0 then some (((-2147483648 : Int), (2147483647 : Int))) else none) else (bif Nat.blt j 2 then (bif Nat.beq j 1 then some (((-2147483648 : Int), (2147483647 : Int))) else none) else (bif Nat.beq j 2 then some (((0 : Int), (597 : Int))) else none))) else (bif Nat.blt j 4 then (bif Nat.beq j 3 then some (((1 : Int), (419 : Int))) else none) else (bif Nat.blt j 6 then (bif Nat.beq j 4 then some (((0 : Int), (1600 : Int))) else none) else (bif Nat.beq j 6 then some (((-2147483648 : Int), (2147483647 : Int))) else none)))
noncomputable def cio_44_1 (j : Nat) : Option (Int × Int) := bif Nat.blt j 9 then (bif Nat.blt j 8 then (bif Nat.beq j 7 then some (((0 : Int), (1600 : Int))) else none) else (bif Nat.beq j 8 then some (((0 : Int), (1600 : Int))) else none)) else (bif Nat.blt j 10 then (bif Nat.beq j 9 then some (((-9223372036854775808 : Int), (9223372036854775807 : Int))) else none) else (bif Nat.blt j 11 then (bif Nat.beq j 10 then some (((-2147483648 : Int), (2147483647 : Int))) else none) else (bif Nat.beq j 11 then some (((0 : Int), (255 : Int))) else none)))
noncomputable def cio_44 (j : Nat) : Option (Int × Int) := bif Nat.blt j 7 then (cio_44_0 j) else (cio_44_1 j)
noncomputable def cio_47 (j : Nat) : Option (Int × Int) := bif Nat.blt j 3 then (bif Nat.beq j 2 then some (((0 : Int), (932 : Int))) else none) else (bif Nat.blt j 4 then (bif Nat.beq j 3 then some (((0 : Int), (16 : Int))) else none) else (bif Nat.beq j 4 then some (((-2147483648 : Int), (2147483647 : Int))) else none))
noncomputable def cio_52 (j : Nat) : Option (Int × Int) := bif Nat.blt j 1 then (bif Nat.beq j 0 then some (((-2147483648 : Int), (2147483647 : Int))) else none) else (bif Nat.beq j 1 then some (((0 : Int), (40 : Int))) else none)
noncomputable def cir_0 (j : Nat) : Option (Int × Int) := bif Nat.blt j 7 then (bif Nat.blt j 4 then (bif Nat.blt j 3 then (bif Nat.beq j 2 then some (((-9223372036854775808 : Int), (9223372036854775807 : Int))) else none) else (bif Nat.beq j 3 then some (((-9223372036854775808 : Int), (9223372036854775807 : Int))) else none)) else (bif Nat.blt j 5 then (bif Nat.beq j 4 then some (((0 : Int), (1 : Int))) else none) else (bif Nat.blt j 6 then (bif Nat.beq j 5 then some (((-2147483648 : Int), (2147483647 : Int))) else none) else (bif Nat.beq j 6 then some (((-9223372036854775808 : Int), (9223372036854775807 : Int))) else none)))) else (bif Nat.blt j 10 then (bif Nat.blt j 8 then (bif Nat.beq j 7 then some (((-2147483648 : Int), (2147483647 : Int))) else none) else (bif Nat.beq j 8 then some (((-2147483648 : Int), (2147483647 : Int))) else none)) else (bif Nat.blt j 11 then (bif Nat.beq j 10 then some (((-9223372036854775808 : Int), (9223372036854775807 : Int))) else none) else (bif Nat.blt j 12 then (bif Nat.beq j 11 then some (((-2147483648 : Int), (2147483647 : Int))) else none) else (bif Nat.beq j 12 then some (((0 : Int), (32 : Int))) else none))))
noncomputable def cir_1 (j : Nat) : Option (Int × Int) := bif Nat.blt j 24 then (bif Nat.blt j 19 then (bif Nat.blt j 17 then (bif Nat.beq j 16 then some (((-1 : Int), (255 : Int))) else none) else (bif Nat.beq j 17 then some (((-1 : Int), (255 : Int))) else none)) else (bif Nat.blt j 20 then (bif Nat.beq j 19 then some (((0 : Int), (11 : Int))) else none) else (bif Nat.blt j 21 then (bif Nat.beq j 20 then some (((0 : Int), (400 : Int))) else none) else (bif Nat.beq j 21 then some (((-400 : Int), (2048 : Int))) else none)))) else (bif Nat.blt j 28 then (bif Nat.blt j 26 then (bif Nat.beq j 24 then some (((-2147483648 : Int), (2147483647 : Int))) else none) else (bif Nat.beq j 26 then some (((-9223372036854775808 : Int), (9223372036854775807 : Int))) else none)) else (bif Nat.blt j 29 then (bif Nat.beq j 28 then some (((-2147483648 : Int), (2147483647 : Int))) else none) else (bif Nat.blt j 30 then (bif Nat.beq j 29 then some (((-9223372036854775808 : Int), (9223372036854775807 : Int))) else none) else (bif Nat.beq j 30 then some (((-9223372036854775808 : Int), (9223372036854775807 : Int))) else none))))
noncomputable def cir_2 (j : Nat) : Option (Int × Int) := bif Nat.blt j 38 then (bif Nat.blt j 34 then (bif Nat.blt j 32 then (bif Nat.beq j 31 then some (((-9223372036854775808 : Int), (9223372036854775807 : Int))) else none) else (bif Nat.beq j 32 then some (((0 : Int), (16 : Int))) else none)) else (bif Nat.blt j 36 then (bif Nat.beq j 34 then some (((-1 : Int), (255 : Int))) else none) else (bif Nat.blt j 37 then (bif Nat.beq j 36 then some (((-2147483648 : Int), (2147483647 : Int))) else none) else (bif Nat.beq j 37 then some (((-2147483648 : Int), (2147483647 : Int))) else none)))) else (bif Nat.blt j 41 then (bif Nat.blt j 39 then (bif Nat.beq j 38 then some (((-2147483648 : Int), (2147483647 : Int))) else none) else (bif Nat.beq j 39 then some (((-2147483648 : Int), (2147483647 : Int))) else none)) else (bif Nat.blt j 43 then (bif Nat.beq j 41 then some (((-2147483648 : Int), (2147483647 : Int))) else none) else (bif Nat.blt j 45 then (bif Nat.beq j 43 then some (((0 : Int), (255 : Int))) else none) else (bif Nat.beq j 45 then some (((-2147483648 : Int), (2147483647 : Int))) else none))))
noncomputable def cir_3 (j : Nat) : Option (Int × Int) := bif Nat.blt j 50 then (bif Nat.blt j 48 then (bif Nat.beq j 46 then some (((-2147483648 : Int), (2147483647 : Int))) else none) else (bif Nat.blt j 49 then (bif Nat.beq j 48 then some (((-2147483648 : Int), (2147483647 : Int))) else none) else (bif Nat.beq j 49 then some (((-2147483648 : Int), (2147483647 : Int))) else none))) else (bif Nat.blt j 53 then (bif Nat.blt j 51 then (bif Nat.beq j 50 then some (((-2147483648 : Int), (2147483647 : Int))) else none) else (bif Nat.beq j 51 then some (((-2147483648 : Int), (2147483647 : Int))) else none)) else (bif Nat.blt j 54 then (bif Nat.beq j 53 then some (((-9223372036854775808 : Int), (9223372036854775807 : Int))) else none) else (bif Nat.beq j 54 then some (((-9223372036854775808 : Int), (9223372036854775807 : Int))) else none)))
noncomputable def cir (j : Nat) : Option (Int × Int) := bif Nat.blt j 31 then (bif Nat.blt j 16 then (cir_0 j) else (cir_1 j)) else (bif Nat.blt j 46 then (cir_2 j) else (cir_3 j))
noncomputable def cio (K : Nat) (j : Nat) : Option (Int × Int) := bif Nat.beq K 1 then cio_1 j else bif Nat.beq K 9 then cio_9 j else bif Nat.beq K 14 then cio_14 j else bif Nat.beq K 15 then cio_15 j else bif Nat.beq K 18 then cio_18 j else bif Nat.beq K 22 then cio_22 j else bif Nat.beq K 27 then cio_27 j else bif Nat.beq K 33 then cio_33 j else bif Nat.beq K 35 then cio_35 j else bif Nat.beq K 44 then cio_44 j else bif Nat.beq K 47 then cio_47 j else bif Nat.beq K 52 then cio_52 j else none
noncomputable def cob (K : Nat) : Bool := Nat.beq K 1 || Nat.beq K 9 || Nat.beq K 14 || Nat.beq K 15 || Nat.beq K 18 || Nat.beq K 22 || Nat.beq K 27 || Nat.beq K 33 || Nat.beq K 35 || Nat.beq K 44 || Nat.beq K 47 || Nat.beq K 52
noncomputable def xcv_1 (i : Int) : Int := (xv_1.getD i.toNat 0).toInt
theorem xcq_1 : ∀ j : Nat, j < 12 → (1 : Int) ≤ (xv_1.getD j 0).toInt ∧ (xv_1.getD j 0).toInt ≤ (24 : Int) := by decide +kernel
theorem xcr_1 {i : Int} (h0 : 0 ≤ i) (h1 : i < 12) : (1 : Int) ≤ xcv_1 i ∧ xcv_1 i ≤ (24 : Int) := xcq_1 i.toNat (by omega)
noncomputable def xcv_2 (i : Int) : Int := (xv_2.getD i.toNat 0).toInt
theorem xcq_2 : ∀ j : Nat, j < 12 → (1 : Int) ≤ (xv_2.getD j 0).toInt ∧ (xv_2.getD j 0).toInt ≤ (11 : Int) := by decide +kernel
theorem xcr_2 {i : Int} (h0 : 0 ≤ i) (h1 : i < 12) : (1 : Int) ≤ xcv_2 i ∧ xcv_2 i ≤ (11 : Int) := xcq_2 i.toNat (by omega)
noncomputable def xcv_3 (i : Int) : Int := (xv_3.getD i.toNat 0).toInt
theorem xcq_3 : ∀ j : Nat, j < 12 → (0 : Int) ≤ (xv_3.getD j 0).toInt ∧ (xv_3.getD j 0).toInt ≤ (51 : Int) := by decide +kernel
theorem xcr_3 {i : Int} (h0 : 0 ≤ i) (h1 : i < 12) : (0 : Int) ≤ xcv_3 i ∧ xcv_3 i ≤ (51 : Int) := xcq_3 i.toNat (by omega)
noncomputable def xcv_4 (i : Int) : Int := (xv_4.getD i.toNat 0).toInt
theorem xcq_4 : ∀ j : Nat, j < 204 → (0 : Int) ≤ (xv_4.getD j 0).toInt ∧ (xv_4.getD j 0).toInt ≤ (64 : Int) := by decide +kernel
theorem xcr_4 {i : Int} (h0 : 0 ≤ i) (h1 : i < 204) : (0 : Int) ≤ xcv_4 i ∧ xcv_4 i ≤ (64 : Int) := xcq_4 i.toNat (by omega)
noncomputable def xcv_5 (i : Int) : Int := (xv_5.getD i.toNat 0).toInt
theorem xcq_5 : ∀ j : Nat, j < 100 → (0 : Int) ≤ (xv_5.getD j 0).toInt ∧ (xv_5.getD j 0).toInt ≤ (10 : Int) := by decide +kernel
theorem xcr_5 {i : Int} (h0 : 0 ≤ i) (h1 : i < 100) : (0 : Int) ≤ xcv_5 i ∧ xcv_5 i ≤ (10 : Int) := xcq_5 i.toNat (by omega)
noncomputable def xcv_6 (i : Int) : Int := (xv_6.getD i.toNat 0).toInt
theorem xcq_6 : ∀ j : Nat, j < 10 → (3 : Int) ≤ (xv_6.getD j 0).toInt ∧ (xv_6.getD j 0).toInt ≤ (200 : Int) := by decide +kernel
theorem xcr_6 {i : Int} (h0 : 0 ≤ i) (h1 : i < 10) : (3 : Int) ≤ xcv_6 i ∧ xcv_6 i ≤ (200 : Int) := xcq_6 i.toNat (by omega)
noncomputable def xcv_7 (i : Int) : Int := (xv_7.getD i.toNat 0).toInt
theorem xcq_7 : ∀ j : Nat, j < 5 → (0 : Int) ≤ (xv_7.getD j 0).toInt ∧ (xv_7.getD j 0).toInt ≤ (6 : Int) := by decide +kernel
theorem xcr_7 {i : Int} (h0 : 0 ≤ i) (h1 : i < 5) : (0 : Int) ≤ xcv_7 i ∧ xcv_7 i ≤ (6 : Int) := xcq_7 i.toNat (by omega)
noncomputable def xcv_8 (i : Int) : Int := (xv_8.getD i.toNat 0).toInt
theorem xcq_8 : ∀ j : Nat, j < 5 → (1 : Int) ≤ (xv_8.getD j 0).toInt ∧ (xv_8.getD j 0).toInt ≤ (10 : Int) := by decide +kernel
theorem xcr_8 {i : Int} (h0 : 0 ≤ i) (h1 : i < 5) : (1 : Int) ≤ xcv_8 i ∧ xcv_8 i ≤ (10 : Int) := xcq_8 i.toNat (by omega)
theorem xff0 : ∀ j : Nat, j < 11 → (xv_3.getD j 0).toInt + (xv_2.getD j 0).toInt ≤ 51 := by decide +kernel
theorem xff {i : Int} (h0 : 0 ≤ i) (h1 : i < 11) : xcv_3 i + xcv_2 i ≤ 51 := xff0 i.toNat (by omega)
theorem xf10 : ∀ j : Nat, j < 204 → j % 4 = 1 → (xv_4.getD j 0).toInt ≤ 8 := by decide +kernel
theorem xf1 {i : Int} (h0 : 0 ≤ i) (h1 : i < 204) (h2 : i % 4 = 1) : xcv_4 i ≤ 8 := xf10 i.toNat (by omega) (by omega)
theorem xt_2_2 (i : Int) : i ≠ 2 ∨ xcv_2 i = 11 := by
  by_cases h : i = 2
  · subst h; exact Or.inr rfl
  · exact Or.inl h
theorem xt_2_6 (i : Int) : i ≠ 6 ∨ xcv_2 i = 4 := by
  by_cases h : i = 6
  · subst h; exact Or.inr rfl
  · exact Or.inl h
theorem xt_3_2 (i : Int) : i ≠ 2 ∨ xcv_3 i = 6 := by
  by_cases h : i = 2
  · subst h; exact Or.inr rfl
  · exact Or.inl h
theorem xt_3_6 (i : Int) : i ≠ 6 ∨ xcv_3 i = 29 := by
  by_cases h : i = 6
  · subst h; exact Or.inr rfl
  · exact Or.inl h
theorem xt_4_47 (i : Int) : i ≠ 47 ∨ xcv_4 i = 13 := by
  by_cases h : i = 47
  · subst h; exact Or.inr rfl
  · exact Or.inl h
theorem xt_4_123 (i : Int) : i ≠ 123 ∨ xcv_4 i = 13 := by
  by_cases h : i = 123
  · subst h; exact Or.inr rfl
  · exact Or.inl h
theorem xl6 (i : Int) : i ≠ 6 ∨ xcv_1 i = 8 := by
  by_cases h : i = 6
  · subst h; exact Or.inr rfl
  · exact Or.inl h
noncomputable def ci (K : Nat) (i : Int) : Int × Int := bif Nat.beq K 24 then (bif Nat.beq i.toNat 4 then ((0 : Int), (40 : Int)) else (-2147483648, 2147483647)) else bif cob K then (cio K i.toNat).getD (-9223372036854775808, 9223372036854775807) else (cir K).getD (-9223372036854775808, 9223372036854775807)
/-- the kind that a reference that changes must name (0: no such place) -/
noncomputable def cxk (K : Nat) (i : Int) : Nat := bif Nat.beq K 18 then (bif Nat.beq i.toNat 7 then 33 else 0) else bif Nat.beq K 22 then (bif Nat.beq i.toNat 2 then 47 else bif Nat.beq i.toNat 12 then 18 else 0) else bif Nat.beq K 44 then (bif Nat.beq i.toNat 2 then 47 else 0) else 0
/-- every cell of the class is within its interval -/
noncomputable def CI (M : jm) : Prop := (∀ (a : Nat) (i : Int), kd a ≠ 0 → (ci (kd a) i).1 ≤ M a i ∧ M a i ≤ (ci (kd a) i).2) ∧ ∀ (a : Nat) (i : Int), cxk (kd a) i ≠ 0 → kd (M a i).toNat = cxk (kd a) i
theorem CI.u {M : jm} (h : CI M) {a K : Nat} {i v : Int} (hk : kd a = K) (hv : (ci K i).1 ≤ v ∧ v ≤ (ci K i).2) (h0 : cxk K i = 0) : CI (ju M a i v) := by
  refine ⟨fun b k hb => ?_, fun b k hb => ?_⟩
  · by_cases hq : b = a ∧ k = i
    · obtain ⟨rfl, rfl⟩ := hq
      rw [ju_same, hk]
      exact hv
    · rw [ju_ne M v hq]
      exact h.1 b k hb
  · by_cases hq : b = a ∧ k = i
    · obtain ⟨rfl, rfl⟩ := hq
      rw [hk] at hb
      exact absurd h0 hb
    · rw [ju_ne M v hq]
      exact h.2 b k hb
theorem CI.r {M : jm} (h : CI M) {a K : Nat} (hk : kd a = K) (h0 : K ≠ 0) (i : Int) : (ci K i).1 ≤ M a i ∧ M a i ≤ (ci K i).2 := by
  subst hk
  exact h.1 a i h0
theorem CI.x {M : jm} (h : CI M) {a K K2 : Nat} (hk : kd a = K) (i : Int) (h2 : cxk K i = K2) (h0 : K2 ≠ 0) : kd (M a i).toNat = K2 := by
  subst hk
  subst h2
  exact h.2 a i h0
theorem jval_mut {a j : Nat} {ty : FieldType} {x : Int} (ht : jref ty = true) (h : xfx a j = none) : jval a j ty x = .ref x.toNat := by
  cases ty <;> first | (exact absurd ht (by decide)) | (unfold jval; rw [h]; rfl)
theorem km_18 : ∀ a, a < 598 → kd a = 18 → xfx a 7 = none := by decide +kernel
theorem kn_18_7 {a : Nat} (h : kd a = 18) : xfx a 7 = none := km_18 a (kd_lt (by rw [h]; decide)) h
theorem ci_rep {i : Int} (h0 : 0 ≤ i) (h : i ≠ 4) : ci 24 i = (-2147483648, 2147483647) := by
  have e : Nat.beq i.toNat 4 = false := by
    cases hb : Nat.beq i.toNat 4 with
    | false => rfl
    | true => have := Nat.eq_of_beq_eq_true hb; omega
  unfold ci
  rw [e]
  rfl
theorem ci_rd (i : Int) : -2147483648 ≤ (ci 24 i).1 ∧ (ci 24 i).2 ≤ 2147483647 := by
  unfold ci
  show -2147483648 ≤ (bif Nat.beq i.toNat 4 then ((0 : Int), (40 : Int)) else (-2147483648, 2147483647)).1 ∧ (bif Nat.beq i.toNat 4 then ((0 : Int), (40 : Int)) else (-2147483648, 2147483647)).2 ≤ 2147483647
  cases Nat.beq i.toNat 4 <;> decide
theorem j_fz {v : Int} (h : 0 ≤ v ∧ v ≤ 1) : fits FieldType.boolean (Value.int (Int32.ofInt v)) = true := by
  rcases (show v = 0 ∨ v = 1 by omega) with rfl | rfl <;> rfl
/-- a reference that changes is written -/
theorem CI.w {M : jm} (h : CI M) {a K : Nat} {i v : Int} (hk : kd a = K) (hv : (ci K i).1 ≤ v ∧ v ≤ (ci K i).2) (h0 : kd v.toNat = cxk K i) : CI (ju M a i v) := by
  refine ⟨fun b k hb => ?_, fun b k hb => ?_⟩
  · by_cases hq : b = a ∧ k = i
    · obtain ⟨rfl, rfl⟩ := hq
      rw [ju_same, hk]
      exact hv
    · rw [ju_ne M v hq]
      exact h.1 b k hb
  · by_cases hq : b = a ∧ k = i
    · obtain ⟨rfl, rfl⟩ := hq
      rw [ju_same, hk]
      exact h0
    · rw [ju_ne M v hq]
      exact h.2 b k hb
theorem CI.cpy {M : jm} (h : CI M) {a d Ka Kd : Nat} {sp dp n : Int} (ha : kd a = Ka) (hd : kd d = Kd) (h0 : Ka ≠ 0) (hv : ∀ i j : Int, (ci Kd j).1 ≤ (ci Ka i).1 ∧ (ci Ka i).2 ≤ (ci Kd j).2) (hx : ∀ i : Int, cxk Kd i = 0) : CI (jcpy M a sp d dp n) := by
  refine ⟨fun b k hb => ?_, fun b k hb => ?_⟩
  · by_cases hq : b = d ∧ dp ≤ k ∧ k < dp + n
    · obtain ⟨rfl, h1, h2⟩ := hq
      rw [jcpy_in M h1 h2, hd]
      have q := CI.r h ha h0 (sp + (k - dp))
      have q2 := hv (sp + (k - dp)) k
      omega
    · rw [jcpy_ne M hq]
      exact h.1 b k hb
  · by_cases hq : b = d ∧ dp ≤ k ∧ k < dp + n
    · rw [hq.1, hd, hx] at hb
      exact absurd rfl hb
    · rw [jcpy_ne M hq]
      exact h.2 b k hb
/-- places that may be written: kind and slot (1000: every one) -/
noncomputable def kh (w : Nat × Nat) (K : Nat) (i : Int) : Bool := Nat.beq w.1 K && (Nat.beq w.2 1000 || Nat.beq w.2 i.toNat)
noncomputable def kw (W : List (Nat × Nat)) (K : Nat) (i : Int) : Bool := match W with
  | [] => false
  | w :: r => kh w K i || kw r K i
/-- all but the places of W are as in T -/
noncomputable def FR (W : List (Nat × Nat)) (T M : jm) : Prop := ∀ (a : Nat) (i : Int), kw W (kd a) i = false → M a i = T a i
theorem FR.rfl (W : List (Nat × Nat)) (M : jm) : FR W M M := fun _ _ _ => Eq.refl _
theorem FR.g {W : List (Nat × Nat)} {T M : jm} (h : FR W T M) {a K : Nat} {i : Int} (hk : kd a = K) (h0 : kw W K i = false) : M a i = T a i := h a i (by rw [hk]; exact h0)
theorem FR.o {W : List (Nat × Nat)} {T M : jm} (h : FR W T M) {a K : Nat} {i v : Int} (hk : kd a = K) (h0 : kw W K i = true) : FR W T (ju M a i v) := fun b k hb => (ju_ne M v (fun q => by rw [q.1, q.2, hk, h0] at hb; exact absurd hb (by decide))).trans (h b k hb)
theorem FR.t {W V : List (Nat × Nat)} {T M M' : jm} (h : FR W T M) (h2 : FR V M M') (hs : ∀ (K : Nat) (i : Int), kw V K i = true → kw W K i = true) : FR W T M' := fun b k hb => (h2 b k (by
  cases e : kw V (kd b) k with
  | false => rfl
  | true => rw [hs _ _ e] at hb; exact absurd hb (by decide))).trans (h b k hb)
theorem kw_mem {W : List (Nat × Nat)} {u : Nat × Nat} {K : Nat} {i : Int} (h : u ∈ W) (h1 : kh u K i = true) : kw W K i = true := by
  induction W with
  | nil => exact absurd h (by simp)
  | cons x r ih =>
    unfold kw
    rcases List.mem_cons.mp h with q | q
    · rw [← q, h1]; rfl
    · rw [ih q]; simp
noncomputable def ksub (V W : List (Nat × Nat)) : Bool := V.all (fun w => W.any (fun u => Nat.beq w.1 u.1 && (Nat.beq u.2 1000 || Nat.beq w.2 u.2)))
theorem kw_sub {V W : List (Nat × Nat)} (h : ksub V W = true) : ∀ (K : Nat) (i : Int), kw V K i = true → kw W K i = true := by
  intro K i
  induction V with
  | nil => intro q; exact absurd q (by simp [kw])
  | cons w r ih =>
    intro q
    unfold ksub at h
    rw [List.all_cons, Bool.and_eq_true] at h
    unfold kw at q
    rw [Bool.or_eq_true] at q
    rcases q with q | q
    · obtain ⟨u, hu, h2⟩ := List.any_eq_true.mp h.1
      refine kw_mem hu ?_
      unfold kh at q ⊢
      rw [Bool.and_eq_true, Bool.or_eq_true] at q h2 ⊢
      have e1 := Nat.eq_of_beq_eq_true q.1
      have e2 := Nat.eq_of_beq_eq_true h2.1
      refine ⟨by rw [← e1, e2]; exact Nat.beq_refl _, ?_⟩
      rcases h2.2 with h3 | h3
      · exact Or.inl h3
      · have e3 := Nat.eq_of_beq_eq_true h3
        rw [← e3]
        exact q.2
    · exact ih h.2 q
noncomputable def ksep (W S : List (Nat × Nat)) : Bool := W.all (fun w => S.all (fun s => !(Nat.beq w.1 s.1 && (Nat.beq w.2 1000 || (Nat.beq s.2 1000 || Nat.beq w.2 s.2)))))
theorem kw_sep {W S : List (Nat × Nat)} (h : ksep W S = true) {K j : Nat} (hs : (K, j) ∈ S) (i : Int) (hi : j = 1000 ∨ i.toNat = j) : kw W K i = false := by
  induction W with
  | nil => rfl
  | cons w r ih =>
    unfold ksep at h
    rw [List.all_cons, Bool.and_eq_true] at h
    have h1 := List.all_eq_true.mp h.1 _ hs
    unfold kw
    rw [ih h.2, Bool.or_false]
    unfold kh
    simp only [Bool.not_eq_true'] at h1
    cases e1 : Nat.beq w.1 K with
    | false => rfl
    | true =>
      rw [e1, Bool.true_and] at h1
      rw [Bool.or_eq_false_iff, Bool.or_eq_false_iff] at h1
      rcases hi with hj | hj
      · subst hj
        exact absurd h1.2.1 (by decide)
      · rw [hj, h1.1, h1.2.2]
        rfl
theorem FR.s {W S : List (Nat × Nat)} {T M : jm} (h : FR W T M) (h1 : ksep W S = true) {a K : Nat} (hk : kd a = K) (j : Nat) (hs : (K, j) ∈ S) (i : Int) (hi : j = 1000 ∨ i.toNat = j) : M a i = T a i := h a i (by rw [hk]; exact kw_sep h1 hs i hi)
/-- the headers that were read end within 400 bytes -/
noncomputable def HC (M : jm) (t : Nat) : Prop := ∀ h : Int, 0 ≤ h → h < M t 3 → (0 ≤ M (t + 2) h + M (t + 3) h ∧ M (t + 2) h + M (t + 3) h ≤ 400) ∧ ((M (t + 1) h ≠ 2 ∧ M (t + 1) h ≠ 6) ∨ 8 ≤ M (t + 2) h + M (t + 3) h)
theorem HC.z {M : jm} {t : Nat} (h : M t 3 = 0) : HC M t := fun x h0 h1 => by omega
theorem HC.fr {W : List (Nat × Nat)} {T M : jm} {t : Nat} (h : HC T t) (f : FR W T M) (k : kd t = 18) (h1 : ksep W [(18, 3), (19, 1000), (20, 1000), (21, 1000)] = true) : HC M t := by
  intro x h0 hx
  have q1 := (kf_18_0 k).2
  have q2 := (kf_18_1 k).2
  have q3 := (kf_18_2 k).2
  rw [f.s h1 k 3 (by decide) 3 (Or.inr rfl)] at hx
  rw [f.s h1 q1 1000 (by decide) x (Or.inl rfl), f.s h1 q2 1000 (by decide) x (Or.inl rfl), f.s h1 q3 1000 (by decide) x (Or.inl rfl)]
  exact h x h0 hx
theorem HC.st {M : jm} {t : Nat} {c k a s : Int} (h : HC M t) (hk : kd t = 18) (hc : M t 3 = c) (h0 : 0 ≤ a + s ∧ a + s ≤ 400) (h6 : (k ≠ 2 ∧ k ≠ 6) ∨ 8 ≤ a + s) (hc0 : 0 ≤ c) : HC (ju (ju (ju (ju M (t + 1) c k) (t + 2) c a) (t + 3) c s) t 3 (c + 1)) t := by
  have n1 : t ≠ t + 1 := by omega
  have n2 : t ≠ t + 2 := by omega
  have n3 : t ≠ t + 3 := by omega
  intro x hx0 hx
  rw [ju_same] at hx
  by_cases e : x = c
  · subst e
    simp only [ju, show t + 1 ≠ t by omega, show t + 2 ≠ t by omega, show t + 3 ≠ t by omega, false_and, and_false, if_false, if_true, and_self, true_and, show t + 1 ≠ t + 3 by omega, show t + 1 ≠ t + 2 by omega, show t + 2 ≠ t + 3 by omega]
    refine ⟨h0, ?_⟩
    rcases h6 with q | q
    · exact Or.inl q
    · exact Or.inr q
  · simp only [ju, e, and_false, if_false, show t + 1 ≠ t by omega, show t + 2 ≠ t by omega, show t + 3 ≠ t by omega, false_and]
    exact h x hx0 (by omega)
/-- what is kept of a gathering has 8 bytes at least -/
noncomputable def GC (M : jm) : Prop := ∀ a : Nat, kd a = 15 → M a 11 = -1 ∨ 8 ≤ M a 11
theorem GC.fr {W : List (Nat × Nat)} {T M : jm} (h : GC T) (f : FR W T M) (h1 : ksep W [(15, 11)] = true) : GC M := fun a ha => by
  rw [f.s h1 ha 11 (by decide) 11 (Or.inr rfl)]
  exact h a ha
theorem GC.u {M : jm} {v : Int} {a : Nat} (h : GC M) (hv : v = -1 ∨ 8 ≤ v) : GC (ju M a 11 v) := fun b hb => by
  by_cases hq : b = a
  · subst hq
    rw [ju_same]
    exact hv
  · rw [ju_c M v hq]
    exact h b hb
theorem GC.n {M : jm} {v i : Int} {a K : Nat} (h : GC M) (hk : kd a = K) (h0 : K ≠ 15) : GC (ju M a i v) := fun b hb => by
  rw [ju_c M v (kd_ne (by rw [hb, hk]; exact fun q => h0 q.symm))]
  exact h b hb
theorem GC.m {M : jm} {v i : Int} {a : Nat} (h : GC M) (h0 : (11 : Int) ≠ i) : GC (ju M a i v) := fun b hb => by
  rw [ju_i M v h0]
  exact h b hb
/-- the logs are at most so long -/
noncomputable def LC (M : jm) (L : Int) : Prop := ∀ a : Nat, kd a = 27 → M a 5 ≤ L
theorem LC.le {M : jm} {L L' : Int} (h : LC M L) (hl : L ≤ L') : LC M L' := fun a ha => Int.le_trans (h a ha) hl
theorem LC.fr {W : List (Nat × Nat)} {T M : jm} {L : Int} (h : LC T L) (f : FR W T M) (h1 : ksep W [(27, 5)] = true) : LC M L := fun a ha => by
  rw [f.s h1 ha 5 (by decide) 5 (Or.inr rfl)]
  exact h a ha
theorem LC.u {M : jm} {L v : Int} {a : Nat} (h : LC M L) (hv : v ≤ L) : LC (ju M a 5 v) L := fun b hb => by
  by_cases hq : b = a
  · subst hq
    rw [ju_same]
    exact hv
  · rw [ju_c M v hq]
    exact h b hb
theorem LC.n {M : jm} {L v i : Int} {a K : Nat} (h : LC M L) (hk : kd a = K) (h0 : K ≠ 27) : LC (ju M a i v) L := fun b hb => by
  rw [ju_c M v (kd_ne (by rw [hb, hk]; exact fun q => h0 q.symm))]
  exact h b hb
theorem LC.m {M : jm} {L v i : Int} {a : Nat} (h : LC M L) (h0 : (5 : Int) ≠ i) : LC (ju M a i v) L := fun b hb => by
  rw [ju_i M v h0]
  exact h b hb
/-- jumps of the rules that are in force name chains -/
noncomputable def PC (M : jm) : Prop := ∀ i : Int, 0 ≤ i → i < M (M 421 2).toNat 2 → (M ((M 421 2).toNat + 1) i = 8 ∨ M ((M 421 2).toNat + 1) i = 9) → 0 ≤ M ((M 421 2).toNat + 2) i ∧ M ((M 421 2).toNat + 2) i ≤ 15
theorem PC.fr {W : List (Nat × Nat)} {T M : jm} (h : PC T) (hC : CI T) (f : FR W T M) (h1 : ksep W [(22, 2), (47, 2), (51, 1000), (48, 1000)] = true) : PC M := by
  have e : M 421 2 = T 421 2 := f.s h1 (show kd 421 = 22 from rfl) 2 (by decide) 2 (Or.inr rfl)
  have k : kd (T 421 2).toNat = 47 := CI.x hC (show kd 421 = 22 from rfl) 2 rfl (by decide)
  have q1 := (kf_47_0 k).2
  have q2 := (kf_47_1 k).2
  intro i h0 hs
  rw [e] at hs ⊢
  rw [f.s h1 k 2 (by decide) 2 (Or.inr rfl)] at hs
  rw [f.s h1 q1 1000 (by decide) i (Or.inl rfl), f.s h1 q2 1000 (by decide) i (Or.inl rfl)]
  exact h i h0 hs
theorem PC.at {M : jm} (h : PC M) {v i o a : Int} (e : M 421 2 = v) (ho : o = 63 ∨ ((0 ≤ i ∧ i < M v.toNat 2) ∧ o = M (v.toNat + 1) i)) (ha : a = 0 ∨ ((0 ≤ i ∧ i < M v.toNat 2) ∧ a = M (v.toNat + 2) i)) : (o ≠ 8 ∧ o ≠ 9) ∨ (0 ≤ a ∧ a ≤ 15) := by
  rcases ho with ho | ⟨h1, h2⟩
  · left; omega
  · rcases ha with ha | ⟨h3, h4⟩
    · right; omega
    · have q := h i h1.1 (by rw [e]; exact h1.2)
      rw [e, ← h2, ← h4] at q
      by_cases h8 : o = 8 ∨ o = 9
      · exact Or.inr (q h8)
      · left; omega
theorem pk0 : ∀ a, a < 598 → kd a = 47 → a = 414 ∨ a = 429 := by decide +kernel
theorem pk {a : Nat} (h : kd a = 47) : a = 414 ∨ a = 429 := pk0 a (kd_lt (by rw [h]; decide)) h
theorem pk5 : ∀ d, d < 5 → (47 ≤ kd (414 + d) ∧ kd (414 + d) ≤ 51) ∧ 47 ≤ kd (429 + d) ∧ kd (429 + d) ≤ 51 := by decide +kernel
theorem pkd {a : Nat} (h : a = 414 ∨ a = 429) {d : Nat} (hd : d < 5) : 47 ≤ kd (a + d) ∧ kd (a + d) ≤ 51 := by
  rcases h with rfl | rfl
  · exact (pk5 d hd).1
  · exact (pk5 d hd).2
/-- the rules that are in force are G, and are not those that are being read -/
noncomputable def MP (M : jm) (G : Nat → Int → Int) : Prop := M 413 2 ≠ M 421 2 ∧ ∀ d : Nat, d < 5 → ∀ k : Int, M ((M 421 2).toNat + d) k = G d k
theorem CI.p1 {M : jm} (h : CI M) : (M 413 2).toNat = 414 ∨ (M 413 2).toNat = 429 := pk (CI.x h (show kd 413 = 44 from rfl) 2 rfl (by decide))
theorem CI.p2 {M : jm} (h : CI M) : (M 421 2).toNat = 414 ∨ (M 421 2).toNat = 429 := pk (CI.x h (show kd 421 = 22 from rfl) 2 rfl (by decide))
theorem MP.w {M : jm} {G : Nat → Int → Int} (h : MP M G) (hC : CI M) {v i x : Int} {a : Nat} (e : M 413 2 = v) (ha : v.toNat ≤ a ∧ a < v.toNat + 5) : MP (ju M a i x) G := by
  have q1 := hC.p1
  have q2 := hC.p2
  have n1 : (413 : Nat) ≠ a := by rw [← e] at ha; omega
  have n2 : (421 : Nat) ≠ a := by rw [← e] at ha; omega
  have hne := h.1
  refine ⟨by rw [ju_c M x n1, ju_c M x n2]; exact h.1, fun d hd k => ?_⟩
  rw [ju_c M x n2]
  rw [ju_c M x (by rw [← e] at ha; omega)]
  exact h.2 d hd k
theorem MP.n {M : jm} {G : Nat → Int → Int} (h : MP M G) (hC : CI M) {i x : Int} {a K : Nat} (hk : kd a = K) (h0 : K < 47 ∨ 51 < K) (h2 : i ≠ 2 ∨ (K ≠ 44 ∧ K ≠ 22)) : MP (ju M a i x) G := by
  have q2 := hC.p2
  have e1 : ju M a i x 413 2 = M 413 2 := ju_ne M x (fun q => by
    rcases h2 with r | r
    · exact r q.2.symm
    · exact r.1 (by rw [← hk, ← q.1]; rfl))
  have e2 : ju M a i x 421 2 = M 421 2 := ju_ne M x (fun q => by
    rcases h2 with r | r
    · exact r q.2.symm
    · exact r.2 (by rw [← hk, ← q.1]; rfl))
  refine ⟨by rw [e1, e2]; exact h.1, fun d hd k => ?_⟩
  rw [e2, ju_c M x (fun q => by
    have r := pkd q2 hd
    rw [q, hk] at r
    omega)]
  exact h.2 d hd k
theorem MP.fr {W : List (Nat × Nat)} {T M : jm} {G : Nat → Int → Int} (h : MP T G) (hC : CI T) (f : FR W T M) (h1 : ksep W [(44, 2), (22, 2), (47, 1000), (48, 1000), (49, 1000), (50, 1000), (51, 1000)] = true) : MP M G := by
  have q2 := hC.p2
  have e1 : M 413 2 = T 413 2 := f.s h1 (show kd 413 = 44 from rfl) 2 (by decide) 2 (Or.inr rfl)
  have e2 : M 421 2 = T 421 2 := f.s h1 (show kd 421 = 22 from rfl) 2 (by decide) 2 (Or.inr rfl)
  refine ⟨by rw [e1, e2]; exact h.1, fun d hd k => ?_⟩
  rw [e2]
  have r := pkd q2 hd
  have e3 : M ((T 421 2).toNat + d) k = T ((T 421 2).toNat + d) k := by
    obtain ⟨K, hK⟩ : ∃ K, kd ((T 421 2).toNat + d) = K := ⟨_, rfl⟩
    rw [hK] at r
    refine f.s h1 hK 1000 ?_ k (Or.inl rfl)
    rcases (show K = 47 ∨ K = 48 ∨ K = 49 ∨ K = 50 ∨ K = 51 by omega) with rfl | rfl | rfl | rfl | rfl <;> decide
  rw [e3]
  exact h.2 d hd k
theorem PC.mp {T M : jm} {G : Nat → Int → Int} (h : PC T) (h1 : MP T G) (h2 : MP M G) (e : M 421 2 = T 421 2) : PC M := by
  have g : ∀ d : Nat, d < 5 → ∀ k : Int, M ((T 421 2).toNat + d) k = T ((T 421 2).toNat + d) k := fun d hd k => by
    have := h2.2 d hd k
    rw [e] at this
    rw [this, h1.2 d hd k]
  intro i h0 hs
  rw [e] at hs ⊢
  have g0 := g 0 (by decide) 2
  rw [Nat.add_zero] at g0
  rw [g0] at hs
  rw [g 1 (by decide), g 2 (by decide)]
  exact h i h0 hs
/-- rules whose jumps name chains -/
noncomputable def PG (G : Nat → Int → Int) : Prop := ∀ i : Int, 0 ≤ i → i < G 0 2 → (G 1 i = 8 ∨ G 1 i = 9) → 0 ≤ G 2 i ∧ G 2 i ≤ 15
theorem PC.g {M : jm} {G : Nat → Int → Int} (h : MP M G) (hg : PG G) : PC M := by
  intro i h0 hs
  have g0 := h.2 0 (by decide) 2
  rw [Nat.add_zero] at g0
  rw [g0] at hs
  rw [h.2 1 (by decide), h.2 2 (by decide)]
  exact hg i h0 hs
theorem PG.o {M : jm} (h : PC M) : PG (fun d k => M ((M 421 2).toNat + d) k) := fun i h0 hs => h i h0 hs
/-- jumps before place k of the rules that are read name chains, or they are refused -/
noncomputable def JR (M : jm) (k : Int) : Prop := M 413 0 ≠ 0 ∨ ∀ j : Int, 0 ≤ j → j < k → (M ((M 413 2).toNat + 1) j = 8 ∨ M ((M 413 2).toNat + 1) j = 9) → 0 ≤ M ((M 413 2).toNat + 2) j ∧ M ((M 413 2).toNat + 2) j ≤ 15
noncomputable def PR (M : jm) : Prop := JR M (M (M 413 2).toNat 2)
theorem JR.z (M : jm) : JR M 0 := Or.inr (fun j h0 h1 => by omega)
theorem JR.f {M : jm} {k : Int} (h : M 413 0 ≠ 0) : JR M k := Or.inl h
theorem PR.f {M : jm} (h : M 413 0 ≠ 0) : PR M := Or.inl h
theorem JR.e {M : jm} {i v u : Int} (h : JR M i) (e : M 413 2 = v) (e2 : M v.toNat 2 = u) (hu : u ≤ i) : PR M := by
  rcases h with h | h
  · exact Or.inl h
  · refine Or.inr (fun j h0 h1 => h j h0 ?_)
    rw [e, e2] at h1
    omega
theorem JR.n {M : jm} {i v o : Int} (h : JR M i) (e : M 413 2 = v) (ho : o = M (v.toNat + 1) i) (hn : o ≠ 8 ∧ o ≠ 9) : JR M (i + 1) := by
  rcases h with h | h
  · exact Or.inl h
  · refine Or.inr (fun j h0 h1 h2 => ?_)
    by_cases q : j = i
    · subst q
      rw [e, ← ho] at h2
      omega
    · exact h j h0 (by omega) h2
theorem JR.w {M : jm} {i v c : Int} (h : JR M i) (hC : CI M) (e : M 413 2 = v) (hc : 0 ≤ c ∧ c ≤ 15) : JR (ju M (v.toNat + 2) i c) (i + 1) := by
  have q1 := hC.p1
  rw [e] at q1
  have n1 : (413 : Nat) ≠ v.toNat + 2 := by omega
  rcases h with h | h
  · exact Or.inl (by rw [ju_c M c n1]; exact h)
  · refine Or.inr (fun j h0 h1 h2 => ?_)
    rw [ju_c M c n1, e] at h2 ⊢
    rw [ju_c M c (show v.toNat + 1 ≠ v.toNat + 2 by omega)] at h2
    by_cases q : j = i
    · subst q
      rw [ju_same]
      exact hc
    · rw [ju_i M c q]
      have r := h j h0 (by omega)
      rw [e] at r
      exact r h2
theorem PC.sw {M : jm} {u v : Int} (h : PR M) (hC : CI M) (h0 : M 413 0 = 0) (e : M 413 2 = v) : PC (ju (ju M 421 2 v) 413 2 u) := by
  have q1 := hC.p1
  rw [e] at q1
  have e1 : ju (ju M 421 2 v) 413 2 u 421 2 = v := by rw [ju_c _ u (by decide), ju_same]
  have g : ∀ d : Nat, d < 5 → ∀ k : Int, ju (ju M 421 2 v) 413 2 u (v.toNat + d) k = M (v.toNat + d) k := fun d hd k => by rw [ju_c _ u (by omega), ju_c M v (by omega)]
  intro i hi hs
  rw [e1] at hs ⊢
  have g0 := g 0 (by decide) 2
  rw [Nat.add_zero] at g0
  rw [g0] at hs
  rw [g 1 (by decide), g 2 (by decide)]
  rcases h with h | h
  · exact absurd h0 h
  · rw [e] at h
    exact h i hi hs
theorem FR.cpy {W : List (Nat × Nat)} {T M : jm} (h : FR W T M) {a d Kd : Nat} {sp dp n : Int} (hd : kd d = Kd) (h0 : ∀ i : Int, kw W Kd i = true) : FR W T (jcpy M a sp d dp n) := fun b k hb => (jcpy_ne M (fun q => by rw [q.1, hd, h0] at hb; exact absurd hb (by decide))).trans (h b k hb)
end
section
/-! ===== texts ===== -/
noncomputable abbrev HA (A : Nat → Option (Nat × (Nat → Int32))) : Prop := Nonempty (PLift ((A 300).isSome = true))
theorem HA_h {A : Nat → Option (Nat × (Nat → Int32))} (h : HA A) : (A 300).isSome = true := by
  obtain ⟨x⟩ := h
  exact x.down
noncomputable def sK (a : Nat) : Bool := Nat.ble 1000100 a && Nat.blt a 1000116
noncomputable def bK (a : Nat) : Bool := Nat.ble 1000200 a && Nat.blt a 1000216
theorem sK_r {a : Nat} (h : sK a = true) : 1000100 ≤ a ∧ a < 1000116 := by
  unfold sK at h
  rw [Bool.and_eq_true] at h
  exact ⟨Nat.ble_eq.mp h.1, Nat.blt_eq.mp h.2⟩
theorem bK_r {a : Nat} (h : bK a = true) : 1000200 ≤ a ∧ a < 1000216 := by
  unfold bK at h
  rw [Bool.and_eq_true] at h
  exact ⟨Nat.ble_eq.mp h.1, Nat.blt_eq.mp h.2⟩
theorem sK_b {a : Nat} (h : sK a = true) : bK (a + 100) = true := by
  have := sK_r h
  unfold bK
  rw [Bool.and_eq_true]
  exact ⟨Nat.ble_eq.mpr (by omega), Nat.blt_eq.mpr (by omega)⟩
noncomputable def slb (b : Nat) : Int := ((xS_len.getD (b - 1000000 - 200) 0 : Nat) : Int)
noncomputable def sbv (b : Nat) (i : Int) : Int := ((xS_byt.getD (b - 1000000 - 200) []).getD i.toNat 0).toInt
theorem slb0 : ∀ k, k < 16 → xS_len.getD k 0 ≤ 300 ∧ Int32.ofNat (xS_len.getD k 0) = Int32.ofInt ((xS_len.getD k 0 : Nat) : Int) := by decide +kernel
theorem slb_r {b : Nat} (h : bK b = true) : 0 ≤ slb b ∧ slb b ≤ 300 := by
  have := bK_r h
  have q := (slb0 (b - 1000000 - 200) (by omega)).1
  unfold slb
  omega
theorem sbv0 : ∀ k, k < 16 → ∀ i, i < xS_len.getD k 0 → (0 : Int) ≤ ((xS_byt.getD k []).getD i 0).toInt ∧ ((xS_byt.getD k []).getD i 0).toInt ≤ 127 := by decide +kernel
theorem sbv_r {b : Nat} {i : Int} (h : bK b = true) (h0 : 0 ≤ i) (h1 : i < slb b) : 0 ≤ sbv b i ∧ sbv b i ≤ 127 := by
  have := bK_r h
  unfold slb at h1
  exact sbv0 (b - 1000000 - 200) (by omega) i.toNat (by omega)
section ST
variable {A : Nat → Option (Nat × (Nat → Int32))} {D : Nat} {m : ix_M} {pc : Nat} {ls : ix_L} {st : List Value} {M : jm} {Q : Option Value → jm → Prop}
theorem jobjn (M : jm) {a : Nat} (h : xNc ≤ a) : ix_obj (jH M) a = none := by
  unfold ix_obj
  rw [show Nat.blt a (jH M).1 = false from by
    cases hb : Nat.blt a (jH M).1 with
    | false => rfl
    | true => exact absurd (Nat.blt_eq.mp hb) (Nat.not_lt.mpr h)]
  rfl
theorem xNc_le {a : Nat} (h : 1000000 ≤ a) : xNc ≤ a := Nat.le_trans (by decide) h
theorem blt_f {a b : Nat} (h : b ≤ a) : Nat.blt a b = false := by
  cases hb : Nat.blt a b with
  | false => rfl
  | true => have := Nat.blt_eq.mp hb; omega
theorem sK_o (A : Nat → Option (Nat × (Nat → Int32))) {a : Nat} (h : sK a = true) : ix_cno (xT A) a = some (a - 1000000 + 100) := by
  have hr := sK_r h
  unfold ix_cno
  rw [blt_f (by omega), cond_false]
  obtain ⟨k, hk⟩ : ∃ k, a - 1000000 = k := ⟨_, rfl⟩
  rw [hk]
  show xT_O k = some (k + 100)
  unfold xT_O
  rw [show (Nat.ble 100 k && Nat.blt k 116) = true from by rw [Bool.and_eq_true]; exact ⟨Nat.ble_eq.mpr (by omega), Nat.blt_eq.mpr (by omega)⟩]
  rfl
theorem bK_b (A : Nat → Option (Nat × (Nat → Int32))) {b : Nat} (h : bK b = true) : ix_cnb (xT A) b = some (xS_len.getD (b - 1000000 - 200) 0, fun j => (xS_byt.getD (b - 1000000 - 200) []).getD j 0) := by
  have hr := bK_r h
  unfold ix_cnb
  rw [blt_f (by omega), cond_false]
  obtain ⟨k, hk⟩ : ∃ k, b - 1000000 = k := ⟨_, rfl⟩
  rw [hk]
  show xT_B k = some (xS_len.getD (k - 200) 0, fun j => (xS_byt.getD (k - 200) []).getD j 0)
  unfold xT_B
  rw [show (Nat.ble 200 k && Nat.blt k 216) = true from by rw [Bool.and_eq_true]; exact ⟨Nat.ble_eq.mpr (by omega), Nat.blt_eq.mpr (by omega)⟩]
  rfl
theorem xT_A9 (A : Nat → Option (Nat × (Nat → Int32))) (j : Nat) : xT_A A (j + 9) = none := rfl
theorem bK_s (A : Nat → Option (Nat × (Nat → Int32))) {b : Nat} (h : bK b = true) : ix_cns (xT A) b = none := by
  have hr := bK_r h
  unfold ix_cns
  rw [blt_f (by omega), cond_false]
  obtain ⟨k, hk⟩ : ∃ k, b - 1000000 = k + 9 := ⟨b - 1000000 - 9, by omega⟩
  rw [hk]
  exact xT_A9 A k
theorem jr.ldcs {idx a : Nat} (hi : m.2.2.2.2.2.2 pc = some (.ldc idx)) (hk : ix_tK (xT A) m.1 idx = some (.ref a)) (k : jr A D m (pc + 2) ls (.ref a :: st) M Q) : jr A D m pc ls st M Q := jr_sem hi (fun f => by simp [ix_sem, ix_ret, ix_alu, ix_loc, ix_hp, ix_len, hk]) k
theorem jr.gsv {idx a : Nat} (hi : m.2.2.2.2.2.2 pc = some (.getfield idx)) (hF : ix_tF (xT A) m.1 idx = none) (hG : ix_tG (xT A) m.1 idx = some true) (h : sK a = true) (k : jr A D m (pc + 3) ls (.ref (a + 100) :: st) M Q) : jr A D m pc ls (.ref a :: st) M Q := jr_sem hi (fun f => by
  have e := sK_o A h
  have e2 : 1000000 + (a - 1000000 + 100) = a + 100 := by have := sK_r h; omega
  simp [ix_sem, ix_ret, ix_alu, ix_loc, ix_hp, ix_len, hF, hG, e, e2]) k
theorem jr.gsc {idx a : Nat} (hi : m.2.2.2.2.2.2 pc = some (.getfield idx)) (hF : ix_tF (xT A) m.1 idx = none) (hG : ix_tG (xT A) m.1 idx = some false) (h : sK a = true) (k : jr A D m (pc + 3) ls (.int (Int32.ofInt 0) :: st) M Q) : jr A D m pc ls (.ref a :: st) M Q := jr_sem hi (fun f => by
  have e := sK_o A h
  show _ = some (Sum.inl (pc + 3, ls, Value.int 0 :: st, jH M))
  simp [ix_sem, ix_ret, ix_alu, ix_loc, ix_hp, ix_len, hF, hG, e]) k
theorem jr.blen {b : Nat} (v : Int) (hi : m.2.2.2.2.2.2 pc = some .arraylength) (h : bK b = true) (hv : slb b = v) (k : jr A D m (pc + 1) ls (.int (Int32.ofInt v) :: st) M Q) : jr A D m pc ls (.ref b :: st) M Q := jr_sem hi (fun f => by
  have hb := bK_r h
  have e1 := jarrn M (a := b) (xNc_le (by omega))
  have e2 := bK_s A h
  have e3 := bK_b A h
  have e4 : Int32.ofInt v = Int32.ofNat (xS_len.getD (b - 1000000 - 200) 0) := by rw [← hv]; exact (slb0 (b - 1000000 - 200) (by omega)).2.symm
  rw [e4]
  simp [ix_sem, ix_ret, ix_alu, ix_loc, ix_hp, ix_len, e1, e2, e3]) k
theorem jr.bald {b : Nat} {i : Int} (v : Int) (hi : m.2.2.2.2.2.2 pc = some .baload) (h : bK b = true) (h0 : 0 ≤ i) (h1 : i < slb b) (hv : sbv b i = v) (k : jr A D m (pc + 1) ls (.int (Int32.ofInt v) :: st) M Q) : jr A D m pc ls (.int (Int32.ofInt i) :: .ref b :: st) M Q := jr_sem hi (fun f => by
  have hb := bK_r h
  have e1 := jarrn M (a := b) (xNc_le (by omega))
  have e3 := bK_b A h
  have hq := slb_r h
  have hlen : xS_len.getD (b - 1000000 - 200) 0 ≤ 2000000 := by have := (slb0 (b - 1000000 - 200) (by omega)).1; omega
  obtain ⟨q1, q2⟩ := jin h0 (show i < ((xS_len.getD (b - 1000000 - 200) 0 : Nat) : Int) from h1) hlen
  have e4 : Int32.ofInt v = (xS_byt.getD (b - 1000000 - 200) []).getD i.toNat 0 := by rw [← hv]; exact Int32.ofInt_toInt _
  rw [e4]
  have hs : ix_hp (xT A) m.1 m.2.2.2.2.2.1 .baload (.int (Int32.ofInt i) :: .ref b :: st) (jH M) = some (.int ((xS_byt.getD (b - 1000000 - 200) []).getD i.toNat 0) :: st, jH M) := by
    unfold ix_hp
    simp only [e1, e3]
    rw [if_neg q1, q2]
  simp [ix_sem, ix_ret, ix_alu, ix_loc, ix_len, hs]) k
noncomputable def xfmv (A : Nat → Option (Nat × (Nat → Int32))) : Value := match A 300 with
  | none => .null
  | some q => bif Nat.beq q.1 0 then .null else .ref 1000300
theorem xfmv_or (A : Nat → Option (Nat × (Nat → Int32))) : xfmv A = .null ∨ xfmv A = .ref 1000300 := by
  unfold xfmv
  cases A 300 with
  | none => exact Or.inl rfl
  | some q =>
    show (bif Nat.beq q.1 0 then Value.null else Value.ref 1000300) = .null ∨ (bif Nat.beq q.1 0 then Value.null else Value.ref 1000300) = .ref 1000300
    cases Nat.beq q.1 0
    · exact Or.inr rfl
    · exact Or.inl rfl
theorem jr.gfm [hA : HA A] {idx : Nat} (hi : m.2.2.2.2.2.2 pc = some (.getstatic idx)) (hs : ix_tS (xT A) m.1 idx = (match A 300 with
  | none => none
  | some q => bif Nat.beq q.1 0 then some .null else some (.ref 1000300))) (k : jr A D m (pc + 3) ls (xfmv A :: st) M Q) : jr A D m pc ls st M Q := by
  refine jr.gst (v := xfmv A) hi ?_ k
  rw [hs]
  have h := HA_h hA
  unfold xfmv
  cases e : A 300 with
  | none => rw [e] at h; exact absurd h (by decide)
  | some q =>
    show (bif Nat.beq q.1 0 then some Value.null else some (Value.ref 1000300)) = some (bif Nat.beq q.1 0 then Value.null else Value.ref 1000300)
    cases Nat.beq q.1 0 <;> rfl
theorem ix_cal_8 {f : ix_F} {oc idx mid na a b : Nat} {st rest : List Value} {rv : Option Value} {hp hp' : ix_H} (h1 : ix_tI (xT A) oc idx = some (8, mid, na)) (h2 : st.drop na = .ref a :: rest) (h3 : ix_cno (xT A) a = some b) (h5 : ix_cats rest ≤ 8 ∧ na ≤ st.length) (hf : f mid (.ref a :: (st.take na).reverse) hp = some (rv, hp')) : ix_cal (xT A) f oc (.invokevirtual idx) st hp = some (rv.toList ++ rest, hp') := by
  unfold ix_cal
  simp [h1, h2, h3, h5, hf]
theorem jr_v8 {idx mid na a : Nat} {rest : List Value} (hi : m.2.2.2.2.2.2 pc = some (.invokevirtual idx)) (h1 : ix_tI (xT A) m.1 idx = some (8, mid, na)) (h2 : st.drop na = .ref a :: rest) (h : sK a = true) (h5 : ix_cats rest ≤ 8 ∧ na ≤ st.length) {av : List Value} (hav : .ref a :: (st.take na).reverse = av) (k : jc A D mid av M (fun rv M1 => jr A D m (pc + 3) ls (rv.toList ++ rest) M1 Q)) : jr A D m pc ls st M Q :=
  jr_cal (Or.inl ⟨_, rfl⟩) hi (fun f rv M1 hf => ix_cal_8 h1 h2 (sK_o A h) h5 (by rw [hav]; exact hf)) k
end ST
theorem j_c_ex0 : ∀ n : Nat, n < 256 → j_c (n : Int) = n := by decide +kernel
theorem j_c_ex {x : Int} (h : 0 ≤ x ∧ x ≤ 255) : j_c x = x := by
  have q := j_c_ex0 x.toNat (by omega)
  rw [Int.toNat_of_nonneg h.1] at q
  exact q
theorem j_cr0 : ∀ n : Nat, n < 256 → narrow .char (.int (Int32.ofInt (n : Int))) = .int (Int32.ofInt (n : Int)) ∧ fits .char (.int (Int32.ofInt (n : Int))) = true := by decide +kernel
theorem j_cr {x : Int} (h : 0 ≤ x ∧ x ≤ 255) : narrow .char (.int (Int32.ofInt x)) = .int (Int32.ofInt x) := by
  have q := (j_cr0 x.toNat (by omega)).1
  rw [Int.toNat_of_nonneg h.1] at q
  exact q
theorem j_fc {x : Int} (h : 0 ≤ x ∧ x ≤ 255) : fits .char (.int (Int32.ofInt x)) = true := by
  have q := (j_cr0 x.toNat (by omega)).2
  rw [Int.toNat_of_nonneg h.1] at q
  exact q
end
section
/-! ===== the class's methods: small ones ===== -/
theorem c_Packet_isThere {A : Nat → Option (Nat × (Nat → Int32))} {Q : Option Value → jm → Prop} {M : jm} (hC_M : CI M) {t : Nat} (k_t : kd t = 33) (q : ∀ (r : Int), 0 ≤ r ∧ r ≤ 1 → ((r = 0 ∧ M t 1 = -1) ∨ (r = 1 ∧ M t 1 ≠ -1)) → Q (some (.int (Int32.ofInt r))) M) : jc A 1 190 [.ref (t)] M Q := by
  refine jc_of (m := xm_190) rfl (Nat.le_of_ble_eq_true rfl) rfl ?_
  refine jr.aload_n rfl rfl ?_
  obtain ⟨v1, e1⟩ : ∃ z_, M t 1 = z_ := ⟨_, rfl⟩
  have b1 : (-1) ≤ v1 ∧ v1 ≤ 400 := by rw [← e1]; exact (CI.r hC_M k_t (by decide) 1)
  refine jr.getf (i := 1) (x := v1) (v := .int (Int32.ofInt (v1))) rfl rfl (Nat.lt_trans (kx_33 k_t).1 (by decide)) (kx_33 k_t).2 (by decide) rfl rfl e1 rfl ?_
  refine jr.iconst rfl ?_
  refine jr.icmp_eq rfl rfl (by omega) (by omega) (fun h5 => ?_) (fun h5 => ?_)
  · refine jr.iconst rfl ?_
    exact jr.ireturn rfl rfl rfl (q _ (by omega) (by have hq0 : M t 1 = v1 := e1; omega))
  · have sx5 : (0 : Int) ≤ v1 := by omega
    refine jr.iconst rfl ?_
    refine jr.goto rfl rfl ?_
    exact jr.ireturn rfl rfl rfl (q _ (by omega) (by have hq0 : M t 1 = v1 := e1; omega))
theorem c_Packet_byteAt {A : Nat → Option (Nat × (Nat → Int32))} {Q : Option Value → jm → Prop} {M : jm} (hC_M : CI M) {t : Nat} (k_t : kd t = 33) {x : Int} (h_x : (-2147483648) ≤ x ∧ x ≤ 2147483647) (q : ∀ (r : Int), (-1) ≤ r ∧ r ≤ 255 → Q (some (.int (Int32.ofInt r))) M) : jc A 1 192 [.ref (t), .int (Int32.ofInt (x))] M Q := by
  refine jc_of (m := xm_192) rfl (Nat.le_of_ble_eq_true rfl) rfl ?_
  refine jr.iload_n rfl rfl ?_
  refine jr.if_lt rfl rfl (by omega) (fun h1 => ?_) (fun h1 => ?_)
  · refine jr.iconst rfl ?_
    exact jr.ireturn rfl rfl rfl (q _ (by omega) )
  · refine jr.iload_n rfl rfl ?_
    refine jr.aload_n rfl rfl ?_
    obtain ⟨v1, e1⟩ : ∃ z_, M t 1 = z_ := ⟨_, rfl⟩
    have b1 : (-1) ≤ v1 ∧ v1 ≤ 400 := by rw [← e1]; exact (CI.r hC_M k_t (by decide) 1)
    refine jr.getf (i := 1) (x := v1) (v := .int (Int32.ofInt (v1))) rfl rfl (Nat.lt_trans (kx_33 k_t).1 (by decide)) (kx_33 k_t).2 (by decide) rfl rfl e1 rfl ?_
    refine jr.icmp_ge rfl rfl (by omega) (by omega) (fun h9 => ?_) (fun h9 => ?_)
    · refine jr.iconst rfl ?_
      exact jr.ireturn rfl rfl rfl (q _ (by omega) )
    · refine jr.aload_n rfl rfl ?_
      have k2 := kf_33_0 k_t
      refine jr.getf (i := 0) (v := .ref (t + 1)) rfl rfl (Nat.lt_trans (kx_33 k_t).1 (by decide)) (kx_33 k_t).2 (by decide) rfl rfl rfl (jval_ref rfl k2.1) ?_
      refine jr.iload_n rfl rfl ?_
      obtain ⟨v3, e3⟩ : ∃ z_, M ((t + 1)) x = z_ := ⟨_, rfl⟩
      have b3 : (-1) ≤ v3 ∧ v3 ≤ 255 := by rw [← e3]; exact (CI.r hC_M k2.2 (by decide) x)
      refine jr.iald (i := x) (x := v3) rfl (Nat.lt_trans (kx_34 k2.2).1 (by decide)) (kx_34 k2.2).2 (by decide) (by omega) (by omega) e3 ?_
      refine jr.goto rfl rfl ?_
      exact jr.ireturn rfl rfl rfl (q _ (by omega) )
theorem c_Packet_hasByte {A : Nat → Option (Nat × (Nat → Int32))} {Q : Option Value → jm → Prop} {M : jm} (hC_M : CI M) {t : Nat} (k_t : kd t = 33) {x : Int} (h_x : (-9223372036854775808) ≤ x ∧ x ≤ 9223372036854775807) (q : ∀ (r : Int), 0 ≤ r ∧ r ≤ 1 → (r = 0 ∨ (0 ≤ x ∧ x ≤ 399)) → Q (some (.int (Int32.ofInt r))) M) : jc A 1 191 [.ref (t), .long (Int64.ofInt (x))] M Q := by
  refine jc_of (m := xm_191) rfl (Nat.le_of_ble_eq_true rfl) rfl ?_
  refine jr.lload_n rfl rfl ?_
  refine jr.lconst (x := 0) rfl (by decide) ?_
  refine jr.lcmp_lt rfl rfl rfl (by omega) (by omega) (fun h2 => ?_) (fun h2 => ?_)
  · refine jr.iconst rfl ?_
    exact jr.ireturn rfl rfl rfl (q _ (by omega) (by omega))
  · refine jr.lload_n rfl rfl ?_
    refine jr.aload_n rfl rfl ?_
    obtain ⟨v1, e1⟩ : ∃ z_, M t 1 = z_ := ⟨_, rfl⟩
    have b1 : (-1) ≤ v1 ∧ v1 ≤ 400 := by rw [← e1]; exact (CI.r hC_M k_t (by decide) 1)
    refine jr.getf (i := 1) (x := v1) (v := .int (Int32.ofInt (v1))) rfl rfl (Nat.lt_trans (kx_33 k_t).1 (by decide)) (kx_33 k_t).2 (by decide) rfl rfl e1 rfl ?_
    refine jr.i2l rfl (by omega) ?_
    refine jr.lcmp_ge rfl rfl rfl (by omega) (by omega) (fun h12 => ?_) (fun h12 => ?_)
    · refine jr.iconst rfl ?_
      exact jr.ireturn rfl rfl rfl (q _ (by omega) (by omega))
    · refine jr.iconst rfl ?_
      refine jr.goto rfl rfl ?_
      exact jr.ireturn rfl rfl rfl (q _ (by omega) (by omega))
theorem c_Row_hasItem {A : Nat → Option (Nat × (Nat → Int32))} {Q : Option Value → jm → Prop} {M : jm} (hC_M : CI M) {t : Nat} (k_t : kd t = 52) {x : Int} (h_x : (-9223372036854775808) ≤ x ∧ x ≤ 9223372036854775807) (q : ∀ (r : Int), 0 ≤ r ∧ r ≤ 1 → (r = 0 ∨ (0 ≤ x ∧ x ≤ 39)) → Q (some (.int (Int32.ofInt r))) M) : jc A 1 233 [.ref (t), .long (Int64.ofInt (x))] M Q := by
  refine jc_of (m := xm_233) rfl (Nat.le_of_ble_eq_true rfl) rfl ?_
  refine jr.lload_n rfl rfl ?_
  refine jr.lconst (x := 0) rfl (by decide) ?_
  refine jr.lcmp_lt rfl rfl rfl (by omega) (by omega) (fun h2 => ?_) (fun h2 => ?_)
  · refine jr.iconst rfl ?_
    exact jr.ireturn rfl rfl rfl (q _ (by omega) (by omega))
  · refine jr.lload_n rfl rfl ?_
    refine jr.aload_n rfl rfl ?_
    obtain ⟨v1, e1⟩ : ∃ z_, M t 1 = z_ := ⟨_, rfl⟩
    have b1 : 0 ≤ v1 ∧ v1 ≤ 40 := by rw [← e1]; exact (CI.r hC_M k_t (by decide) 1)
    refine jr.getf (i := 1) (x := v1) (v := .int (Int32.ofInt (v1))) rfl rfl (Nat.lt_trans (kx_52 k_t).1 (by decide)) (kx_52 k_t).2 (by decide) rfl rfl e1 rfl ?_
    refine jr.i2l rfl (by omega) ?_
    refine jr.lcmp_ge rfl rfl rfl (by omega) (by omega) (fun h12 => ?_) (fun h12 => ?_)
    · refine jr.iconst rfl ?_
      exact jr.ireturn rfl rfl rfl (q _ (by omega) (by omega))
    · refine jr.iconst rfl ?_
      refine jr.goto rfl rfl ?_
      exact jr.ireturn rfl rfl rfl (q _ (by omega) (by omega))
theorem c_Row_isOfHeaders {A : Nat → Option (Nat × (Nat → Int32))} {Q : Option Value → jm → Prop} {M : jm} (hC_M : CI M) {t : Nat} (k_t : kd t = 52) (q : ∀ (r : Int), 0 ≤ r ∧ r ≤ 1 → Q (some (.int (Int32.ofInt r))) M) : jc A 1 234 [.ref (t)] M Q := by
  refine jc_of (m := xm_234) rfl (Nat.le_of_ble_eq_true rfl) rfl ?_
  refine jr.aload_n rfl rfl ?_
  obtain ⟨v1, e1⟩ : ∃ z_, M t 0 = z_ := ⟨_, rfl⟩
  have b1 : (-2147483648) ≤ v1 ∧ v1 ≤ 2147483647 := by rw [← e1]; exact (CI.r hC_M k_t (by decide) 0)
  refine jr.getf (i := 0) (x := v1) (v := .int (Int32.ofInt (v1))) rfl rfl (Nat.lt_trans (kx_52 k_t).1 (by decide)) (kx_52 k_t).2 (by decide) rfl rfl e1 rfl ?_
  refine jr.iconst rfl ?_
  refine jr.icmp_lt rfl rfl (by omega) (by omega) (fun h5 => ?_) (fun h5 => ?_)
  · refine jr.iconst rfl ?_
    exact jr.ireturn rfl rfl rfl (q _ (by omega) )
  · refine jr.iconst rfl ?_
    refine jr.goto rfl rfl ?_
    exact jr.ireturn rfl rfl rfl (q _ (by omega) )
theorem c_PacketWall_countGatherings_L4 {A : Nat → Option (Nat × (Nat → Int32))} {Q : Option Value → jm → Prop} {M : jm} (hC_M : CI M) (q : ∀ (r : Int), 0 ≤ r ∧ r ≤ 8 → Q (some (.int (Int32.ofInt r))) M) : ∀ (nM : Nat) (c : Int) (i : Int), 0 ≤ c ∧ c ≤ 8 → 0 ≤ i ∧ i ≤ 8 → (c ≤ i) → 8 - i ≤ nM → jr A 0 xm_44 4 [(1, .int (Int32.ofInt (c))), (2, .int (Int32.ofInt (i))), (0, .ref (0))] [] M Q := by
  intro nM
  induction nM using Nat.strongRecOn with
  | ind nM ih =>
    intro c i h_c h_i hy0 hm
    refine jr.iload_n rfl rfl ?_
    refine jr.bipush rfl (by decide) ?_
    refine jr.icmp_ge rfl rfl (by omega) (by omega) (fun h7 => ?_) (fun h7 => ?_)
    · refine jr.iload_n rfl rfl ?_
      exact jr.ireturn rfl rfl rfl (q _ (by omega) )
    · refine jr.iload_n rfl rfl ?_
      refine jr.aload_n rfl rfl ?_
      refine jr.getf (i := 5) (v := .ref 10) rfl rfl (by decide) rfl (by decide) rfl rfl rfl rfl ?_
      refine jr.iload_n rfl rfl ?_
      have k1 := kxe_40 (a := 10) rfl (i := i) (by omega) (by omega)
      refine jr.aald (c := (xe 10 i)) rfl (by decide) rfl (by decide) (by decide) rfl (by decide) (by omega) (by omega) k1.1 ?_
      obtain ⟨v2, e2⟩ : ∃ z_, M ((xe 10 i)) 0 = z_ := ⟨_, rfl⟩
      have b2 : 0 ≤ v2 ∧ v2 ≤ 1 := by rw [← e2]; exact (CI.r hC_M k1.2 (by decide) 0)
      refine jr.getf (i := 0) (x := v2) (v := .int (Int32.ofInt (v2))) rfl rfl (Nat.lt_trans (kx_15 k1.2).1 (by decide)) (kx_15 k1.2).2 (by decide) rfl rfl e2 rfl ?_
      refine jr.if_eq rfl rfl (by omega) (fun h20 => ?_) (fun h20 => ?_)
      · refine jr.iconst rfl ?_
        refine jr.iadd rfl ?_
        refine jr.istore_n rfl (by decide) rfl ?_
        refine jr.iinc rfl rfl (by decide) rfl ?_
        refine jr.goto rfl rfl ?_
        refine jr.pick [1, 0, 2] rfl rfl ?_
        exact ih (nM - 1) (by omega) (c + 0) (i + 1) (by omega) (by omega) (by omega) (by omega)
      · have sx20 : (1 : Int) ≤ v2 := by omega
        refine jr.iconst rfl ?_
        refine jr.goto rfl rfl ?_
        refine jr.iadd rfl ?_
        refine jr.istore_n rfl (by decide) rfl ?_
        refine jr.iinc rfl rfl (by decide) rfl ?_
        refine jr.goto rfl rfl ?_
        refine jr.pick [1, 0, 2] rfl rfl ?_
        exact ih (nM - 1) (by omega) (c + 1) (i + 1) (by omega) (by omega) (by omega) (by omega)
theorem c_PacketWall_countGatherings {A : Nat → Option (Nat × (Nat → Int32))} {Q : Option Value → jm → Prop} {M : jm} (hC_M : CI M) (q : ∀ (r : Int), 0 ≤ r ∧ r ≤ 8 → Q (some (.int (Int32.ofInt r))) M) : jc A 1 44 [.ref (0)] M Q := by
  refine jc_of (m := xm_44) rfl (Nat.le_of_ble_eq_true rfl) rfl ?_
  refine jr.iconst rfl ?_
  refine jr.istore_n rfl (by decide) rfl ?_
  refine jr.iconst rfl ?_
  refine jr.istore_n rfl (by decide) rfl ?_
  refine jr.pick [1, 0, 2] rfl rfl ?_
  exact c_PacketWall_countGatherings_L4 hC_M  q 8 0 0 (by omega) (by omega) (by omega) (by omega)
theorem c_Flows_isLive {A : Nat → Option (Nat × (Nat → Int32))} {Q : Option Value → jm → Prop} {M : jm} (hC_M : CI M) {x : Int} (h_x : (-2147483648) ≤ x ∧ x ≤ 2147483647) (q : ∀ (r : Int), 0 ≤ r ∧ r ≤ 1 → (r = 0 ∨ (0 ≤ x ∧ x ≤ 23)) → Q (some (.int (Int32.ofInt r))) M) : jc A 1 74 [.ref (15), .int (Int32.ofInt (x))] M Q := by
  refine jc_of (m := xm_74) rfl (Nat.le_of_ble_eq_true rfl) rfl ?_
  refine jr.iload_n rfl rfl ?_
  refine jr.if_lt rfl rfl (by omega) (fun h1 => ?_) (fun h1 => ?_)
  · refine jr.iconst rfl ?_
    exact jr.ireturn rfl rfl rfl (q _ (by omega) (by omega))
  · refine jr.iload_n rfl rfl ?_
    refine jr.bipush rfl (by decide) ?_
    refine jr.icmp_ge rfl rfl (by omega) (by omega) (fun h7 => ?_) (fun h7 => ?_)
    · refine jr.iconst rfl ?_
      exact jr.ireturn rfl rfl rfl (q _ (by omega) (by omega))
    · refine jr.aload_n rfl rfl ?_
      obtain ⟨v1, e1⟩ : ∃ z_, M 15 0 = z_ := ⟨_, rfl⟩
      have b1 : 16 ≤ v1 ∧ v1 ≤ 17 := by rw [← e1]; exact (CI.r hC_M (show kd 15 = 9 from rfl) (by decide) 0)
      have k2 : kd (v1).toNat = 13 := by rcases (show v1 = 16 ∨ v1 = 17 by omega) with h | h <;> (rw [h]; rfl)
      refine jr.getf (i := 0) (x := v1) (v := .ref (v1.toNat)) rfl rfl (by decide) rfl (by decide) rfl rfl e1 rfl ?_
      refine jr.iload_n rfl rfl ?_
      have k3 := kxe_13 k2 (i := x) (by omega) (by omega)
      refine jr.aald (c := (xe ((v1.toNat)) x)) rfl (Nat.lt_trans (kx_13 k2).1 (by decide)) (kx_13 k2).2 (by decide) (by decide) rfl (by decide) (by omega) (by omega) k3.1 ?_
      obtain ⟨v4, e4⟩ : ∃ z_, M ((xe ((v1.toNat)) x)) 0 = z_ := ⟨_, rfl⟩
      have b4 : 0 ≤ v4 ∧ v4 ≤ 1 := by rw [← e4]; exact (CI.r hC_M k3.2 (by decide) 0)
      refine jr.getf (i := 0) (x := v4) (v := .int (Int32.ofInt (v4))) rfl rfl (Nat.lt_trans (kx_1 k3.2).1 (by decide)) (kx_1 k3.2).2 (by decide) rfl rfl e4 rfl ?_
      refine jr.if_eq rfl rfl (by omega) (fun h19 => ?_) (fun h19 => ?_)
      · refine jr.iconst rfl ?_
        exact jr.ireturn rfl rfl rfl (q _ (by omega) (by omega))
      · have sx19 : (1 : Int) ≤ v4 := by omega
        refine jr.iconst rfl ?_
        refine jr.goto rfl rfl ?_
        exact jr.ireturn rfl rfl rfl (q _ (by omega) (by omega))
theorem c_Flows_countLive_L4 {A : Nat → Option (Nat × (Nat → Int32))} {Q : Option Value → jm → Prop} {M : jm} (hC_M : CI M) (q : ∀ (r : Int), 0 ≤ r ∧ r ≤ 24 → Q (some (.int (Int32.ofInt r))) M) : ∀ (nM : Nat) (c : Int) (i : Int), 0 ≤ c ∧ c ≤ 24 → 0 ≤ i ∧ i ≤ 24 → (c ≤ i) → 24 - i ≤ nM → jr A 0 xm_75 4 [(1, .int (Int32.ofInt (c))), (2, .int (Int32.ofInt (i))), (0, .ref (15))] [] M Q := by
  intro nM
  induction nM using Nat.strongRecOn with
  | ind nM ih =>
    intro c i h_c h_i hy0 hm
    refine jr.iload_n rfl rfl ?_
    refine jr.bipush rfl (by decide) ?_
    refine jr.icmp_ge rfl rfl (by omega) (by omega) (fun h7 => ?_) (fun h7 => ?_)
    · refine jr.iload_n rfl rfl ?_
      exact jr.ireturn rfl rfl rfl (q _ (by omega) )
    · refine jr.iload_n rfl rfl ?_
      refine jr.aload_n rfl rfl ?_
      obtain ⟨v1, e1⟩ : ∃ z_, M 15 0 = z_ := ⟨_, rfl⟩
      have b1 : 16 ≤ v1 ∧ v1 ≤ 17 := by rw [← e1]; exact (CI.r hC_M (show kd 15 = 9 from rfl) (by decide) 0)
      have k2 : kd (v1).toNat = 13 := by rcases (show v1 = 16 ∨ v1 = 17 by omega) with h | h <;> (rw [h]; rfl)
      refine jr.getf (i := 0) (x := v1) (v := .ref (v1.toNat)) rfl rfl (by decide) rfl (by decide) rfl rfl e1 rfl ?_
      refine jr.iload_n rfl rfl ?_
      have k3 := kxe_13 k2 (i := i) (by omega) (by omega)
      refine jr.aald (c := (xe ((v1.toNat)) i)) rfl (Nat.lt_trans (kx_13 k2).1 (by decide)) (kx_13 k2).2 (by decide) (by decide) rfl (by decide) (by omega) (by omega) k3.1 ?_
      obtain ⟨v4, e4⟩ : ∃ z_, M ((xe ((v1.toNat)) i)) 0 = z_ := ⟨_, rfl⟩
      have b4 : 0 ≤ v4 ∧ v4 ≤ 1 := by rw [← e4]; exact (CI.r hC_M k3.2 (by decide) 0)
      refine jr.getf (i := 0) (x := v4) (v := .int (Int32.ofInt (v4))) rfl rfl (Nat.lt_trans (kx_1 k3.2).1 (by decide)) (kx_1 k3.2).2 (by decide) rfl rfl e4 rfl ?_
      refine jr.if_eq rfl rfl (by omega) (fun h20 => ?_) (fun h20 => ?_)
      · refine jr.iconst rfl ?_
        refine jr.iadd rfl ?_
        refine jr.istore_n rfl (by decide) rfl ?_
        refine jr.iinc rfl rfl (by decide) rfl ?_
        refine jr.goto rfl rfl ?_
        refine jr.pick [1, 0, 2] rfl rfl ?_
        exact ih (nM - 1) (by omega) (c + 0) (i + 1) (by omega) (by omega) (by omega) (by omega)
      · have sx20 : (1 : Int) ≤ v4 := by omega
        refine jr.iconst rfl ?_
        refine jr.goto rfl rfl ?_
        refine jr.iadd rfl ?_
        refine jr.istore_n rfl (by decide) rfl ?_
        refine jr.iinc rfl rfl (by decide) rfl ?_
        refine jr.goto rfl rfl ?_
        refine jr.pick [1, 0, 2] rfl rfl ?_
        exact ih (nM - 1) (by omega) (c + 1) (i + 1) (by omega) (by omega) (by omega) (by omega)
theorem c_Flows_countLive {A : Nat → Option (Nat × (Nat → Int32))} {Q : Option Value → jm → Prop} {M : jm} (hC_M : CI M) (q : ∀ (r : Int), 0 ≤ r ∧ r ≤ 24 → Q (some (.int (Int32.ofInt r))) M) : jc A 1 75 [.ref (15)] M Q := by
  refine jc_of (m := xm_75) rfl (Nat.le_of_ble_eq_true rfl) rfl ?_
  refine jr.iconst rfl ?_
  refine jr.istore_n rfl (by decide) rfl ?_
  refine jr.iconst rfl ?_
  refine jr.istore_n rfl (by decide) rfl ?_
  refine jr.pick [1, 0, 2] rfl rfl ?_
  exact c_Flows_countLive_L4 hC_M  q 24 0 0 (by omega) (by omega) (by omega) (by omega)
end
section
/-! ===== the class's methods: leaves ===== -/
theorem c_PacketWall_isNetKind {A : Nat → Option (Nat × (Nat → Int32))} {Q : Option Value → jm → Prop} {M : jm} (hC_M : CI M) {x : Int} (h_x : (-2147483648) ≤ x ∧ x ≤ 2147483647) (q : ∀ (r : Int), 0 ≤ r ∧ r ≤ 1 → (r = 0 ∨ (2 ≤ x ∧ x ≤ 3)) → Q (some (.int (Int32.ofInt r))) M) : jc A 1 50 [.int (Int32.ofInt (x))] M Q := by
  refine jc_of (m := xm_50) rfl (Nat.le_of_ble_eq_true rfl) rfl ?_
  refine jr.iload_n rfl rfl ?_
  refine jr.iconst rfl ?_
  refine jr.icmp_eq rfl rfl (by omega) (by omega) (fun h2 => ?_) (fun h2 => ?_)
  · refine jr.iconst rfl ?_
    refine jr.goto rfl rfl ?_
    exact jr.ireturn rfl rfl rfl (q _ (by omega) (by omega))
  · refine jr.iload_n rfl rfl ?_
    refine jr.iconst rfl ?_
    refine jr.icmp_ne rfl rfl (by omega) (by omega) (fun h7 => ?_) (fun h7 => ?_)
    · refine jr.iconst rfl ?_
      exact jr.ireturn rfl rfl rfl (q _ (by omega) (by omega))
    · refine jr.iconst rfl ?_
      refine jr.goto rfl rfl ?_
      exact jr.ireturn rfl rfl rfl (q _ (by omega) (by omega))
theorem c_PacketWall_isCarriedKind {A : Nat → Option (Nat × (Nat → Int32))} {Q : Option Value → jm → Prop} {M : jm} (hC_M : CI M) {x : Int} (h_x : (-2147483648) ≤ x ∧ x ≤ 2147483647) (q : ∀ (r : Int), 0 ≤ r ∧ r ≤ 1 → (r = 0 ∨ (7 ≤ x ∧ x ≤ 9)) → Q (some (.int (Int32.ofInt r))) M) : jc A 1 51 [.int (Int32.ofInt (x))] M Q := by
  refine jc_of (m := xm_51) rfl (Nat.le_of_ble_eq_true rfl) rfl ?_
  refine jr.iload_n rfl rfl ?_
  refine jr.bipush rfl (by decide) ?_
  refine jr.icmp_eq rfl rfl (by omega) (by omega) (fun h3 => ?_) (fun h3 => ?_)
  · refine jr.iconst rfl ?_
    refine jr.goto rfl rfl ?_
    exact jr.ireturn rfl rfl rfl (q _ (by omega) (by omega))
  · refine jr.iload_n rfl rfl ?_
    refine jr.bipush rfl (by decide) ?_
    refine jr.icmp_eq rfl rfl (by omega) (by omega) (fun h9 => ?_) (fun h9 => ?_)
    · refine jr.iconst rfl ?_
      refine jr.goto rfl rfl ?_
      exact jr.ireturn rfl rfl rfl (q _ (by omega) (by omega))
    · refine jr.iload_n rfl rfl ?_
      refine jr.bipush rfl (by decide) ?_
      refine jr.icmp_ne rfl rfl (by omega) (by omega) (fun h15 => ?_) (fun h15 => ?_)
      · refine jr.iconst rfl ?_
        exact jr.ireturn rfl rfl rfl (q _ (by omega) (by omega))
      · refine jr.iconst rfl ?_
        refine jr.goto rfl rfl ?_
        exact jr.ireturn rfl rfl rfl (q _ (by omega) (by omega))
theorem c_PacketWall_counter {A : Nat → Option (Nat × (Nat → Int32))} {Q : Option Value → jm → Prop} {M : jm} (hC_M : CI M) {x : Int} (h_x : (-2147483648) ≤ x ∧ x ≤ 2147483647) (q : ∀ (r : Int), (-9223372036854775808) ≤ r ∧ r ≤ 9223372036854775807 → Q (some (.long (Int64.ofInt r))) M) : jc A 1 30 [.ref (0), .int (Int32.ofInt (x))] M Q := by
  refine jc_of (m := xm_30) rfl (Nat.le_of_ble_eq_true rfl) rfl ?_
  refine jr.iload_n rfl rfl ?_
  refine jr.if_lt rfl rfl (by omega) (fun h1 => ?_) (fun h1 => ?_)
  · refine jr.ldc2 (x := (-1)) rfl rfl (by decide) ?_
    refine jr.goto rfl rfl ?_
    exact jr.lreturn rfl rfl (q _ (by omega) )
  · refine jr.iload_n rfl rfl ?_
    refine jr.bipush rfl (by decide) ?_
    refine jr.icmp_lt rfl rfl (by omega) (by omega) (fun h7 => ?_) (fun h7 => ?_)
    · refine jr.aload_n rfl rfl ?_
      refine jr.getf (i := 11) (v := .ref 421) rfl rfl (by decide) rfl (by decide) rfl rfl rfl rfl ?_
      refine jr.getf (i := 1) (v := .ref 423) rfl rfl (by decide) rfl (by decide) rfl rfl rfl rfl ?_
      refine jr.getf (i := 0) (v := .ref 424) rfl rfl (by decide) rfl (by decide) rfl rfl rfl rfl ?_
      refine jr.iload_n rfl rfl ?_
      obtain ⟨v1, e1⟩ : ∃ z_, M 424 x = z_ := ⟨_, rfl⟩
      have b1 : (-9223372036854775808) ≤ v1 ∧ v1 ≤ 9223372036854775807 := by rw [← e1]; exact (CI.r hC_M (show kd 424 = 29 from rfl) (by decide) x)
      refine jr.lald (i := x) (x := v1) rfl (by decide) rfl (by decide) (by omega) (by omega) e1 ?_
      exact jr.lreturn rfl rfl (q _ (by omega) )
    · refine jr.ldc2 (x := (-1)) rfl rfl (by decide) ?_
      refine jr.goto rfl rfl ?_
      exact jr.lreturn rfl rfl (q _ (by omega) )
theorem c_PacketWall_has {A : Nat → Option (Nat × (Nat → Int32))} {Q : Option Value → jm → Prop} {M : jm} (hC_M : CI M) {x : Int} (h_x : (-2147483648) ≤ x ∧ x ≤ 2147483647) (q : ∀ (r : Int), (-2147483648) ≤ r ∧ r ≤ 2147483647 → Q (some (.int (Int32.ofInt r))) M) : jc A 1 34 [.ref (0), .int (Int32.ofInt (x))] M Q := by
  refine jc_of (m := xm_34) rfl (Nat.le_of_ble_eq_true rfl) rfl ?_
  refine jr.iload_n rfl rfl ?_
  refine jr.if_lt rfl rfl (by omega) (fun h1 => ?_) (fun h1 => ?_)
  · refine jr.bipush rfl (by decide) ?_
    refine jr.goto rfl rfl ?_
    exact jr.ireturn rfl rfl rfl (q _ (by omega) )
  · refine jr.iload_n rfl rfl ?_
    refine jr.iconst rfl ?_
    refine jr.icmp_lt rfl rfl (by omega) (by omega) (fun h6 => ?_) (fun h6 => ?_)
    · refine jr.aload_n rfl rfl ?_
      refine jr.getf (i := 11) (v := .ref 421) rfl rfl (by decide) rfl (by decide) rfl rfl rfl rfl ?_
      refine jr.getf (i := 1) (v := .ref 423) rfl rfl (by decide) rfl (by decide) rfl rfl rfl rfl ?_
      refine jr.getf (i := 1) (v := .ref 425) rfl rfl (by decide) rfl (by decide) rfl rfl rfl rfl ?_
      refine jr.iload_n rfl rfl ?_
      obtain ⟨v1, e1⟩ : ∃ z_, M 425 x = z_ := ⟨_, rfl⟩
      have b1 : (-2147483648) ≤ v1 ∧ v1 ≤ 2147483647 := by rw [← e1]; exact (CI.r hC_M (show kd 425 = 28 from rfl) (by decide) x)
      refine jr.iald (i := x) (x := v1) rfl (by decide) rfl (by decide) (by omega) (by omega) e1 ?_
      exact jr.ireturn rfl rfl rfl (q _ (by omega) )
    · refine jr.bipush rfl (by decide) ?_
      refine jr.goto rfl rfl ?_
      exact jr.ireturn rfl rfl rfl (q _ (by omega) )
theorem c_Headers_hasHeader {A : Nat → Option (Nat × (Nat → Int32))} {Q : Option Value → jm → Prop} {M : jm} (hC_M : CI M) {t : Nat} (k_t : kd t = 18) {x : Int} (h_x : (-2147483648) ≤ x ∧ x ≤ 2147483647) (q : ∀ (r : Int), 0 ≤ r ∧ r ≤ 1 → (r = 0 ∨ (0 ≤ x ∧ x ≤ 11)) → ((r = 0 ∧ (x < 0 ∨ M t 3 ≤ x)) ∨ (r = 1 ∧ 0 ≤ x ∧ x < M t 3)) → Q (some (.int (Int32.ofInt r))) M) : jc A 1 106 [.ref (t), .int (Int32.ofInt (x))] M Q := by
  refine jc_of (m := xm_106) rfl (Nat.le_of_ble_eq_true rfl) rfl ?_
  refine jr.iload_n rfl rfl ?_
  refine jr.if_lt rfl rfl (by omega) (fun h1 => ?_) (fun h1 => ?_)
  · refine jr.iconst rfl ?_
    exact jr.ireturn rfl rfl rfl (q _ (by omega) (by omega) (by omega))
  · refine jr.iload_n rfl rfl ?_
    refine jr.aload_n rfl rfl ?_
    obtain ⟨v1, e1⟩ : ∃ z_, M t 3 = z_ := ⟨_, rfl⟩
    have b1 : 0 ≤ v1 ∧ v1 ≤ 12 := by rw [← e1]; exact (CI.r hC_M k_t (by decide) 3)
    refine jr.getf (i := 3) (x := v1) (v := .int (Int32.ofInt (v1))) rfl rfl (Nat.lt_trans (kx_18 k_t).1 (by decide)) (kx_18 k_t).2 (by decide) rfl rfl e1 rfl ?_
    refine jr.icmp_ge rfl rfl (by omega) (by omega) (fun h9 => ?_) (fun h9 => ?_)
    · refine jr.iconst rfl ?_
      exact jr.ireturn rfl rfl rfl (q _ (by omega) (by omega) (by omega))
    · refine jr.iconst rfl ?_
      refine jr.goto rfl rfl ?_
      exact jr.ireturn rfl rfl rfl (q _ (by omega) (by omega) (by omega))
theorem c_Headers_kindOfLink {A : Nat → Option (Nat × (Nat → Int32))} {Q : Option Value → jm → Prop} {M : jm} (hC_M : CI M) {x : Int} (h_x : (-2147483648) ≤ x ∧ x ≤ 2147483647) (q : ∀ (r : Int), 0 ≤ r ∧ r ≤ 11 → Q (some (.int (Int32.ofInt r))) M) : jc A 1 134 [.int (Int32.ofInt (x))] M Q := by
  refine jc_of (m := xm_134) rfl (Nat.le_of_ble_eq_true rfl) rfl ?_
  refine jr.iload_n rfl rfl ?_
  rcases (show x = 4 ∨ x = 6 ∨ x = 9 ∨ (x ≠ 4 ∧ x ≠ 6 ∧ x ≠ 9) by omega) with h1 | h1 | h1 | h1
  · refine jr.lsw_k 4 rfl h1 rfl ?_
    refine jr.iconst rfl ?_
    exact jr.ireturn rfl rfl rfl (q _ (by omega) )
  · refine jr.lsw_k 6 rfl h1 rfl ?_
    refine jr.iconst rfl ?_
    exact jr.ireturn rfl rfl rfl (q _ (by omega) )
  · refine jr.lsw_k 9 rfl h1 rfl ?_
    refine jr.iconst rfl ?_
    exact jr.ireturn rfl rfl rfl (q _ (by omega) )
  · refine jr.lsw_d rfl (by omega) rfl (fun q hq => by simp only [List.mem_cons, List.not_mem_nil, or_false] at hq; rcases hq with rfl | rfl | rfl <;> (simp only; omega)) rfl ?_
    refine jr.bipush rfl (by decide) ?_
    exact jr.ireturn rfl rfl rfl (q _ (by omega) )
theorem c_Headers_kindOfNext {A : Nat → Option (Nat × (Nat → Int32))} {Q : Option Value → jm → Prop} {M : jm} (hC_M : CI M) {x : Int} (h_x : (-2147483648) ≤ x ∧ x ≤ 2147483647) {y : Int} (h_y : 0 ≤ y ∧ y ≤ 1) (q : ∀ (r : Int), 0 ≤ r ∧ r ≤ 11 → Q (some (.int (Int32.ofInt r))) M) : jc A 1 135 [.int (Int32.ofInt (x)), .int (Int32.ofInt (y))] M Q := by
  refine jc_of (m := xm_135) rfl (Nat.le_of_ble_eq_true rfl) rfl ?_
  refine jr.iload_n rfl rfl ?_
  rcases (show x = 0 ∨ x = 1 ∨ x = 4 ∨ x = 6 ∨ x = 17 ∨ x = 41 ∨ x = 43 ∨ x = 44 ∨ x = 47 ∨ (x ≠ 0 ∧ x ≠ 1 ∧ x ≠ 4 ∧ x ≠ 6 ∧ x ≠ 17 ∧ x ≠ 41 ∧ x ≠ 43 ∧ x ≠ 44 ∧ x ≠ 47) by omega) with h1 | h1 | h1 | h1 | h1 | h1 | h1 | h1 | h1 | h1
  · refine jr.lsw_k 0 rfl h1 rfl ?_
    refine jr.iload_n rfl rfl ?_
    refine jr.if_eq rfl rfl (by omega) (fun h101 => ?_) (fun h101 => ?_)
    · refine jr.bipush rfl (by decide) ?_
      exact jr.ireturn rfl rfl rfl (q _ (by omega) )
    · have sx101 : (1 : Int) ≤ y := by omega
      refine jr.iconst rfl ?_
      refine jr.goto rfl rfl ?_
      exact jr.ireturn rfl rfl rfl (q _ (by omega) )
  · refine jr.lsw_k 1 rfl h1 rfl ?_
    refine jr.bipush rfl (by decide) ?_
    exact jr.ireturn rfl rfl rfl (q _ (by omega) )
  · refine jr.lsw_k 4 rfl h1 rfl ?_
    refine jr.iconst rfl ?_
    exact jr.ireturn rfl rfl rfl (q _ (by omega) )
  · refine jr.lsw_k 6 rfl h1 rfl ?_
    refine jr.bipush rfl (by decide) ?_
    exact jr.ireturn rfl rfl rfl (q _ (by omega) )
  · refine jr.lsw_k 17 rfl h1 rfl ?_
    refine jr.bipush rfl (by decide) ?_
    exact jr.ireturn rfl rfl rfl (q _ (by omega) )
  · refine jr.lsw_k 41 rfl h1 rfl ?_
    refine jr.iconst rfl ?_
    exact jr.ireturn rfl rfl rfl (q _ (by omega) )
  · refine jr.lsw_k 43 rfl h1 rfl ?_
    refine jr.iload_n rfl rfl ?_
    refine jr.if_eq rfl rfl (by omega) (fun h112 => ?_) (fun h112 => ?_)
    · refine jr.bipush rfl (by decide) ?_
      exact jr.ireturn rfl rfl rfl (q _ (by omega) )
    · have sx112 : (1 : Int) ≤ y := by omega
      refine jr.iconst rfl ?_
      refine jr.goto rfl rfl ?_
      exact jr.ireturn rfl rfl rfl (q _ (by omega) )
  · refine jr.lsw_k 44 rfl h1 rfl ?_
    refine jr.iload_n rfl rfl ?_
    refine jr.if_eq rfl rfl (by omega) (fun h123 => ?_) (fun h123 => ?_)
    · refine jr.bipush rfl (by decide) ?_
      exact jr.ireturn rfl rfl rfl (q _ (by omega) )
    · have sx123 : (1 : Int) ≤ y := by omega
      refine jr.bipush rfl (by decide) ?_
      refine jr.goto rfl rfl ?_
      exact jr.ireturn rfl rfl rfl (q _ (by omega) )
  · refine jr.lsw_k 47 rfl h1 rfl ?_
    refine jr.bipush rfl (by decide) ?_
    exact jr.ireturn rfl rfl rfl (q _ (by omega) )
  · refine jr.lsw_d rfl (by omega) rfl (fun q hq => by simp only [List.mem_cons, List.not_mem_nil, or_false] at hq; rcases hq with rfl | rfl | rfl | rfl | rfl | rfl | rfl | rfl | rfl <;> (simp only; omega)) rfl ?_
    refine jr.bipush rfl (by decide) ?_
    exact jr.ireturn rfl rfl rfl (q _ (by omega) )
theorem c_Headers_sumOffset {A : Nat → Option (Nat × (Nat → Int32))} {Q : Option Value → jm → Prop} {M : jm} (hC_M : CI M) {x : Int} (h_x : (-2147483648) ≤ x ∧ x ≤ 2147483647) (q : ∀ (r : Int), 2 ≤ r ∧ r ≤ 16 → Q (some (.int (Int32.ofInt r))) M) : jc A 1 124 [.int (Int32.ofInt (x))] M Q := by
  refine jc_of (m := xm_124) rfl (Nat.le_of_ble_eq_true rfl) rfl ?_
  refine jr.iload_n rfl rfl ?_
  rcases (show x = 2 ∨ x = 7 ∨ x = 8 ∨ (x ≠ 2 ∧ x ≠ 7 ∧ x ≠ 8) by omega) with h1 | h1 | h1 | h1
  · refine jr.lsw_k 2 rfl h1 rfl ?_
    refine jr.bipush rfl (by decide) ?_
    exact jr.ireturn rfl rfl rfl (q _ (by omega) )
  · refine jr.lsw_k 7 rfl h1 rfl ?_
    refine jr.iconst rfl ?_
    exact jr.ireturn rfl rfl rfl (q _ (by omega) )
  · refine jr.lsw_k 8 rfl h1 rfl ?_
    refine jr.bipush rfl (by decide) ?_
    exact jr.ireturn rfl rfl rfl (q _ (by omega) )
  · refine jr.lsw_d rfl (by omega) rfl (fun q hq => by simp only [List.mem_cons, List.not_mem_nil, or_false] at hq; rcases hq with rfl | rfl | rfl <;> (simp only; omega)) rfl ?_
    refine jr.bipush rfl (by decide) ?_
    exact jr.ireturn rfl rfl rfl (q _ (by omega) )
theorem c_Headers_kindAt {A : Nat → Option (Nat × (Nat → Int32))} {Q : Option Value → jm → Prop} {M : jm} (hC_M : CI M) {t : Nat} (k_t : kd t = 18) {x : Int} (h_x : (-2147483648) ≤ x ∧ x ≤ 2147483647) (q : ∀ (r : Int), (-1) ≤ r ∧ r ≤ 11 → (r = (-1) ∨ ((0 ≤ x ∧ x ≤ 11) ∧ x < M t 3 ∧ r = M (t + 1) x)) → ((x < 0 ∨ M t 3 ≤ x) ∨ r = M (t + 1) x) → Q (some (.int (Int32.ofInt r))) M) : jc A 1 107 [.ref (t), .int (Int32.ofInt (x))] M Q := by
  refine jc_of (m := xm_107) rfl (Nat.le_of_ble_eq_true rfl) rfl ?_
  refine jr.iload_n rfl rfl ?_
  refine jr.if_lt rfl rfl (by omega) (fun h1 => ?_) (fun h1 => ?_)
  · refine jr.iconst rfl ?_
    exact jr.ireturn rfl rfl rfl (q _ (by omega) (by omega) (by omega))
  · refine jr.iload_n rfl rfl ?_
    refine jr.aload_n rfl rfl ?_
    obtain ⟨v1, e1⟩ : ∃ z_, M t 3 = z_ := ⟨_, rfl⟩
    have b1 : 0 ≤ v1 ∧ v1 ≤ 12 := by rw [← e1]; exact (CI.r hC_M k_t (by decide) 3)
    refine jr.getf (i := 3) (x := v1) (v := .int (Int32.ofInt (v1))) rfl rfl (Nat.lt_trans (kx_18 k_t).1 (by decide)) (kx_18 k_t).2 (by decide) rfl rfl e1 rfl ?_
    refine jr.icmp_ge rfl rfl (by omega) (by omega) (fun h9 => ?_) (fun h9 => ?_)
    · refine jr.iconst rfl ?_
      exact jr.ireturn rfl rfl rfl (q _ (by omega) (by omega) (by omega))
    · refine jr.aload_n rfl rfl ?_
      have k2 := kf_18_0 k_t
      refine jr.getf (i := 0) (v := .ref (t + 1)) rfl rfl (Nat.lt_trans (kx_18 k_t).1 (by decide)) (kx_18 k_t).2 (by decide) rfl rfl rfl (jval_ref rfl k2.1) ?_
      refine jr.iload_n rfl rfl ?_
      obtain ⟨v3, e3⟩ : ∃ z_, M ((t + 1)) x = z_ := ⟨_, rfl⟩
      have b3 : 0 ≤ v3 ∧ v3 ≤ 11 := by rw [← e3]; exact (CI.r hC_M k2.2 (by decide) x)
      refine jr.iald (i := x) (x := v3) rfl (Nat.lt_trans (kx_19 k2.2).1 (by decide)) (kx_19 k2.2).2 (by decide) (by omega) (by omega) e3 ?_
      refine jr.goto rfl rfl ?_
      exact jr.ireturn rfl rfl rfl (q _ (by omega) (by omega) (by omega))
noncomputable def W_c_Headers_find : List (Nat × Nat) := [(18, 4), (18, 5), (18, 6)]
theorem c_Headers_find {A : Nat → Option (Nat × (Nat → Int32))} {Q : Option Value → jm → Prop} {T : jm} {M : jm} (hC_M : CI M) (ht_M : FR W_c_Headers_find T M) {t : Nat} (k_t : kd t = 18) {x : Int} (h_x : (-2147483648) ≤ x ∧ x ≤ 2147483647) {y : Int} (h_y : (-2147483648) ≤ y ∧ y ≤ 2147483647) {z : Int} (h_z : (-2147483648) ≤ z ∧ z ≤ 2147483647) (q : ∀ (M' : jm), CI M' → FR W_c_Headers_find T M' → (M' t 4 = x) → Q none M') : jc A 1 125 [.ref (t), .int (Int32.ofInt (x)), .int (Int32.ofInt (y)), .int (Int32.ofInt (z))] M Q := by
  refine jc_of (m := xm_125) rfl (Nat.le_of_ble_eq_true rfl) rfl ?_
  refine jr.aload_n rfl rfl ?_
  refine jr.iload_n rfl rfl ?_
  refine jr.putf (i := 4) (x := x) rfl rfl (Nat.lt_trans (kx_18 k_t).1 (by decide)) (kx_18 k_t).2 (by decide) rfl rfl rfl rfl rfl ?_
  refine jr.aload_n rfl rfl ?_
  refine jr.iload_n rfl rfl ?_
  refine jr.putf (i := 5) (x := y) rfl rfl (Nat.lt_trans (kx_18 k_t).1 (by decide)) (kx_18 k_t).2 (by decide) rfl rfl rfl rfl rfl ?_
  refine jr.aload_n rfl rfl ?_
  refine jr.iload_n rfl rfl ?_
  refine jr.putf (i := 6) (x := z) rfl rfl (Nat.lt_trans (kx_18 k_t).1 (by decide)) (kx_18 k_t).2 (by decide) rfl rfl rfl rfl rfl ?_
  exact jr.vreturn rfl rfl (q _ (CI.u (CI.u (CI.u hC_M (i := 4) k_t (show (-2147483648 : Int) ≤ _ ∧ _ ≤ (2147483647 : Int) from by omega) rfl) (i := 5) k_t (show (-2147483648 : Int) ≤ _ ∧ _ ≤ (2147483647 : Int) from by omega) rfl) (i := 6) k_t (show (-2147483648 : Int) ≤ _ ∧ _ ≤ (2147483647 : Int) from by omega) rfl) (FR.o (FR.o (FR.o ht_M k_t rfl) k_t rfl) k_t rfl)  (by have hq0 : (ju (ju (ju M t 4 x) t 5 y) t 6 z) t 4 = x := ((ju_i _ _ (by decide)).trans ((ju_i _ _ (by decide)).trans (ju_same _ _ _ _))); omega))
theorem c_Program_opAt {A : Nat → Option (Nat × (Nat → Int32))} {Q : Option Value → jm → Prop} {M : jm} (hC_M : CI M) {t : Nat} (k_t : kd t = 47) {x : Int} (h_x : (-2147483648) ≤ x ∧ x ≤ 2147483647) (q : ∀ (r : Int), (-2147483648) ≤ r ∧ r ≤ 2147483647 → (r = 63 ∨ ((0 ≤ x ∧ x < M t 2) ∧ r = M (t + 1) x)) → ((x < 0 ∨ M t 2 ≤ x) ∨ r = M (t + 1) x) → Q (some (.int (Int32.ofInt r))) M) : jc A 1 230 [.ref (t), .int (Int32.ofInt (x))] M Q := by
  refine jc_of (m := xm_230) rfl (Nat.le_of_ble_eq_true rfl) rfl ?_
  refine jr.iload_n rfl rfl ?_
  refine jr.if_lt rfl rfl (by omega) (fun h1 => ?_) (fun h1 => ?_)
  · refine jr.bipush rfl (by decide) ?_
    exact jr.ireturn rfl rfl rfl (q _ (by omega) (by omega) (by omega))
  · refine jr.iload_n rfl rfl ?_
    refine jr.aload_n rfl rfl ?_
    obtain ⟨v1, e1⟩ : ∃ z_, M t 2 = z_ := ⟨_, rfl⟩
    have b1 : 0 ≤ v1 ∧ v1 ≤ 932 := by rw [← e1]; exact (CI.r hC_M k_t (by decide) 2)
    refine jr.getf (i := 2) (x := v1) (v := .int (Int32.ofInt (v1))) rfl rfl (Nat.lt_trans (kx_47 k_t).1 (by decide)) (kx_47 k_t).2 (by decide) rfl rfl e1 rfl ?_
    refine jr.icmp_ge rfl rfl (by omega) (by omega) (fun h9 => ?_) (fun h9 => ?_)
    · refine jr.bipush rfl (by decide) ?_
      exact jr.ireturn rfl rfl rfl (q _ (by omega) (by omega) (by omega))
    · refine jr.aload_n rfl rfl ?_
      have k2 := kf_47_0 k_t
      refine jr.getf (i := 0) (v := .ref (t + 1)) rfl rfl (Nat.lt_trans (kx_47 k_t).1 (by decide)) (kx_47 k_t).2 (by decide) rfl rfl rfl (jval_ref rfl k2.1) ?_
      refine jr.iload_n rfl rfl ?_
      obtain ⟨v3, e3⟩ : ∃ z_, M ((t + 1)) x = z_ := ⟨_, rfl⟩
      have b3 : (-2147483648) ≤ v3 ∧ v3 ≤ 2147483647 := by rw [← e3]; exact (CI.r hC_M k2.2 (by decide) x)
      refine jr.iald (i := x) (x := v3) rfl (Nat.lt_trans (kx_51 k2.2).1 (by decide)) (kx_51 k2.2).2 (by decide) (by omega) (by omega) e3 ?_
      refine jr.goto rfl rfl ?_
      exact jr.ireturn rfl rfl rfl (q _ (by omega) (by omega) (by omega))
theorem c_Program_argAt {A : Nat → Option (Nat × (Nat → Int32))} {Q : Option Value → jm → Prop} {M : jm} (hC_M : CI M) {t : Nat} (k_t : kd t = 47) {x : Int} (h_x : (-2147483648) ≤ x ∧ x ≤ 2147483647) (q : ∀ (r : Int), (-2147483648) ≤ r ∧ r ≤ 2147483647 → (r = 0 ∨ ((0 ≤ x ∧ x < M t 2) ∧ r = M (t + 2) x)) → Q (some (.int (Int32.ofInt r))) M) : jc A 1 231 [.ref (t), .int (Int32.ofInt (x))] M Q := by
  refine jc_of (m := xm_231) rfl (Nat.le_of_ble_eq_true rfl) rfl ?_
  refine jr.iload_n rfl rfl ?_
  refine jr.if_lt rfl rfl (by omega) (fun h1 => ?_) (fun h1 => ?_)
  · refine jr.iconst rfl ?_
    exact jr.ireturn rfl rfl rfl (q _ (by omega) (by omega))
  · refine jr.iload_n rfl rfl ?_
    refine jr.aload_n rfl rfl ?_
    obtain ⟨v1, e1⟩ : ∃ z_, M t 2 = z_ := ⟨_, rfl⟩
    have b1 : 0 ≤ v1 ∧ v1 ≤ 932 := by rw [← e1]; exact (CI.r hC_M k_t (by decide) 2)
    refine jr.getf (i := 2) (x := v1) (v := .int (Int32.ofInt (v1))) rfl rfl (Nat.lt_trans (kx_47 k_t).1 (by decide)) (kx_47 k_t).2 (by decide) rfl rfl e1 rfl ?_
    refine jr.icmp_ge rfl rfl (by omega) (by omega) (fun h9 => ?_) (fun h9 => ?_)
    · refine jr.iconst rfl ?_
      exact jr.ireturn rfl rfl rfl (q _ (by omega) (by omega))
    · refine jr.aload_n rfl rfl ?_
      have k2 := kf_47_1 k_t
      refine jr.getf (i := 1) (v := .ref (t + 2)) rfl rfl (Nat.lt_trans (kx_47 k_t).1 (by decide)) (kx_47 k_t).2 (by decide) rfl rfl rfl (jval_ref rfl k2.1) ?_
      refine jr.iload_n rfl rfl ?_
      obtain ⟨v3, e3⟩ : ∃ z_, M ((t + 2)) x = z_ := ⟨_, rfl⟩
      have b3 : (-2147483648) ≤ v3 ∧ v3 ≤ 2147483647 := by rw [← e3]; exact (CI.r hC_M k2.2 (by decide) x)
      refine jr.iald (i := x) (x := v3) rfl (Nat.lt_trans (kx_48 k2.2).1 (by decide)) (kx_48 k2.2).2 (by decide) (by omega) (by omega) e3 ?_
      refine jr.goto rfl rfl ?_
      exact jr.ireturn rfl rfl rfl (q _ (by omega) (by omega))
theorem c_Machine_isNot {A : Nat → Option (Nat × (Nat → Int32))} {Q : Option Value → jm → Prop} {M : jm} (hC_M : CI M) {x : Int} (h_x : (-9223372036854775808) ≤ x ∧ x ≤ 9223372036854775807) {y : Int} (h_y : (-2147483648) ≤ y ∧ y ≤ 2147483647) (q : ∀ (r : Int), 0 ≤ r ∧ r ≤ 1 → (r = 1 ∨ (0 ≤ x ∧ x < y)) → Q (some (.int (Int32.ofInt r))) M) : jc A 1 166 [.long (Int64.ofInt (x)), .int (Int32.ofInt (y))] M Q := by
  refine jc_of (m := xm_166) rfl (Nat.le_of_ble_eq_true rfl) rfl ?_
  refine jr.lload_n rfl rfl ?_
  refine jr.lconst (x := 0) rfl (by decide) ?_
  refine jr.lcmp_lt rfl rfl rfl (by omega) (by omega) (fun h2 => ?_) (fun h2 => ?_)
  · refine jr.iconst rfl ?_
    refine jr.goto rfl rfl ?_
    exact jr.ireturn rfl rfl rfl (q _ (by omega) (by omega))
  · refine jr.lload_n rfl rfl ?_
    refine jr.iload_n rfl rfl ?_
    refine jr.i2l rfl (by omega) ?_
    refine jr.lcmp_lt rfl rfl rfl (by omega) (by omega) (fun h9 => ?_) (fun h9 => ?_)
    · refine jr.iconst rfl ?_
      exact jr.ireturn rfl rfl rfl (q _ (by omega) (by omega))
    · refine jr.iconst rfl ?_
      refine jr.goto rfl rfl ?_
      exact jr.ireturn rfl rfl rfl (q _ (by omega) (by omega))
theorem c_Machine_hasNoFailureLeft {A : Nat → Option (Nat × (Nat → Int32))} {Q : Option Value → jm → Prop} {M : jm} (hC_M : CI M) (q : ∀ (r : Int), 0 ≤ r ∧ r ≤ 1 → Q (some (.int (Int32.ofInt r))) M) : jc A 1 138 [.ref (421)] M Q := by
  refine jc_of (m := xm_138) rfl (Nat.le_of_ble_eq_true rfl) rfl ?_
  refine jr.aload_n rfl rfl ?_
  obtain ⟨v1, e1⟩ : ∃ z_, M 421 3 = z_ := ⟨_, rfl⟩
  have b1 : (-2147483648) ≤ v1 ∧ v1 ≤ 2147483647 := by rw [← e1]; exact (CI.r hC_M (show kd 421 = 22 from rfl) (by decide) 3)
  refine jr.getf (i := 3) (x := v1) (v := .int (Int32.ofInt (v1))) rfl rfl (by decide) rfl (by decide) rfl rfl e1 rfl ?_
  refine jr.sipush rfl (by decide) ?_
  refine jr.icmp_lt rfl rfl (by omega) (by omega) (fun h7 => ?_) (fun h7 => ?_)
  · refine jr.iconst rfl ?_
    exact jr.ireturn rfl rfl rfl (q _ (by omega) )
  · refine jr.iconst rfl ?_
    refine jr.goto rfl rfl ?_
    exact jr.ireturn rfl rfl rfl (q _ (by omega) )
theorem c_Machine_isBeyond {A : Nat → Option (Nat × (Nat → Int32))} {Q : Option Value → jm → Prop} {M : jm} (hC_M : CI M) {x : Nat} (k_x : kd x = 52) {y : Int} (h_y : (-9223372036854775808) ≤ y ∧ y ≤ 9223372036854775807) {z : Int} (h_z : (-9223372036854775808) ≤ z ∧ z ≤ 9223372036854775807) (q : ∀ (r : Int), 0 ≤ r ∧ r ≤ 1 → (r = 1 ∨ ((0 ≤ y ∧ 0 ≤ z) ∧ y + z ≤ 40)) → Q (some (.int (Int32.ofInt r))) M) : jc A 1 179 [.ref (x), .long (Int64.ofInt (y)), .long (Int64.ofInt (z))] M Q := by
  refine jc_of (m := xm_179) rfl (Nat.le_of_ble_eq_true rfl) rfl ?_
  refine jr.lload_n rfl rfl ?_
  refine jr.lconst (x := 0) rfl (by decide) ?_
  refine jr.lcmp_lt rfl rfl rfl (by omega) (by omega) (fun h2 => ?_) (fun h2 => ?_)
  · refine jr.iconst rfl ?_
    refine jr.goto rfl rfl ?_
    exact jr.ireturn rfl rfl rfl (q _ (by omega) (by omega))
  · refine jr.lload_n rfl rfl ?_
    refine jr.lconst (x := 0) rfl (by decide) ?_
    refine jr.lcmp_lt rfl rfl rfl (by omega) (by omega) (fun h8 => ?_) (fun h8 => ?_)
    · refine jr.iconst rfl ?_
      refine jr.goto rfl rfl ?_
      exact jr.ireturn rfl rfl rfl (q _ (by omega) (by omega))
    · refine jr.lload_n rfl rfl ?_
      refine jr.aload_n rfl rfl ?_
      obtain ⟨v1, e1⟩ : ∃ z_, M x 1 = z_ := ⟨_, rfl⟩
      have b1 : 0 ≤ v1 ∧ v1 ≤ 40 := by rw [← e1]; exact (CI.r hC_M k_x (by decide) 1)
      refine jr.getf (i := 1) (x := v1) (v := .int (Int32.ofInt (v1))) rfl rfl (Nat.lt_trans (kx_52 k_x).1 (by decide)) (kx_52 k_x).2 (by decide) rfl rfl e1 rfl ?_
      refine jr.i2l rfl (by omega) ?_
      refine jr.lcmp_gt rfl rfl rfl (by omega) (by omega) (fun h18 => ?_) (fun h18 => ?_)
      · refine jr.iconst rfl ?_
        refine jr.goto rfl rfl ?_
        exact jr.ireturn rfl rfl rfl (q _ (by omega) (by omega))
      · refine jr.lload_n rfl rfl ?_
        refine jr.aload_n rfl rfl ?_
        refine jr.getf (i := 1) (x := v1) (v := .int (Int32.ofInt (v1))) rfl rfl (Nat.lt_trans (kx_52 k_x).1 (by decide)) (kx_52 k_x).2 (by decide) rfl rfl e1 rfl ?_
        refine jr.i2l rfl (by omega) ?_
        refine jr.lload_n rfl rfl ?_
        refine jr.lsub rfl ?_
        refine jr.lcmp_le rfl rfl rfl (by omega) (by omega) (fun h30 => ?_) (fun h30 => ?_)
        · refine jr.iconst rfl ?_
          exact jr.ireturn rfl rfl rfl (q _ (by omega) (by omega))
        · refine jr.iconst rfl ?_
          refine jr.goto rfl rfl ?_
          exact jr.ireturn rfl rfl rfl (q _ (by omega) (by omega))
noncomputable def W_c_Machine_fail : List (Nat × Nat) := [(22, 4), (24, 1000)]
theorem c_Machine_fail {A : Nat → Option (Nat × (Nat → Int32))} {Q : Option Value → jm → Prop} {T : jm} {M : jm} (hC_M : CI M) (ht_M : FR W_c_Machine_fail T M) {x : Int} (h_x : (-2147483648) ≤ x ∧ x ≤ 2147483647) (q : ∀ (M' : jm), CI M' → FR W_c_Machine_fail T M' → Q none M') : jc A 1 148 [.ref (421), .int (Int32.ofInt (x))] M Q := by
  refine jc_of (m := xm_148) rfl (Nat.le_of_ble_eq_true rfl) rfl ?_
  refine jr.aload_n rfl rfl ?_
  refine jr.iconst rfl ?_
  refine jr.putf (i := 4) (x := 1) rfl rfl (by decide) rfl (by decide) rfl rfl rfl rfl rfl ?_
  refine jr.aload_n rfl rfl ?_
  refine jr.getf (i := 10) (v := .ref 436) rfl rfl (by decide) rfl (by decide) rfl rfl rfl rfl ?_
  refine jr.iconst rfl ?_
  refine jr.iload_n rfl rfl ?_
  refine jr.iast (i := 0) (x := x) rfl (by decide) rfl (by decide) (by omega) (by omega) ?_
  refine jr.aload_n rfl rfl ?_
  refine jr.getf (i := 10) (v := .ref 436) rfl rfl (by decide) rfl (by decide) rfl rfl rfl rfl ?_
  refine jr.iconst rfl ?_
  refine jr.iconst rfl ?_
  refine jr.iast (i := 1) (x := 0) rfl (by decide) rfl (by decide) (by omega) (by omega) ?_
  exact jr.vreturn rfl rfl (q _ (CI.u (CI.u (CI.u hC_M (i := 4) (show kd 421 = 22 from rfl) (show (0 : Int) ≤ _ ∧ _ ≤ (1 : Int) from by omega) rfl) (i := 0) (show kd 436 = 24 from rfl) (show (-2147483648 : Int) ≤ _ ∧ _ ≤ (2147483647 : Int) from by omega) rfl) (i := 1) (show kd 436 = 24 from rfl) (show (-2147483648 : Int) ≤ _ ∧ _ ≤ (2147483647 : Int) from by omega) rfl) (FR.o (FR.o (FR.o ht_M (show kd 421 = 22 from rfl) rfl) (show kd 436 = 24 from rfl) rfl) (show kd 436 = 24 from rfl) rfl)  )
noncomputable def W_c_Machine_clearFailure : List (Nat × Nat) := [(24, 1000)]
theorem c_Machine_clearFailure {A : Nat → Option (Nat × (Nat → Int32))} {Q : Option Value → jm → Prop} {T : jm} {M : jm} (hC_M : CI M) (ht_M : FR W_c_Machine_clearFailure T M) (q : ∀ (M' : jm), CI M' → FR W_c_Machine_clearFailure T M' → Q none M') : jc A 1 142 [.ref (421)] M Q := by
  refine jc_of (m := xm_142) rfl (Nat.le_of_ble_eq_true rfl) rfl ?_
  refine jr.aload_n rfl rfl ?_
  refine jr.getf (i := 10) (v := .ref 436) rfl rfl (by decide) rfl (by decide) rfl rfl rfl rfl ?_
  refine jr.iconst rfl ?_
  refine jr.iconst rfl ?_
  refine jr.iast (i := 0) (x := 0) rfl (by decide) rfl (by decide) (by omega) (by omega) ?_
  refine jr.aload_n rfl rfl ?_
  refine jr.getf (i := 10) (v := .ref 436) rfl rfl (by decide) rfl (by decide) rfl rfl rfl rfl ?_
  refine jr.iconst rfl ?_
  refine jr.iconst rfl ?_
  refine jr.iast (i := 1) (x := 0) rfl (by decide) rfl (by decide) (by omega) (by omega) ?_
  refine jr.aload_n rfl rfl ?_
  refine jr.getf (i := 10) (v := .ref 436) rfl rfl (by decide) rfl (by decide) rfl rfl rfl rfl ?_
  refine jr.iconst rfl ?_
  refine jr.iconst rfl ?_
  refine jr.iast (i := 3) (x := (-1)) rfl (by decide) rfl (by decide) (by omega) (by omega) ?_
  exact jr.vreturn rfl rfl (q _ (CI.u (CI.u (CI.u hC_M (i := 0) (show kd 436 = 24 from rfl) (show (-2147483648 : Int) ≤ _ ∧ _ ≤ (2147483647 : Int) from by omega) rfl) (i := 1) (show kd 436 = 24 from rfl) (show (-2147483648 : Int) ≤ _ ∧ _ ≤ (2147483647 : Int) from by omega) rfl) (i := 3) (show kd 436 = 24 from rfl) (show (-2147483648 : Int) ≤ _ ∧ _ ≤ (2147483647 : Int) from by omega) rfl) (FR.o (FR.o (FR.o ht_M (show kd 436 = 24 from rfl) rfl) (show kd 436 = 24 from rfl) rfl) (show kd 436 = 24 from rfl) rfl)  )
noncomputable def W_c_Machine_push : List (Nat × Nat) := [(22, 9), (26, 1000)]
theorem c_Machine_push {A : Nat → Option (Nat × (Nat → Int32))} {Q : Option Value → jm → Prop} {T : jm} {M : jm} (hC_M : CI M) (ht_M : FR W_c_Machine_push T M) {x : Int} (h_x : (-9223372036854775808) ≤ x ∧ x ≤ 9223372036854775807) (q : ∀ (M' : jm), CI M' → FR W_c_Machine_push T M' → Q none M') : jc A 1 154 [.ref (421), .long (Int64.ofInt (x))] M Q := by
  refine jc_of (m := xm_154) rfl (Nat.le_of_ble_eq_true rfl) rfl ?_
  refine jr.aload_n rfl rfl ?_
  obtain ⟨v1, e1⟩ : ∃ z_, M 421 9 = z_ := ⟨_, rfl⟩
  have b1 : 0 ≤ v1 ∧ v1 ≤ 320 := by rw [← e1]; exact (CI.r hC_M (show kd 421 = 22 from rfl) (by decide) 9)
  refine jr.getf (i := 9) (x := v1) (v := .int (Int32.ofInt (v1))) rfl rfl (by decide) rfl (by decide) rfl rfl e1 rfl ?_
  refine jr.sipush rfl (by decide) ?_
  refine jr.icmp_ge rfl rfl (by omega) (by omega) (fun h7 => ?_) (fun h7 => ?_)
  · exact jr.vreturn rfl rfl (q _ hC_M ht_M  )
  · refine jr.aload_n rfl rfl ?_
    refine jr.getf (i := 8) (v := .ref 435) rfl rfl (by decide) rfl (by decide) rfl rfl rfl rfl ?_
    refine jr.aload_n rfl rfl ?_
    refine jr.getf (i := 9) (x := v1) (v := .int (Int32.ofInt (v1))) rfl rfl (by decide) rfl (by decide) rfl rfl e1 rfl ?_
    refine jr.lload_n rfl rfl ?_
    refine jr.last (i := v1) (x := x) rfl (by decide) rfl (by decide) (by omega) (by omega) ?_
    refine jr.aload_n rfl rfl ?_
    refine jr.dup rfl rfl ?_
    refine jr.getf (i := 9) (x := v1) (v := .int (Int32.ofInt (v1))) rfl rfl (by decide) rfl (by decide) rfl rfl ((ju_c _ _ (by decide)).trans e1) rfl ?_
    refine jr.iconst rfl ?_
    refine jr.iadd rfl ?_
    refine jr.putf (i := 9) (x := (v1 + 1)) rfl rfl (by decide) rfl (by decide) rfl rfl rfl rfl rfl ?_
    exact jr.vreturn rfl rfl (q _ (CI.u (CI.u hC_M (i := v1) (show kd 435 = 26 from rfl) (show (-9223372036854775808 : Int) ≤ _ ∧ _ ≤ (9223372036854775807 : Int) from by omega) rfl) (i := 9) (show kd 421 = 22 from rfl) (show (0 : Int) ≤ _ ∧ _ ≤ (320 : Int) from by omega) rfl) (FR.o (FR.o ht_M (show kd 435 = 26 from rfl) rfl) (show kd 421 = 22 from rfl) rfl)  )
noncomputable def W_c_Machine_pop : List (Nat × Nat) := [(22, 9)]
theorem c_Machine_pop {A : Nat → Option (Nat × (Nat → Int32))} {Q : Option Value → jm → Prop} {T : jm} {M : jm} (hC_M : CI M) (ht_M : FR W_c_Machine_pop T M) (q : ∀ (r : Int) (M' : jm), CI M' → FR W_c_Machine_pop T M' → (-9223372036854775808) ≤ r ∧ r ≤ 9223372036854775807 → Q (some (.long (Int64.ofInt r))) M') : jc A 1 156 [.ref (421)] M Q := by
  refine jc_of (m := xm_156) rfl (Nat.le_of_ble_eq_true rfl) rfl ?_
  refine jr.aload_n rfl rfl ?_
  obtain ⟨v1, e1⟩ : ∃ z_, M 421 9 = z_ := ⟨_, rfl⟩
  have b1 : 0 ≤ v1 ∧ v1 ≤ 320 := by rw [← e1]; exact (CI.r hC_M (show kd 421 = 22 from rfl) (by decide) 9)
  refine jr.getf (i := 9) (x := v1) (v := .int (Int32.ofInt (v1))) rfl rfl (by decide) rfl (by decide) rfl rfl e1 rfl ?_
  refine jr.if_gt rfl rfl (by omega) (fun h4 => ?_) (fun h4 => ?_)
  · refine jr.aload_n rfl rfl ?_
    refine jr.dup rfl rfl ?_
    refine jr.getf (i := 9) (x := v1) (v := .int (Int32.ofInt (v1))) rfl rfl (by decide) rfl (by decide) rfl rfl e1 rfl ?_
    refine jr.iconst rfl ?_
    refine jr.isub rfl ?_
    refine jr.putf (i := 9) (x := (v1 - 1)) rfl rfl (by decide) rfl (by decide) rfl rfl rfl rfl rfl ?_
    refine jr.aload_n rfl rfl ?_
    refine jr.getf (i := 8) (v := .ref 435) rfl rfl (by decide) rfl (by decide) rfl rfl rfl rfl ?_
    refine jr.aload_n rfl rfl ?_
    refine jr.getf (i := 9) (x := (v1 - 1)) (v := .int (Int32.ofInt (v1 - 1))) rfl rfl (by decide) rfl (by decide) rfl rfl (ju_same _ _ _ _) rfl ?_
    obtain ⟨v2, e2⟩ : ∃ z_, M 435 (v1 - 1) = z_ := ⟨_, rfl⟩
    have b2 : (-9223372036854775808) ≤ v2 ∧ v2 ≤ 9223372036854775807 := by rw [← e2]; exact (CI.r hC_M (show kd 435 = 26 from rfl) (by decide) (v1 - 1))
    refine jr.lald (i := (v1 - 1)) (x := v2) rfl (by decide) rfl (by decide) (by omega) (by omega) ((ju_c _ _ (by decide)).trans e2) ?_
    exact jr.lreturn rfl rfl (q _ _ (CI.u hC_M (i := 9) (show kd 421 = 22 from rfl) (show (0 : Int) ≤ _ ∧ _ ≤ (320 : Int) from by omega) rfl) (FR.o ht_M (show kd 421 = 22 from rfl) rfl) (by omega) )
  · refine jr.lconst (x := 0) rfl (by decide) ?_
    exact jr.lreturn rfl rfl (q _ _ hC_M ht_M (by omega) )
noncomputable def W_c_Parser_fail : List (Nat × Nat) := [(44, 0), (44, 1)]
theorem c_Parser_fail {A : Nat → Option (Nat × (Nat → Int32))} [HA A] {Q : Option Value → jm → Prop} {T : jm} {M : jm} (hC_M : CI M) (ht_M : FR W_c_Parser_fail T M) {x : Int} (h_x : 1 ≤ x ∧ x ≤ 7) (q : ∀ (M' : jm), CI M' → FR W_c_Parser_fail T M' → (M' 413 0 ≠ 0) → Q none M') : jc A 1 225 [.ref (413), .int (Int32.ofInt (x))] M Q := by
  refine jc_of (m := xm_225) rfl (Nat.le_of_ble_eq_true rfl) rfl ?_
  refine jr.aload_n rfl rfl ?_
  obtain ⟨v1, e1⟩ : ∃ z_, M 413 0 = z_ := ⟨_, rfl⟩
  have b1 : (-2147483648) ≤ v1 ∧ v1 ≤ 2147483647 := by rw [← e1]; exact (CI.r hC_M (show kd 413 = 44 from rfl) (by decide) 0)
  refine jr.getf (i := 0) (x := v1) (v := .int (Int32.ofInt (v1))) rfl rfl (by decide) rfl (by decide) rfl rfl e1 rfl ?_
  refine jr.if_ne rfl rfl (by omega) (fun h4 => ?_) (fun h4 => ?_)
  · exact jr.vreturn rfl rfl (q _ hC_M ht_M  (by have hq0 : M 413 0 = v1 := e1; omega))
  · refine jr.aload_n rfl rfl ?_
    refine jr.iload_n rfl rfl ?_
    refine jr.putf (i := 0) (x := x) rfl rfl (by decide) rfl (by decide) rfl rfl rfl rfl rfl ?_
    refine jr.aload_n rfl rfl ?_
    refine jr.aload_n rfl rfl ?_
    obtain ⟨v2, e2⟩ : ∃ z_, M 413 7 = z_ := ⟨_, rfl⟩
    have b2 : 0 ≤ v2 ∧ v2 ≤ 1600 := by rw [← e2]; exact (CI.r hC_M (show kd 413 = 44 from rfl) (by decide) 7)
    refine jr.getf (i := 7) (x := v2) (v := .int (Int32.ofInt (v2))) rfl rfl (by decide) rfl (by decide) rfl rfl ((ju_i _ _ (by decide)).trans e2) rfl ?_
    refine jr.putf (i := 1) (x := v2) rfl rfl (by decide) rfl (by decide) rfl rfl rfl rfl rfl ?_
    exact jr.vreturn rfl rfl (q _ (CI.u (CI.u hC_M (i := 0) (show kd 413 = 44 from rfl) (show (-2147483648 : Int) ≤ _ ∧ _ ≤ (2147483647 : Int) from by omega) rfl) (i := 1) (show kd 413 = 44 from rfl) (show (-2147483648 : Int) ≤ _ ∧ _ ≤ (2147483647 : Int) from by omega) rfl) (FR.o (FR.o ht_M (show kd 413 = 44 from rfl) rfl) (show kd 413 = 44 from rfl) rfl)  (by have hq0 : (ju (ju M 413 0 x) 413 1 v2) 413 0 = x := ((ju_i _ _ (by decide)).trans (ju_same _ _ _ _)); omega))
theorem c_Parser_hasMore {A : Nat → Option (Nat × (Nat → Int32))} [HA A] {Q : Option Value → jm → Prop} {M : jm} (hC_M : CI M) {x : Int} (h_x : (-2147483648) ≤ x ∧ x ≤ 2147483647) (q : ∀ (r : Int), 0 ≤ r ∧ r ≤ 1 → Q (some (.int (Int32.ofInt r))) M) : jc A 1 196 [.ref (413), .int (Int32.ofInt (x))] M Q := by
  refine jc_of (m := xm_196) rfl (Nat.le_of_ble_eq_true rfl) rfl ?_
  refine jr.aload_n rfl rfl ?_
  obtain ⟨v1, e1⟩ : ∃ z_, M 413 0 = z_ := ⟨_, rfl⟩
  have b1 : (-2147483648) ≤ v1 ∧ v1 ≤ 2147483647 := by rw [← e1]; exact (CI.r hC_M (show kd 413 = 44 from rfl) (by decide) 0)
  refine jr.getf (i := 0) (x := v1) (v := .int (Int32.ofInt (v1))) rfl rfl (by decide) rfl (by decide) rfl rfl e1 rfl ?_
  refine jr.if_ne rfl rfl (by omega) (fun h4 => ?_) (fun h4 => ?_)
  · refine jr.iconst rfl ?_
    exact jr.ireturn rfl rfl rfl (q _ (by omega) )
  · refine jr.iload_n rfl rfl ?_
    refine jr.if_eq rfl rfl (by omega) (fun h8 => ?_) (fun h8 => ?_)
    · refine jr.iconst rfl ?_
      refine jr.goto rfl rfl ?_
      exact jr.ireturn rfl rfl rfl (q _ (by omega) )
    · refine jr.aload_n rfl rfl ?_
      obtain ⟨v2, e2⟩ : ∃ z_, M 413 6 = z_ := ⟨_, rfl⟩
      have b2 : (-2147483648) ≤ v2 ∧ v2 ≤ 2147483647 := by rw [← e2]; exact (CI.r hC_M (show kd 413 = 44 from rfl) (by decide) 6)
      refine jr.getf (i := 6) (x := v2) (v := .int (Int32.ofInt (v2))) rfl rfl (by decide) rfl (by decide) rfl rfl e2 rfl ?_
      refine jr.if_eq rfl rfl (by omega) (fun h15 => ?_) (fun h15 => ?_)
      · refine jr.iconst rfl ?_
        exact jr.ireturn rfl rfl rfl (q _ (by omega) )
      · refine jr.iconst rfl ?_
        refine jr.goto rfl rfl ?_
        exact jr.ireturn rfl rfl rfl (q _ (by omega) )
theorem c_Parser_isSign {A : Nat → Option (Nat × (Nat → Int32))} [HA A] {Q : Option Value → jm → Prop} {M : jm} (hC_M : CI M) {x : Int} (h_x : 0 ≤ x ∧ x ≤ 65535) (q : ∀ (r : Int), 0 ≤ r ∧ r ≤ 1 → Q (some (.int (Int32.ofInt r))) M) : jc A 1 217 [.ref (413), .int (Int32.ofInt (x))] M Q := by
  refine jc_of (m := xm_217) rfl (Nat.le_of_ble_eq_true rfl) rfl ?_
  refine jr.aload_n rfl rfl ?_
  obtain ⟨v1, e1⟩ : ∃ z_, M 413 6 = z_ := ⟨_, rfl⟩
  have b1 : (-2147483648) ≤ v1 ∧ v1 ≤ 2147483647 := by rw [← e1]; exact (CI.r hC_M (show kd 413 = 44 from rfl) (by decide) 6)
  refine jr.getf (i := 6) (x := v1) (v := .int (Int32.ofInt (v1))) rfl rfl (by decide) rfl (by decide) rfl rfl e1 rfl ?_
  refine jr.iconst rfl ?_
  refine jr.icmp_ne rfl rfl (by omega) (by omega) (fun h5 => ?_) (fun h5 => ?_)
  · refine jr.iconst rfl ?_
    exact jr.ireturn rfl rfl rfl (q _ (by omega) )
  · refine jr.aload_n rfl rfl ?_
    obtain ⟨v2, e2⟩ : ∃ z_, M 413 11 = z_ := ⟨_, rfl⟩
    have b2 : 0 ≤ v2 ∧ v2 ≤ 255 := by rw [← e2]; exact (CI.r hC_M (show kd 413 = 44 from rfl) (by decide) 11)
    refine jr.getf (i := 11) (x := v2) (v := .int (Int32.ofInt (v2))) rfl rfl (by decide) rfl (by decide) rfl rfl e2 rfl ?_
    refine jr.iload_n rfl rfl ?_
    refine jr.icmp_ne rfl rfl (by omega) (by omega) (fun h13 => ?_) (fun h13 => ?_)
    · refine jr.iconst rfl ?_
      exact jr.ireturn rfl rfl rfl (q _ (by omega) )
    · refine jr.iconst rfl ?_
      refine jr.goto rfl rfl ?_
      exact jr.ireturn rfl rfl rfl (q _ (by omega) )
theorem c_Parser_isWord {A : Nat → Option (Nat × (Nat → Int32))} [HA A] {Q : Option Value → jm → Prop} {M : jm} (hC_M : CI M) {x : Int} (h_x : (-2147483648) ≤ x ∧ x ≤ 2147483647) (q : ∀ (r : Int), 0 ≤ r ∧ r ≤ 1 → Q (some (.int (Int32.ofInt r))) M) : jc A 1 218 [.ref (413), .int (Int32.ofInt (x))] M Q := by
  refine jc_of (m := xm_218) rfl (Nat.le_of_ble_eq_true rfl) rfl ?_
  refine jr.aload_n rfl rfl ?_
  obtain ⟨v1, e1⟩ : ∃ z_, M 413 6 = z_ := ⟨_, rfl⟩
  have b1 : (-2147483648) ≤ v1 ∧ v1 ≤ 2147483647 := by rw [← e1]; exact (CI.r hC_M (show kd 413 = 44 from rfl) (by decide) 6)
  refine jr.getf (i := 6) (x := v1) (v := .int (Int32.ofInt (v1))) rfl rfl (by decide) rfl (by decide) rfl rfl e1 rfl ?_
  refine jr.iconst rfl ?_
  refine jr.icmp_ne rfl rfl (by omega) (by omega) (fun h5 => ?_) (fun h5 => ?_)
  · refine jr.iconst rfl ?_
    exact jr.ireturn rfl rfl rfl (q _ (by omega) )
  · refine jr.aload_n rfl rfl ?_
    obtain ⟨v2, e2⟩ : ∃ z_, M 413 10 = z_ := ⟨_, rfl⟩
    have b2 : (-2147483648) ≤ v2 ∧ v2 ≤ 2147483647 := by rw [← e2]; exact (CI.r hC_M (show kd 413 = 44 from rfl) (by decide) 10)
    refine jr.getf (i := 10) (x := v2) (v := .int (Int32.ofInt (v2))) rfl rfl (by decide) rfl (by decide) rfl rfl e2 rfl ?_
    refine jr.iload_n rfl rfl ?_
    refine jr.icmp_ne rfl rfl (by omega) (by omega) (fun h13 => ?_) (fun h13 => ?_)
    · refine jr.iconst rfl ?_
      exact jr.ireturn rfl rfl rfl (q _ (by omega) )
    · refine jr.iconst rfl ?_
      refine jr.goto rfl rfl ?_
      exact jr.ireturn rfl rfl rfl (q _ (by omega) )
theorem c_Parser_isName {A : Nat → Option (Nat × (Nat → Int32))} [HA A] {Q : Option Value → jm → Prop} {M : jm} (hC_M : CI M) (q : ∀ (r : Int), 0 ≤ r ∧ r ≤ 1 → Q (some (.int (Int32.ofInt r))) M) : jc A 1 219 [.ref (413)] M Q := by
  refine jc_of (m := xm_219) rfl (Nat.le_of_ble_eq_true rfl) rfl ?_
  refine jr.aload_n rfl rfl ?_
  obtain ⟨v1, e1⟩ : ∃ z_, M 413 6 = z_ := ⟨_, rfl⟩
  have b1 : (-2147483648) ≤ v1 ∧ v1 ≤ 2147483647 := by rw [← e1]; exact (CI.r hC_M (show kd 413 = 44 from rfl) (by decide) 6)
  refine jr.getf (i := 6) (x := v1) (v := .int (Int32.ofInt (v1))) rfl rfl (by decide) rfl (by decide) rfl rfl e1 rfl ?_
  refine jr.iconst rfl ?_
  refine jr.icmp_ne rfl rfl (by omega) (by omega) (fun h5 => ?_) (fun h5 => ?_)
  · refine jr.iconst rfl ?_
    exact jr.ireturn rfl rfl rfl (q _ (by omega) )
  · refine jr.aload_n rfl rfl ?_
    obtain ⟨v2, e2⟩ : ∃ z_, M 413 10 = z_ := ⟨_, rfl⟩
    have b2 : (-2147483648) ≤ v2 ∧ v2 ≤ 2147483647 := by rw [← e2]; exact (CI.r hC_M (show kd 413 = 44 from rfl) (by decide) 10)
    refine jr.getf (i := 10) (x := v2) (v := .int (Int32.ofInt (v2))) rfl rfl (by decide) rfl (by decide) rfl rfl e2 rfl ?_
    refine jr.iconst rfl ?_
    refine jr.icmp_ne rfl rfl (by omega) (by omega) (fun h13 => ?_) (fun h13 => ?_)
    · refine jr.iconst rfl ?_
      exact jr.ireturn rfl rfl rfl (q _ (by omega) )
    · refine jr.iconst rfl ?_
      refine jr.goto rfl rfl ?_
      exact jr.ireturn rfl rfl rfl (q _ (by omega) )
theorem c_Parser_expsOf {A : Nat → Option (Nat × (Nat → Int32))} [HA A] {Q : Option Value → jm → Prop} {M : jm} (hC_M : CI M) {x : Int} (h_x : (-2147483648) ≤ x ∧ x ≤ 2147483647) (q : ∀ (r : Int), 0 ≤ r ∧ r ≤ 5 → Q (some (.int (Int32.ofInt r))) M) : jc A 1 201 [.int (Int32.ofInt (x))] M Q := by
  refine jc_of (m := xm_201) rfl (Nat.le_of_ble_eq_true rfl) rfl ?_
  refine jr.iload_n rfl rfl ?_
  rcases (show x = 10 ∨ x = 11 ∨ x = 12 ∨ x = 13 ∨ x = 14 ∨ x = 15 ∨ x = 16 ∨ x = 17 ∨ x = 18 ∨ x = 19 ∨ x = 20 ∨ x = 21 ∨ x = 22 ∨ x = 23 ∨ x = 24 ∨ x = 25 ∨ x = 26 ∨ x = 27 ∨ x = 28 ∨ x = 29 ∨ x = 30 ∨ (x ≠ 10 ∧ x ≠ 11 ∧ x ≠ 12 ∧ x ≠ 13 ∧ x ≠ 14 ∧ x ≠ 15 ∧ x ≠ 16 ∧ x ≠ 17 ∧ x ≠ 18 ∧ x ≠ 19 ∧ x ≠ 20 ∧ x ≠ 21 ∧ x ≠ 22 ∧ x ≠ 23 ∧ x ≠ 24 ∧ x ≠ 25 ∧ x ≠ 26 ∧ x ≠ 27 ∧ x ≠ 28 ∧ x ≠ 29 ∧ x ≠ 30) by omega) with h1 | h1 | h1 | h1 | h1 | h1 | h1 | h1 | h1 | h1 | h1 | h1 | h1 | h1 | h1 | h1 | h1 | h1 | h1 | h1 | h1 | h1
  · refine jr.tsw_k 10 rfl h1 rfl ?_
    refine jr.iconst rfl ?_
    exact jr.ireturn rfl rfl rfl (q _ (by omega) )
  · refine jr.tsw_k 11 rfl h1 rfl ?_
    refine jr.iconst rfl ?_
    exact jr.ireturn rfl rfl rfl (q _ (by omega) )
  · refine jr.tsw_k 12 rfl h1 rfl ?_
    refine jr.iconst rfl ?_
    exact jr.ireturn rfl rfl rfl (q _ (by omega) )
  · refine jr.tsw_k 13 rfl h1 rfl ?_
    refine jr.iconst rfl ?_
    exact jr.ireturn rfl rfl rfl (q _ (by omega) )
  · refine jr.tsw_k 14 rfl h1 rfl ?_
    refine jr.iconst rfl ?_
    exact jr.ireturn rfl rfl rfl (q _ (by omega) )
  · refine jr.tsw_k 15 rfl h1 rfl ?_
    refine jr.iconst rfl ?_
    exact jr.ireturn rfl rfl rfl (q _ (by omega) )
  · refine jr.tsw_k 16 rfl h1 rfl ?_
    refine jr.iconst rfl ?_
    exact jr.ireturn rfl rfl rfl (q _ (by omega) )
  · refine jr.tsw_k 17 rfl h1 rfl ?_
    refine jr.iconst rfl ?_
    exact jr.ireturn rfl rfl rfl (q _ (by omega) )
  · refine jr.tsw_k 18 rfl h1 rfl ?_
    refine jr.iconst rfl ?_
    exact jr.ireturn rfl rfl rfl (q _ (by omega) )
  · refine jr.tsw_k 19 rfl h1 rfl ?_
    refine jr.iconst rfl ?_
    exact jr.ireturn rfl rfl rfl (q _ (by omega) )
  · refine jr.tsw_k 20 rfl h1 rfl ?_
    refine jr.iconst rfl ?_
    exact jr.ireturn rfl rfl rfl (q _ (by omega) )
  · refine jr.tsw_k 21 rfl h1 rfl ?_
    refine jr.iconst rfl ?_
    exact jr.ireturn rfl rfl rfl (q _ (by omega) )
  · refine jr.tsw_k 22 rfl h1 rfl ?_
    refine jr.iconst rfl ?_
    exact jr.ireturn rfl rfl rfl (q _ (by omega) )
  · refine jr.tsw_k 23 rfl h1 rfl ?_
    refine jr.iconst rfl ?_
    exact jr.ireturn rfl rfl rfl (q _ (by omega) )
  · refine jr.tsw_k 24 rfl h1 rfl ?_
    refine jr.iconst rfl ?_
    exact jr.ireturn rfl rfl rfl (q _ (by omega) )
  · refine jr.tsw_k 25 rfl h1 rfl ?_
    refine jr.iconst rfl ?_
    exact jr.ireturn rfl rfl rfl (q _ (by omega) )
  · refine jr.tsw_k 26 rfl h1 rfl ?_
    refine jr.iconst rfl ?_
    exact jr.ireturn rfl rfl rfl (q _ (by omega) )
  · refine jr.tsw_k 27 rfl h1 rfl ?_
    refine jr.iconst rfl ?_
    exact jr.ireturn rfl rfl rfl (q _ (by omega) )
  · refine jr.tsw_k 28 rfl h1 rfl ?_
    refine jr.iconst rfl ?_
    exact jr.ireturn rfl rfl rfl (q _ (by omega) )
  · refine jr.tsw_k 29 rfl h1 rfl ?_
    refine jr.iconst rfl ?_
    exact jr.ireturn rfl rfl rfl (q _ (by omega) )
  · refine jr.tsw_k 30 rfl h1 rfl ?_
    refine jr.iconst rfl ?_
    exact jr.ireturn rfl rfl rfl (q _ (by omega) )
  · refine jr.tsw_d rfl (by omega) (by omega) rfl ?_
    refine jr.iconst rfl ?_
    exact jr.ireturn rfl rfl rfl (q _ (by omega) )
theorem c_Parser_rankOfSign {A : Nat → Option (Nat × (Nat → Int32))} [HA A] {Q : Option Value → jm → Prop} {M : jm} (hC_M : CI M) (q : ∀ (r : Int), 0 ≤ r ∧ r ≤ 9 → Q (some (.int (Int32.ofInt r))) M) : jc A 1 204 [.ref (413)] M Q := by
  refine jc_of (m := xm_204) rfl (Nat.le_of_ble_eq_true rfl) rfl ?_
  refine jr.aload_n rfl rfl ?_
  obtain ⟨v1, e1⟩ : ∃ z_, M 413 6 = z_ := ⟨_, rfl⟩
  have b1 : (-2147483648) ≤ v1 ∧ v1 ≤ 2147483647 := by rw [← e1]; exact (CI.r hC_M (show kd 413 = 44 from rfl) (by decide) 6)
  refine jr.getf (i := 6) (x := v1) (v := .int (Int32.ofInt (v1))) rfl rfl (by decide) rfl (by decide) rfl rfl e1 rfl ?_
  refine jr.iconst rfl ?_
  refine jr.icmp_eq rfl rfl (by omega) (by omega) (fun h5 => ?_) (fun h5 => ?_)
  · refine jr.aload_n rfl rfl ?_
    obtain ⟨v2, e2⟩ : ∃ z_, M 413 11 = z_ := ⟨_, rfl⟩
    have b2 : 0 ≤ v2 ∧ v2 ≤ 255 := by rw [← e2]; exact (CI.r hC_M (show kd 413 = 44 from rfl) (by decide) 11)
    refine jr.getf (i := 11) (x := v2) (v := .int (Int32.ofInt (v2))) rfl rfl (by decide) rfl (by decide) rfl rfl e2 rfl ?_
    rcases (show v2 = 37 ∨ v2 = 38 ∨ v2 = 42 ∨ v2 = 43 ∨ v2 = 45 ∨ v2 = 47 ∨ v2 = 60 ∨ v2 = 61 ∨ v2 = 62 ∨ v2 = 124 ∨ (v2 ≠ 37 ∧ v2 ≠ 38 ∧ v2 ≠ 42 ∧ v2 ≠ 43 ∧ v2 ≠ 45 ∧ v2 ≠ 47 ∧ v2 ≠ 60 ∧ v2 ≠ 61 ∧ v2 ≠ 62 ∧ v2 ≠ 124) by omega) with h15 | h15 | h15 | h15 | h15 | h15 | h15 | h15 | h15 | h15 | h15
    · refine jr.lsw_k 37 rfl h15 rfl ?_
      refine jr.iconst rfl ?_
      exact jr.ireturn rfl rfl rfl (q _ (by omega) )
    · refine jr.lsw_k 38 rfl h15 rfl ?_
      refine jr.iconst rfl ?_
      exact jr.ireturn rfl rfl rfl (q _ (by omega) )
    · refine jr.lsw_k 42 rfl h15 rfl ?_
      refine jr.iconst rfl ?_
      exact jr.ireturn rfl rfl rfl (q _ (by omega) )
    · refine jr.lsw_k 43 rfl h15 rfl ?_
      refine jr.iconst rfl ?_
      exact jr.ireturn rfl rfl rfl (q _ (by omega) )
    · refine jr.lsw_k 45 rfl h15 rfl ?_
      refine jr.iconst rfl ?_
      exact jr.ireturn rfl rfl rfl (q _ (by omega) )
    · refine jr.lsw_k 47 rfl h15 rfl ?_
      refine jr.iconst rfl ?_
      exact jr.ireturn rfl rfl rfl (q _ (by omega) )
    · refine jr.lsw_k 60 rfl h15 rfl ?_
      refine jr.iconst rfl ?_
      exact jr.ireturn rfl rfl rfl (q _ (by omega) )
    · refine jr.lsw_k 61 rfl h15 rfl ?_
      refine jr.iconst rfl ?_
      exact jr.ireturn rfl rfl rfl (q _ (by omega) )
    · refine jr.lsw_k 62 rfl h15 rfl ?_
      refine jr.iconst rfl ?_
      exact jr.ireturn rfl rfl rfl (q _ (by omega) )
    · refine jr.lsw_k 124 rfl h15 rfl ?_
      refine jr.iconst rfl ?_
      exact jr.ireturn rfl rfl rfl (q _ (by omega) )
    · refine jr.lsw_d rfl (by omega) rfl (fun q hq => by simp only [List.mem_cons, List.not_mem_nil, or_false] at hq; rcases hq with rfl | rfl | rfl | rfl | rfl | rfl | rfl | rfl | rfl | rfl <;> (simp only; omega)) rfl ?_
      refine jr.bipush rfl (by decide) ?_
      exact jr.ireturn rfl rfl rfl (q _ (by omega) )
  · refine jr.bipush rfl (by decide) ?_
    exact jr.ireturn rfl rfl rfl (q _ (by omega) )
theorem c_Flow_hasEnd {A : Nat → Option (Nat × (Nat → Int32))} {Q : Option Value → jm → Prop} {M : jm} (hC_M : CI M) {x : Nat} (k_x : kd x = 1) {y : Int} (h_y : 0 ≤ y ∧ y ≤ 1) {z : Int} (h_z : (-9223372036854775808) ≤ z ∧ z ≤ 9223372036854775807) {u : Int} (h_u : (-2147483648) ≤ u ∧ u ≤ 2147483647) (q : ∀ (r : Int), 0 ≤ r ∧ r ≤ 1 → Q (some (.int (Int32.ofInt r))) M) : jc A 1 66 [.ref (x), .int (Int32.ofInt (y)), .long (Int64.ofInt (z)), .int (Int32.ofInt (u))] M Q := by
  refine jc_of (m := xm_66) rfl (Nat.le_of_ble_eq_true rfl) rfl ?_
  refine jr.aload_n rfl rfl ?_
  have k1 := kf_1_3 k_x
  refine jr.getf (i := 3) (v := .ref (x + 1)) rfl rfl (Nat.lt_trans (kx_1 k_x).1 (by decide)) (kx_1 k_x).2 (by decide) rfl rfl rfl (jval_ref rfl k1.1) ?_
  refine jr.iload_n rfl rfl ?_
  obtain ⟨v2, e2⟩ : ∃ z_, M ((x + 1)) y = z_ := ⟨_, rfl⟩
  have b2 : (-9223372036854775808) ≤ v2 ∧ v2 ≤ 9223372036854775807 := by rw [← e2]; exact (CI.r hC_M k1.2 (by decide) y)
  refine jr.lald (i := y) (x := v2) rfl (Nat.lt_trans (kx_2 k1.2).1 (by decide)) (kx_2 k1.2).2 (by decide) (by omega) (by omega) e2 ?_
  refine jr.lload_n rfl rfl ?_
  refine jr.lcmp_ne rfl rfl rfl (by omega) (by omega) (fun h7 => ?_) (fun h7 => ?_)
  · refine jr.iconst rfl ?_
    exact jr.ireturn rfl rfl rfl (q _ (by omega) )
  · refine jr.aload_n rfl rfl ?_
    have k3 := kf_1_4 k_x
    refine jr.getf (i := 4) (v := .ref (x + 2)) rfl rfl (Nat.lt_trans (kx_1 k_x).1 (by decide)) (kx_1 k_x).2 (by decide) rfl rfl rfl (jval_ref rfl k3.1) ?_
    refine jr.iload_n rfl rfl ?_
    obtain ⟨v4, e4⟩ : ∃ z_, M ((x + 2)) y = z_ := ⟨_, rfl⟩
    have b4 : (-2147483648) ≤ v4 ∧ v4 ≤ 2147483647 := by rw [← e4]; exact (CI.r hC_M k3.2 (by decide) y)
    refine jr.iald (i := y) (x := v4) rfl (Nat.lt_trans (kx_7 k3.2).1 (by decide)) (kx_7 k3.2).2 (by decide) (by omega) (by omega) e4 ?_
    refine jr.iload rfl rfl ?_
    refine jr.icmp_ne rfl rfl (by omega) (by omega) (fun h19 => ?_) (fun h19 => ?_)
    · refine jr.iconst rfl ?_
      exact jr.ireturn rfl rfl rfl (q _ (by omega) )
    · refine jr.iconst rfl ?_
      refine jr.goto rfl rfl ?_
      exact jr.ireturn rfl rfl rfl (q _ (by omega) )
theorem c_Memory_setItem {A : Nat → Option (Nat × (Nat → Int32))} {Q : Option Value → jm → Prop} {M : jm} (hC_M : CI M) {t : Nat} (k_t : kd t = 27) {x : Int} (h_x : 0 ≤ x ∧ x ≤ 3) {y : Int} (h_y : (-2147483648) ≤ y ∧ y ≤ 2147483647) (q : ∀ (r : Int), (-9223372036854775808) ≤ r ∧ r ≤ 9223372036854775807 → Q (some (.long (Int64.ofInt r))) M) : jc A 1 186 [.ref (t), .int (Int32.ofInt (x)), .int (Int32.ofInt (y))] M Q := by
  refine jc_of (m := xm_186) rfl (Nat.le_of_ble_eq_true rfl) rfl ?_
  refine jr.iload_n rfl rfl ?_
  refine jr.if_lt rfl rfl (by omega) (fun h1 => ?_) (fun h1 => ?_)
  · refine jr.ldc2 (x := (-1)) rfl rfl (by decide) ?_
    refine jr.goto rfl rfl ?_
    exact jr.lreturn rfl rfl (q _ (by omega) )
  · refine jr.iload_n rfl rfl ?_
    refine jr.aload_n rfl rfl ?_
    have k1 := kf_27_3 k_t
    refine jr.getf (i := 3) (v := .ref (t + 4)) rfl rfl (Nat.lt_trans (kx_27 k_t).1 (by decide)) (kx_27 k_t).2 (by decide) rfl rfl rfl (jval_ref rfl k1.1) ?_
    refine jr.iload_n rfl rfl ?_
    obtain ⟨v2, e2⟩ : ∃ z_, M ((t + 4)) x = z_ := ⟨_, rfl⟩
    have b2 : 0 ≤ v2 ∧ v2 ≤ 16 := by rw [← e2]; exact (CI.r hC_M k1.2 (by decide) x)
    refine jr.iald (i := x) (x := v2) rfl (Nat.lt_trans (kx_32 k1.2).1 (by decide)) (kx_32 k1.2).2 (by decide) (by omega) (by omega) e2 ?_
    refine jr.icmp_lt rfl rfl (by omega) (by omega) (fun h11 => ?_) (fun h11 => ?_)
    · refine jr.aload_n rfl rfl ?_
      have k3 := kf_27_2 k_t
      refine jr.getf (i := 2) (v := .ref (t + 3)) rfl rfl (Nat.lt_trans (kx_27 k_t).1 (by decide)) (kx_27 k_t).2 (by decide) rfl rfl rfl (jval_ref rfl k3.1) ?_
      refine jr.iload_n rfl rfl ?_
      refine jr.bipush rfl (by decide) ?_
      refine jr.imul rfl ?_
      refine jr.iload_n rfl rfl ?_
      refine jr.iadd rfl ?_
      obtain ⟨v4, e4⟩ : ∃ z_, M ((t + 3)) ((x * 16) + y) = z_ := ⟨_, rfl⟩
      have b4 : (-9223372036854775808) ≤ v4 ∧ v4 ≤ 9223372036854775807 := by rw [← e4]; exact (CI.r hC_M k3.2 (by decide) ((x * 16) + y))
      refine jr.lald (i := ((x * 16) + y)) (x := v4) rfl (Nat.lt_trans (kx_31 k3.2).1 (by decide)) (kx_31 k3.2).2 (by decide) (by omega) (by omega) e4 ?_
      exact jr.lreturn rfl rfl (q _ (by omega) )
    · refine jr.ldc2 (x := (-1)) rfl rfl (by decide) ?_
      refine jr.goto rfl rfl ?_
      exact jr.lreturn rfl rfl (q _ (by omega) )
theorem c_PacketWall_isPacket {A : Nat → Option (Nat × (Nat → Int32))} {Q : Option Value → jm → Prop} {M : jm} (hC_M : CI M) {x : Int} (h_x : (-2147483648) ≤ x ∧ x ≤ 2147483647) (q : ∀ (r : Int), 0 ≤ r ∧ r ≤ 1 → (r = 0 ∨ (0 ≤ x ∧ x ≤ 23)) → Q (some (.int (Int32.ofInt r))) M) : jc A 2 42 [.ref (0), .int (Int32.ofInt (x))] M Q := by
  refine jc_of (m := xm_42) rfl (Nat.le_of_ble_eq_true rfl) rfl ?_
  refine jr.iload_n rfl rfl ?_
  refine jr.if_lt rfl rfl (by omega) (fun h1 => ?_) (fun h1 => ?_)
  · refine jr.iconst rfl ?_
    exact jr.ireturn rfl rfl rfl (q _ (by omega) (by omega))
  · refine jr.iload_n rfl rfl ?_
    refine jr.bipush rfl (by decide) ?_
    refine jr.icmp_ge rfl rfl (by omega) (by omega) (fun h7 => ?_) (fun h7 => ?_)
    · refine jr.iconst rfl ?_
      exact jr.ireturn rfl rfl rfl (q _ (by omega) (by omega))
    · refine jr.aload_n rfl rfl ?_
      refine jr.getf (i := 2) (v := .ref 2) rfl rfl (by decide) rfl (by decide) rfl rfl rfl rfl ?_
      refine jr.iload_n rfl rfl ?_
      have k1 := kxe_42 (a := 2) rfl (i := x) (by omega) (by omega)
      refine jr.aald (c := (xe 2 x)) rfl (by decide) rfl (by decide) (by decide) rfl (by decide) (by omega) (by omega) k1.1 ?_
      refine jr_v rfl rfl (Or.inl rfl) rfl rfl (Nat.lt_trans (kx_33 k1.2).1 (by decide)) (kx_33 k1.2).2 ⟨rfl, Nat.le_of_ble_eq_true rfl, Nat.le_of_ble_eq_true rfl⟩ rfl (jc.deep (c_Packet_isThere hC_M k1.2 (fun r2 z2 w2_0 => ?_)) (by decide))
      obtain ⟨v3, e3⟩ : ∃ z_, M ((xe 2 x)) 1 = z_ := ⟨_, rfl⟩
      have b3 : (-1) ≤ v3 ∧ v3 ≤ 400 := by rw [← e3]; exact (CI.r hC_M k1.2 (by decide) 1)
      refine jr.if_eq rfl rfl (by omega) (fun h19 => ?_) (fun h19 => ?_)
      · refine jr.iconst rfl ?_
        exact jr.ireturn rfl rfl rfl (q _ (by omega) (by omega))
      · have sx19 : (1 : Int) ≤ r2 := by omega
        refine jr.iconst rfl ?_
        refine jr.goto rfl rfl ?_
        exact jr.ireturn rfl rfl rfl (q _ (by omega) (by omega))
noncomputable def W_c_Machine_isRow : List (Nat × Nat) := [(22, 4), (24, 1000)]
theorem c_Machine_isRow {A : Nat → Option (Nat × (Nat → Int32))} {Q : Option Value → jm → Prop} {T : jm} {M : jm} (hC_M : CI M) (ht_M : FR W_c_Machine_isRow T M) {x : Int} (h_x : (-9223372036854775808) ≤ x ∧ x ≤ 9223372036854775807) (q : ∀ (r : Int) (M' : jm), CI M' → FR W_c_Machine_isRow T M' → 0 ≤ r ∧ r ≤ 1 → (r = 0 ∨ (0 ≤ x ∧ x ≤ 7)) → Q (some (.int (Int32.ofInt r))) M') : jc A 2 167 [.ref (421), .long (Int64.ofInt (x))] M Q := by
  refine jc_of (m := xm_167) rfl (Nat.le_of_ble_eq_true rfl) rfl ?_
  refine jr.lload_n rfl rfl ?_
  refine jr.bipush rfl (by decide) ?_
  refine jr_s rfl rfl (Or.inl rfl) ⟨Nat.le_of_ble_eq_true rfl, Nat.le_of_ble_eq_true rfl⟩ rfl rfl (jc.deep (c_Machine_isNot hC_M (by omega) (by omega) (fun r1 z1 w1_0 => ?_)) (by decide))
  refine jr.if_eq rfl rfl (by omega) (fun h6 => ?_) (fun h6 => ?_)
  · refine jr.aload_n rfl rfl ?_
    refine jr.getf (i := 0) (v := .ref 422) rfl rfl (by decide) rfl (by decide) rfl rfl rfl rfl ?_
    refine jr.lload_n rfl rfl ?_
    refine jr.l2i rfl ?_
    have k2 := kxe_25 (a := 422) rfl (i := x) (by omega) (by omega)
    refine jr.aald (c := (xe 422 x)) rfl (by decide) rfl (by decide) (by decide) rfl (by decide) (by omega) (by omega) k2.1 ?_
    obtain ⟨v3, e3⟩ : ∃ z_, M ((xe 422 x)) 0 = z_ := ⟨_, rfl⟩
    have b3 : (-2147483648) ≤ v3 ∧ v3 ≤ 2147483647 := by rw [← e3]; exact (CI.r hC_M k2.2 (by decide) 0)
    refine jr.getf (i := 0) (x := v3) (v := .int (Int32.ofInt (v3))) rfl rfl (Nat.lt_trans (kx_52 k2.2).1 (by decide)) (kx_52 k2.2).2 (by decide) rfl rfl e3 rfl ?_
    refine jr.iconst rfl ?_
    refine jr.icmp_ne rfl rfl (by omega) (by omega) (fun h27 => ?_) (fun h27 => ?_)
    · refine jr.iconst rfl ?_
      exact jr.ireturn rfl rfl rfl (q _ _ hC_M ht_M (by omega) (by omega))
    · refine jr.aload_n rfl rfl ?_
      refine jr.iconst rfl ?_
      refine jr_v rfl rfl (Or.inl rfl) rfl rfl (by decide) rfl ⟨rfl, Nat.le_of_ble_eq_true rfl, Nat.le_of_ble_eq_true rfl⟩ rfl (jc.deep (c_Machine_fail hC_M (FR.rfl _ M) (by omega) (fun M4 hC_M4 hf_M4  => ?_)) (by decide))
      have ht_M4 : FR W_c_Machine_isRow T M4 := FR.t ht_M hf_M4 (kw_sub rfl)
      refine jr.iconst rfl ?_
      exact jr.ireturn rfl rfl rfl (q _ _ hC_M4 ht_M4 (by omega) (by omega))
  · have sx6 : (1 : Int) ≤ r1 := by omega
    refine jr.aload_n rfl rfl ?_
    refine jr.iconst rfl ?_
    refine jr_v rfl rfl (Or.inl rfl) rfl rfl (by decide) rfl ⟨rfl, Nat.le_of_ble_eq_true rfl, Nat.le_of_ble_eq_true rfl⟩ rfl (jc.deep (c_Machine_fail hC_M (FR.rfl _ M) (by omega) (fun M5 hC_M5 hf_M5  => ?_)) (by decide))
    have ht_M5 : FR W_c_Machine_isRow T M5 := FR.t ht_M hf_M5 (kw_sub rfl)
    refine jr.iconst rfl ?_
    exact jr.ireturn rfl rfl rfl (q _ _ hC_M5 ht_M5 (by omega) (by omega))
noncomputable def W_c_Machine_count : List (Nat × Nat) := [(22, 4), (24, 1000), (29, 1000)]
theorem c_Machine_count {A : Nat → Option (Nat × (Nat → Int32))} {Q : Option Value → jm → Prop} {T : jm} {M : jm} (hC_M : CI M) (ht_M : FR W_c_Machine_count T M) (q : ∀ (M' : jm), CI M' → FR W_c_Machine_count T M' → Q none M') : jc A 2 175 [.ref (421)] M Q := by
  refine jc_of (m := xm_175) rfl (Nat.le_of_ble_eq_true rfl) rfl ?_
  refine jr.aload_n rfl rfl ?_
  refine jr.getf (i := 8) (v := .ref 435) rfl rfl (by decide) rfl (by decide) rfl rfl rfl rfl ?_
  refine jr.iconst rfl ?_
  obtain ⟨v1, e1⟩ : ∃ z_, M 435 0 = z_ := ⟨_, rfl⟩
  have b1 : (-9223372036854775808) ≤ v1 ∧ v1 ≤ 9223372036854775807 := by rw [← e1]; exact (CI.r hC_M (show kd 435 = 26 from rfl) (by decide) 0)
  refine jr.lald (i := 0) (x := v1) rfl (by decide) rfl (by decide) (by omega) (by omega) e1 ?_
  refine jr.bipush rfl (by decide) ?_
  refine jr_s rfl rfl (Or.inl rfl) ⟨Nat.le_of_ble_eq_true rfl, Nat.le_of_ble_eq_true rfl⟩ rfl rfl (jc.deep (c_Machine_isNot hC_M (by omega) (by omega) (fun r2 z2 w2_0 => ?_)) (by decide))
  refine jr.if_eq rfl rfl (by omega) (fun h11 => ?_) (fun h11 => ?_)
  · refine jr.aload_n rfl rfl ?_
    refine jr.getf (i := 1) (v := .ref 423) rfl rfl (by decide) rfl (by decide) rfl rfl rfl rfl ?_
    refine jr.getf (i := 0) (v := .ref 424) rfl rfl (by decide) rfl (by decide) rfl rfl rfl rfl ?_
    refine jr.aload_n rfl rfl ?_
    refine jr.getf (i := 8) (v := .ref 435) rfl rfl (by decide) rfl (by decide) rfl rfl rfl rfl ?_
    refine jr.iconst rfl ?_
    refine jr.lald (i := 0) (x := v1) rfl (by decide) rfl (by decide) (by omega) (by omega) e1 ?_
    refine jr.l2i rfl ?_
    refine jr.dup2 rfl ⟨rfl, rfl⟩ ?_
    obtain ⟨v3, e3⟩ : ∃ z_, M 424 v1 = z_ := ⟨_, rfl⟩
    have b3 : (-9223372036854775808) ≤ v3 ∧ v3 ≤ 9223372036854775807 := by rw [← e3]; exact (CI.r hC_M (show kd 424 = 29 from rfl) (by decide) v1)
    refine jr.lald (i := v1) (x := v3) rfl (by decide) rfl (by decide) (by omega) (by omega) e3 ?_
    refine jr.aload_n rfl rfl ?_
    refine jr.getf (i := 8) (v := .ref 435) rfl rfl (by decide) rfl (by decide) rfl rfl rfl rfl ?_
    refine jr.iconst rfl ?_
    obtain ⟨v4, e4⟩ : ∃ z_, M 435 1 = z_ := ⟨_, rfl⟩
    have b4 : (-9223372036854775808) ≤ v4 ∧ v4 ≤ 9223372036854775807 := by rw [← e4]; exact (CI.r hC_M (show kd 435 = 26 from rfl) (by decide) 1)
    refine jr.lald (i := 1) (x := v4) rfl (by decide) rfl (by decide) (by omega) (by omega) e4 ?_
    refine jr.ladd rfl ?_
    refine jr.lw (jl_w (v3 + v4)) (jl_w_eq _) ?_
    have b5 : -9223372036854775808 ≤ jl_w (v3 + v4) ∧ jl_w (v3 + v4) ≤ 9223372036854775807 := jbl_any _
    generalize jl_w (v3 + v4) = v5 at b5 ⊢
    refine jr.last (i := v1) (x := v5) rfl (by decide) rfl (by decide) (by omega) (by omega) ?_
    exact jr.vreturn rfl rfl (q _ (CI.u hC_M (i := v1) (show kd 424 = 29 from rfl) (show (-9223372036854775808 : Int) ≤ _ ∧ _ ≤ (9223372036854775807 : Int) from by omega) rfl) (FR.o ht_M (show kd 424 = 29 from rfl) rfl)  )
  · have sx11 : (1 : Int) ≤ r2 := by omega
    refine jr.aload_n rfl rfl ?_
    refine jr.iconst rfl ?_
    refine jr_v rfl rfl (Or.inl rfl) rfl rfl (by decide) rfl ⟨rfl, Nat.le_of_ble_eq_true rfl, Nat.le_of_ble_eq_true rfl⟩ rfl (jc.deep (c_Machine_fail hC_M (FR.rfl _ M) (by omega) (fun M6 hC_M6 hf_M6  => ?_)) (by decide))
    have ht_M6 : FR W_c_Machine_count T M6 := FR.t ht_M hf_M6 (kw_sub rfl)
    refine jr.goto rfl rfl ?_
    exact jr.vreturn rfl rfl (q _ hC_M6 ht_M6  )
noncomputable def W_c_Machine_pushTruth : List (Nat × Nat) := [(22, 9), (26, 1000)]
theorem c_Machine_pushTruth {A : Nat → Option (Nat × (Nat → Int32))} {Q : Option Value → jm → Prop} {T : jm} {M : jm} (hC_M : CI M) (ht_M : FR W_c_Machine_pushTruth T M) {x : Int} (h_x : 0 ≤ x ∧ x ≤ 1) (q : ∀ (M' : jm), CI M' → FR W_c_Machine_pushTruth T M' → Q none M') : jc A 2 155 [.ref (421), .int (Int32.ofInt (x))] M Q := by
  refine jc_of (m := xm_155) rfl (Nat.le_of_ble_eq_true rfl) rfl ?_
  refine jr.aload_n rfl rfl ?_
  refine jr.iload_n rfl rfl ?_
  refine jr.if_eq rfl rfl (by omega) (fun h2 => ?_) (fun h2 => ?_)
  · refine jr.lconst (x := 0) rfl (by decide) ?_
    refine jr_v rfl rfl (Or.inl rfl) rfl rfl (by decide) rfl ⟨rfl, Nat.le_of_ble_eq_true rfl, Nat.le_of_ble_eq_true rfl⟩ rfl (jc.deep (c_Machine_push hC_M (FR.rfl _ M) (by omega) (fun M1 hC_M1 hf_M1  => ?_)) (by decide))
    have ht_M1 : FR W_c_Machine_pushTruth T M1 := FR.t ht_M hf_M1 (kw_sub rfl)
    exact jr.vreturn rfl rfl (q _ hC_M1 ht_M1  )
  · have sx2 : (1 : Int) ≤ x := by omega
    refine jr.lconst (x := 1) rfl (by decide) ?_
    refine jr.goto rfl rfl ?_
    refine jr_v rfl rfl (Or.inl rfl) rfl rfl (by decide) rfl ⟨rfl, Nat.le_of_ble_eq_true rfl, Nat.le_of_ble_eq_true rfl⟩ rfl (jc.deep (c_Machine_push hC_M (FR.rfl _ M) (by omega) (fun M2 hC_M2 hf_M2  => ?_)) (by decide))
    have ht_M2 : FR W_c_Machine_pushTruth T M2 := FR.t ht_M hf_M2 (kw_sub rfl)
    exact jr.vreturn rfl rfl (q _ hC_M2 ht_M2  )
noncomputable def W_c_Machine_spend : List (Nat × Nat) := [(22, 4), (22, 9), (24, 1000), (26, 1000), (28, 1000)]
theorem c_Machine_spend {A : Nat → Option (Nat × (Nat → Int32))} {Q : Option Value → jm → Prop} {T : jm} {M : jm} (hC_M : CI M) (ht_M : FR W_c_Machine_spend T M) {x : Int} (h_x : (-9223372036854775808) ≤ x ∧ x ≤ 9223372036854775807) (q : ∀ (M' : jm), CI M' → FR W_c_Machine_spend T M' → Q none M') : jc A 3 161 [.ref (421), .long (Int64.ofInt (x))] M Q := by
  refine jc_of (m := xm_161) rfl (Nat.le_of_ble_eq_true rfl) rfl ?_
  refine jr.lload_n rfl rfl ?_
  refine jr.iconst rfl ?_
  refine jr_s rfl rfl (Or.inl rfl) ⟨Nat.le_of_ble_eq_true rfl, Nat.le_of_ble_eq_true rfl⟩ rfl rfl (jc.deep (c_Machine_isNot hC_M (by omega) (by omega) (fun r1 z1 w1_0 => ?_)) (by decide))
  refine jr.if_eq rfl rfl (by omega) (fun h5 => ?_) (fun h5 => ?_)
  · refine jr.aload_n rfl rfl ?_
    refine jr.getf (i := 1) (v := .ref 423) rfl rfl (by decide) rfl (by decide) rfl rfl rfl rfl ?_
    refine jr.getf (i := 1) (v := .ref 425) rfl rfl (by decide) rfl (by decide) rfl rfl rfl rfl ?_
    refine jr.lload_n rfl rfl ?_
    refine jr.l2i rfl ?_
    obtain ⟨v2, e2⟩ : ∃ z_, M 425 x = z_ := ⟨_, rfl⟩
    have b2 : (-2147483648) ≤ v2 ∧ v2 ≤ 2147483647 := by rw [← e2]; exact (CI.r hC_M (show kd 425 = 28 from rfl) (by decide) x)
    refine jr.iald (i := x) (x := v2) rfl (by decide) rfl (by decide) (by omega) (by omega) e2 ?_
    refine jr.if_le rfl rfl (by omega) (fun h24 => ?_) (fun h24 => ?_)
    · refine jr.iconst rfl ?_
      refine jr.istore_n rfl (by decide) rfl ?_
      refine jr.aload_n rfl rfl ?_
      refine jr.getf (i := 1) (v := .ref 423) rfl rfl (by decide) rfl (by decide) rfl rfl rfl rfl ?_
      refine jr.getf (i := 1) (v := .ref 425) rfl rfl (by decide) rfl (by decide) rfl rfl rfl rfl ?_
      refine jr.lload_n rfl rfl ?_
      refine jr.l2i rfl ?_
      refine jr.dup2 rfl ⟨rfl, rfl⟩ ?_
      refine jr.iald (i := x) (x := v2) rfl (by decide) rfl (by decide) (by omega) (by omega) e2 ?_
      refine jr.iload_n rfl rfl ?_
      refine jr.if_eq rfl rfl (by omega) (fun _ => ?_) (fun h => absurd (by decide) h)
      refine jr.iconst rfl ?_
      refine jr.isub rfl ?_
      refine jr.iast (i := x) (x := (v2 - 0)) rfl (by decide) rfl (by decide) (by omega) (by omega) ?_
      refine jr.aload_n rfl rfl ?_
      refine jr.iload_n rfl rfl ?_
      refine jr_v rfl rfl (Or.inl rfl) rfl rfl (by decide) rfl ⟨rfl, Nat.le_of_ble_eq_true rfl, Nat.le_of_ble_eq_true rfl⟩ rfl (jc.deep (c_Machine_pushTruth (CI.u hC_M (i := x) (show kd 425 = 28 from rfl) (show (-2147483648 : Int) ≤ _ ∧ _ ≤ (2147483647 : Int) from by omega) rfl) (FR.rfl _ ((ju M 425 x (v2 - 0)))) (by omega) (fun M3 hC_M3 hf_M3  => ?_)) (by decide))
      have ht_M3 : FR W_c_Machine_spend T M3 := FR.t (FR.o ht_M (show kd 425 = 28 from rfl) rfl) hf_M3 (kw_sub rfl)
      exact jr.vreturn rfl rfl (q _ hC_M3 ht_M3  )
    · refine jr.iconst rfl ?_
      refine jr.goto rfl rfl ?_
      refine jr.istore_n rfl (by decide) rfl ?_
      refine jr.aload_n rfl rfl ?_
      refine jr.getf (i := 1) (v := .ref 423) rfl rfl (by decide) rfl (by decide) rfl rfl rfl rfl ?_
      refine jr.getf (i := 1) (v := .ref 425) rfl rfl (by decide) rfl (by decide) rfl rfl rfl rfl ?_
      refine jr.lload_n rfl rfl ?_
      refine jr.l2i rfl ?_
      refine jr.dup2 rfl ⟨rfl, rfl⟩ ?_
      refine jr.iald (i := x) (x := v2) rfl (by decide) rfl (by decide) (by omega) (by omega) e2 ?_
      refine jr.iload_n rfl rfl ?_
      refine jr.if_eq rfl rfl (by omega) (fun h => absurd h (by decide)) (fun _ => ?_)
      refine jr.iconst rfl ?_
      refine jr.goto rfl rfl ?_
      refine jr.isub rfl ?_
      refine jr.iast (i := x) (x := (v2 - 1)) rfl (by decide) rfl (by decide) (by omega) (by omega) ?_
      refine jr.aload_n rfl rfl ?_
      refine jr.iload_n rfl rfl ?_
      refine jr_v rfl rfl (Or.inl rfl) rfl rfl (by decide) rfl ⟨rfl, Nat.le_of_ble_eq_true rfl, Nat.le_of_ble_eq_true rfl⟩ rfl (jc.deep (c_Machine_pushTruth (CI.u hC_M (i := x) (show kd 425 = 28 from rfl) (show (-2147483648 : Int) ≤ _ ∧ _ ≤ (2147483647 : Int) from by omega) rfl) (FR.rfl _ ((ju M 425 x (v2 - 1)))) (by omega) (fun M4 hC_M4 hf_M4  => ?_)) (by decide))
      have ht_M4 : FR W_c_Machine_spend T M4 := FR.t (FR.o ht_M (show kd 425 = 28 from rfl) rfl) hf_M4 (kw_sub rfl)
      exact jr.vreturn rfl rfl (q _ hC_M4 ht_M4  )
  · have sx5 : (1 : Int) ≤ r1 := by omega
    refine jr.aload_n rfl rfl ?_
    refine jr.iconst rfl ?_
    refine jr_v rfl rfl (Or.inl rfl) rfl rfl (by decide) rfl ⟨rfl, Nat.le_of_ble_eq_true rfl, Nat.le_of_ble_eq_true rfl⟩ rfl (jc.deep (c_Machine_fail hC_M (FR.rfl _ M) (by omega) (fun M5 hC_M5 hf_M5  => ?_)) (by decide))
    have ht_M5 : FR W_c_Machine_spend T M5 := FR.t ht_M hf_M5 (kw_sub rfl)
    exact jr.vreturn rfl rfl (q _ hC_M5 ht_M5  )
noncomputable def W_c_Machine_isItemOfNumbers : List (Nat × Nat) := [(22, 4), (24, 1000)]
theorem c_Machine_isItemOfNumbers {A : Nat → Option (Nat × (Nat → Int32))} {Q : Option Value → jm → Prop} {T : jm} {M : jm} (hC_M : CI M) (ht_M : FR W_c_Machine_isItemOfNumbers T M) {x : Int} (h_x : (-9223372036854775808) ≤ x ∧ x ≤ 9223372036854775807) {y : Int} (h_y : (-9223372036854775808) ≤ y ∧ y ≤ 9223372036854775807) (q : ∀ (r : Int) (M' : jm), CI M' → FR W_c_Machine_isItemOfNumbers T M' → 0 ≤ r ∧ r ≤ 1 → (r = 0 ∨ ((0 ≤ x ∧ x ≤ 7) ∧ 0 ≤ y ∧ y ≤ 39)) → Q (some (.int (Int32.ofInt r))) M') : jc A 3 168 [.ref (421), .long (Int64.ofInt (x)), .long (Int64.ofInt (y))] M Q := by
  refine jc_of (m := xm_168) rfl (Nat.le_of_ble_eq_true rfl) rfl ?_
  refine jr.aload_n rfl rfl ?_
  refine jr.lload_n rfl rfl ?_
  refine jr_v rfl rfl (Or.inl rfl) rfl rfl (by decide) rfl ⟨rfl, Nat.le_of_ble_eq_true rfl, Nat.le_of_ble_eq_true rfl⟩ rfl (jc.deep (c_Machine_isRow hC_M (FR.rfl _ M) (by omega) (fun r1 M1 hC_M1 hf_M1 z1 w1_0 => ?_)) (by decide))
  have ht_M1 : FR W_c_Machine_isItemOfNumbers T M1 := FR.t ht_M hf_M1 (kw_sub rfl)
  refine jr.if_ne rfl rfl (by omega) (fun h5 => ?_) (fun h5 => ?_)
  · have sx5 : (1 : Int) ≤ r1 := by omega
    refine jr.aload_n rfl rfl ?_
    refine jr.getf (i := 0) (v := .ref 422) rfl rfl (by decide) rfl (by decide) rfl rfl rfl rfl ?_
    refine jr.lload_n rfl rfl ?_
    refine jr.l2i rfl ?_
    have k2 := kxe_25 (a := 422) rfl (i := x) (by omega) (by omega)
    refine jr.aald (c := (xe 422 x)) rfl (by decide) rfl (by decide) (by decide) rfl (by decide) (by omega) (by omega) k2.1 ?_
    refine jr_v rfl rfl (Or.inl rfl) rfl rfl (Nat.lt_trans (kx_52 k2.2).1 (by decide)) (kx_52 k2.2).2 ⟨rfl, Nat.le_of_ble_eq_true rfl, Nat.le_of_ble_eq_true rfl⟩ rfl (jc.deep (c_Row_isOfHeaders hC_M1 k2.2 (fun r3 z3  => ?_)) (by decide))
    refine jr.if_eq rfl rfl (by omega) (fun h20 => ?_) (fun h20 => ?_)
    · refine jr.aload_n rfl rfl ?_
      refine jr.getf (i := 0) (v := .ref 422) rfl rfl (by decide) rfl (by decide) rfl rfl rfl rfl ?_
      refine jr.lload_n rfl rfl ?_
      refine jr.l2i rfl ?_
      have k4 := kxe_25 (a := 422) rfl (i := x) (by omega) (by omega)
      refine jr.aald (c := (xe 422 x)) rfl (by decide) rfl (by decide) (by decide) rfl (by decide) (by omega) (by omega) k4.1 ?_
      refine jr.lload_n rfl rfl ?_
      refine jr_v rfl rfl (Or.inl rfl) rfl rfl (Nat.lt_trans (kx_52 k4.2).1 (by decide)) (kx_52 k4.2).2 ⟨rfl, Nat.le_of_ble_eq_true rfl, Nat.le_of_ble_eq_true rfl⟩ rfl (jc.deep (c_Row_hasItem hC_M1 k4.2 (by omega) (fun r5 z5 w5_0 => ?_)) (by decide))
      refine jr.if_ne rfl rfl (by omega) (fun h41 => ?_) (fun h41 => ?_)
      · have sx41 : (1 : Int) ≤ r5 := by omega
        refine jr.iconst rfl ?_
        exact jr.ireturn rfl rfl rfl (q _ _ hC_M1 ht_M1 (by omega) (by omega))
      · refine jr.aload_n rfl rfl ?_
        refine jr.iconst rfl ?_
        refine jr_v rfl rfl (Or.inl rfl) rfl rfl (by decide) rfl ⟨rfl, Nat.le_of_ble_eq_true rfl, Nat.le_of_ble_eq_true rfl⟩ rfl (jc.deep (c_Machine_fail hC_M1 (FR.rfl _ M1) (by omega) (fun M6 hC_M6 hf_M6  => ?_)) (by decide))
        have ht_M6 : FR W_c_Machine_isItemOfNumbers T M6 := FR.t ht_M1 hf_M6 (kw_sub rfl)
        refine jr.iconst rfl ?_
        exact jr.ireturn rfl rfl rfl (q _ _ hC_M6 ht_M6 (by omega) (by omega))
    · have sx20 : (1 : Int) ≤ r3 := by omega
      refine jr.aload_n rfl rfl ?_
      refine jr.iconst rfl ?_
      refine jr_v rfl rfl (Or.inl rfl) rfl rfl (by decide) rfl ⟨rfl, Nat.le_of_ble_eq_true rfl, Nat.le_of_ble_eq_true rfl⟩ rfl (jc.deep (c_Machine_fail hC_M1 (FR.rfl _ M1) (by omega) (fun M7 hC_M7 hf_M7  => ?_)) (by decide))
      have ht_M7 : FR W_c_Machine_isItemOfNumbers T M7 := FR.t ht_M1 hf_M7 (kw_sub rfl)
      refine jr.iconst rfl ?_
      exact jr.ireturn rfl rfl rfl (q _ _ hC_M7 ht_M7 (by omega) (by omega))
  · refine jr.iconst rfl ?_
    exact jr.ireturn rfl rfl rfl (q _ _ hC_M1 ht_M1 (by omega) (by omega))
theorem c_Memory_knows_L3 {A : Nat → Option (Nat × (Nat → Int32))} {Q : Option Value → jm → Prop} {M : jm} (hC_M : CI M) {t : Nat} (k_t : kd t = 27) {x : Int} {y : Int} (q : ∀ (r : Int), 0 ≤ r ∧ r ≤ 1 → Q (some (.int (Int32.ofInt r))) M) : ∀ (nM : Nat) (i : Int), 0 ≤ x ∧ x ≤ 3 → (-9223372036854775808) ≤ y ∧ y ≤ 9223372036854775807 → 0 ≤ i ∧ i ≤ 16 → 16 - i ≤ nM → jr A 0 xm_187 3 [(1, .int (Int32.ofInt (x))), (2, .long (Int64.ofInt (y))), (4, .int (Int32.ofInt (i))), (0, .ref (t))] [] M Q := by
  intro nM
  induction nM using Nat.strongRecOn with
  | ind nM ih =>
    intro i h_x h_y h_i hm
    refine jr.iload rfl rfl ?_
    refine jr.aload_n rfl rfl ?_
    have k1 := kf_27_3 k_t
    refine jr.getf (i := 3) (v := .ref (t + 4)) rfl rfl (Nat.lt_trans (kx_27 k_t).1 (by decide)) (kx_27 k_t).2 (by decide) rfl rfl rfl (jval_ref rfl k1.1) ?_
    refine jr.iload_n rfl rfl ?_
    obtain ⟨v2, e2⟩ : ∃ z_, M ((t + 4)) x = z_ := ⟨_, rfl⟩
    have b2 : 0 ≤ v2 ∧ v2 ≤ 16 := by rw [← e2]; exact (CI.r hC_M k1.2 (by decide) x)
    refine jr.iald (i := x) (x := v2) rfl (Nat.lt_trans (kx_32 k1.2).1 (by decide)) (kx_32 k1.2).2 (by decide) (by omega) (by omega) e2 ?_
    refine jr.icmp_ge rfl rfl (by omega) (by omega) (fun h11 => ?_) (fun h11 => ?_)
    · refine jr.iconst rfl ?_
      exact jr.ireturn rfl rfl rfl (q _ (by omega) )
    · refine jr.aload_n rfl rfl ?_
      have k3 := kf_27_2 k_t
      refine jr.getf (i := 2) (v := .ref (t + 3)) rfl rfl (Nat.lt_trans (kx_27 k_t).1 (by decide)) (kx_27 k_t).2 (by decide) rfl rfl rfl (jval_ref rfl k3.1) ?_
      refine jr.iload_n rfl rfl ?_
      refine jr.bipush rfl (by decide) ?_
      refine jr.imul rfl ?_
      refine jr.iload rfl rfl ?_
      refine jr.iadd rfl ?_
      obtain ⟨v4, e4⟩ : ∃ z_, M ((t + 3)) ((x * 16) + i) = z_ := ⟨_, rfl⟩
      have b4 : (-9223372036854775808) ≤ v4 ∧ v4 ≤ 9223372036854775807 := by rw [← e4]; exact (CI.r hC_M k3.2 (by decide) ((x * 16) + i))
      refine jr.lald (i := ((x * 16) + i)) (x := v4) rfl (Nat.lt_trans (kx_31 k3.2).1 (by decide)) (kx_31 k3.2).2 (by decide) (by omega) (by omega) e4 ?_
      refine jr.lload_n rfl rfl ?_
      refine jr.lcmp_ne rfl rfl rfl (by omega) (by omega) (fun h27 => ?_) (fun h27 => ?_)
      · refine jr.iinc rfl rfl (by decide) rfl ?_
        refine jr.goto rfl rfl ?_
        refine jr.pick [1, 2, 0, 3] rfl rfl ?_
        exact ih (nM - 1) (by omega) (i + 1) (by omega) (by omega) (by omega)  (by omega)
      · refine jr.iconst rfl ?_
        exact jr.ireturn rfl rfl rfl (q _ (by omega) )
theorem c_Memory_knows {A : Nat → Option (Nat × (Nat → Int32))} {Q : Option Value → jm → Prop} {M : jm} (hC_M : CI M) {t : Nat} (k_t : kd t = 27) {x : Int} (h_x : 0 ≤ x ∧ x ≤ 3) {y : Int} (h_y : (-9223372036854775808) ≤ y ∧ y ≤ 9223372036854775807) (q : ∀ (r : Int), 0 ≤ r ∧ r ≤ 1 → Q (some (.int (Int32.ofInt r))) M) : jc A 1 187 [.ref (t), .int (Int32.ofInt (x)), .long (Int64.ofInt (y))] M Q := by
  refine jc_of (m := xm_187) rfl (Nat.le_of_ble_eq_true rfl) rfl ?_
  refine jr.iconst rfl ?_
  refine jr.istore rfl (by decide) rfl ?_
  refine jr.pick [2, 3, 0, 1] rfl rfl ?_
  exact c_Memory_knows_L3 hC_M k_t q 16 0 (by omega) (by omega) (by omega)  (by omega)
theorem c_Headers_innerOf_L4 {A : Nat → Option (Nat × (Nat → Int32))} {Q : Option Value → jm → Prop} {M : jm} (hC_M : CI M) {t : Nat} (k_t : kd t = 18) (q : ∀ (r : Int), (-1) ≤ r ∧ r ≤ 11 → (r = (-1) ∨ r < M t 3) → Q (some (.int (Int32.ofInt r))) M) : ∀ (nM : Nat) (i : Int), 0 ≤ i ∧ i ≤ 12 → 12 - i ≤ nM → jr A 0 xm_114 4 [(2, .int (Int32.ofInt (i))), (0, .ref (t))] [] M Q := by
  intro nM
  induction nM using Nat.strongRecOn with
  | ind nM ih =>
    intro i h_i hm
    refine jr.iload_n rfl rfl ?_
    refine jr.aload_n rfl rfl ?_
    obtain ⟨v1, e1⟩ : ∃ z_, M t 3 = z_ := ⟨_, rfl⟩
    have b1 : 0 ≤ v1 ∧ v1 ≤ 12 := by rw [← e1]; exact (CI.r hC_M k_t (by decide) 3)
    refine jr.getf (i := 3) (x := v1) (v := .int (Int32.ofInt (v1))) rfl rfl (Nat.lt_trans (kx_18 k_t).1 (by decide)) (kx_18 k_t).2 (by decide) rfl rfl e1 rfl ?_
    refine jr.icmp_ge rfl rfl (by omega) (by omega) (fun h9 => ?_) (fun h9 => ?_)
    · refine jr.iload_n rfl rfl ?_
      refine jr.aload_n rfl rfl ?_
      refine jr.getf (i := 3) (x := v1) (v := .int (Int32.ofInt (v1))) rfl rfl (Nat.lt_trans (kx_18 k_t).1 (by decide)) (kx_18 k_t).2 (by decide) rfl rfl e1 rfl ?_
      refine jr.icmp_ge rfl rfl (by omega) (by omega) (fun h43 => ?_) (fun h43 => ?_)
      · refine jr.iconst rfl ?_
        exact jr.ireturn rfl rfl rfl (q _ (by omega) (by omega))
      · refine jr.iload_n rfl rfl ?_
        refine jr.goto rfl rfl ?_
        exact jr.ireturn rfl rfl rfl (q _ (by omega) (by omega))
    · refine jr.aload_n rfl rfl ?_
      have k2 := kf_18_0 k_t
      refine jr.getf (i := 0) (v := .ref (t + 1)) rfl rfl (Nat.lt_trans (kx_18 k_t).1 (by decide)) (kx_18 k_t).2 (by decide) rfl rfl rfl (jval_ref rfl k2.1) ?_
      refine jr.iload_n rfl rfl ?_
      obtain ⟨v3, e3⟩ : ∃ z_, M ((t + 1)) i = z_ := ⟨_, rfl⟩
      have b3 : 0 ≤ v3 ∧ v3 ≤ 11 := by rw [← e3]; exact (CI.r hC_M k2.2 (by decide) i)
      refine jr.iald (i := i) (x := v3) rfl (Nat.lt_trans (kx_19 k2.2).1 (by decide)) (kx_19 k2.2).2 (by decide) (by omega) (by omega) e3 ?_
      refine jr.iconst rfl ?_
      refine jr.icmp_eq rfl rfl (by omega) (by omega) (fun h19 => ?_) (fun h19 => ?_)
      · refine jr.iinc rfl rfl (by decide) rfl ?_
        refine jr.goto rfl rfl ?_
        refine jr.pick [0, 1] rfl rfl ?_
        exact ih (nM - 1) (by omega) (i + 1) (by omega)  (by omega)
      · refine jr.aload_n rfl rfl ?_
        have k4 := kf_18_0 k_t
        refine jr.getf (i := 0) (v := .ref (t + 1)) rfl rfl (Nat.lt_trans (kx_18 k_t).1 (by decide)) (kx_18 k_t).2 (by decide) rfl rfl rfl (jval_ref rfl k4.1) ?_
        refine jr.iload_n rfl rfl ?_
        refine jr.iald (i := i) (x := v3) rfl (Nat.lt_trans (kx_19 k4.2).1 (by decide)) (kx_19 k4.2).2 (by decide) (by omega) (by omega) e3 ?_
        refine jr.iconst rfl ?_
        refine jr.icmp_ne rfl rfl (by omega) (by omega) (fun h29 => ?_) (fun h29 => ?_)
        · refine jr.iload_n rfl rfl ?_
          refine jr.aload_n rfl rfl ?_
          refine jr.getf (i := 3) (x := v1) (v := .int (Int32.ofInt (v1))) rfl rfl (Nat.lt_trans (kx_18 k_t).1 (by decide)) (kx_18 k_t).2 (by decide) rfl rfl e1 rfl ?_
          refine jr.icmp_ge rfl rfl (by omega) (by omega) (fun h43 => ?_) (fun h43 => ?_)
          · refine jr.iconst rfl ?_
            exact jr.ireturn rfl rfl rfl (q _ (by omega) (by omega))
          · refine jr.iload_n rfl rfl ?_
            refine jr.goto rfl rfl ?_
            exact jr.ireturn rfl rfl rfl (q _ (by omega) (by omega))
        · refine jr.iinc rfl rfl (by decide) rfl ?_
          refine jr.goto rfl rfl ?_
          refine jr.pick [0, 1] rfl rfl ?_
          exact ih (nM - 1) (by omega) (i + 1) (by omega)  (by omega)
theorem c_Headers_innerOf {A : Nat → Option (Nat × (Nat → Int32))} {Q : Option Value → jm → Prop} {M : jm} (hC_M : CI M) {t : Nat} (k_t : kd t = 18) {x : Int} (h_x : (-1) ≤ x ∧ x ≤ 11) (q : ∀ (r : Int), (-1) ≤ r ∧ r ≤ 11 → (r = (-1) ∨ r < M t 3) → Q (some (.int (Int32.ofInt r))) M) : jc A 1 114 [.ref (t), .int (Int32.ofInt (x))] M Q := by
  refine jc_of (m := xm_114) rfl (Nat.le_of_ble_eq_true rfl) rfl ?_
  refine jr.iload_n rfl rfl ?_
  refine jr.iconst rfl ?_
  refine jr.iadd rfl ?_
  refine jr.istore_n rfl (by decide) rfl ?_
  refine jr.pick [0, 1] rfl rfl ?_
  exact c_Headers_innerOf_L4 hC_M k_t q 12 (x + 1) (by omega)  (by omega)
theorem c_Headers_firstOf_L2 {A : Nat → Option (Nat × (Nat → Int32))} {Q : Option Value → jm → Prop} {M : jm} (hC_M : CI M) {t : Nat} (k_t : kd t = 18) {x : Int} (q : ∀ (r : Int), (-1) ≤ r ∧ r ≤ 11 → (r = (-1) ∨ ((0 ≤ r ∧ r < M t 3) ∧ (x ≠ 12 ∨ (2 ≤ M (t + 1) r ∧ M (t + 1) r ≤ 3)))) → Q (some (.int (Int32.ofInt r))) M) : ∀ (nM : Nat) (i : Int), (-2147483648) ≤ x ∧ x ≤ 2147483647 → 0 ≤ i ∧ i ≤ 12 → 12 - i ≤ nM → jr A 1 xm_111 2 [(1, .int (Int32.ofInt (x))), (2, .int (Int32.ofInt (i))), (0, .ref (t))] [] M Q := by
  intro nM
  induction nM using Nat.strongRecOn with
  | ind nM ih =>
    intro i h_x h_i hm
    refine jr.iload_n rfl rfl ?_
    refine jr.aload_n rfl rfl ?_
    obtain ⟨v1, e1⟩ : ∃ z_, M t 3 = z_ := ⟨_, rfl⟩
    have b1 : 0 ≤ v1 ∧ v1 ≤ 12 := by rw [← e1]; exact (CI.r hC_M k_t (by decide) 3)
    refine jr.getf (i := 3) (x := v1) (v := .int (Int32.ofInt (v1))) rfl rfl (Nat.lt_trans (kx_18 k_t).1 (by decide)) (kx_18 k_t).2 (by decide) rfl rfl e1 rfl ?_
    refine jr.icmp_ge rfl rfl (by omega) (by omega) (fun h7 => ?_) (fun h7 => ?_)
    · refine jr.iconst rfl ?_
      exact jr.ireturn rfl rfl rfl (q _ (by omega) (by omega))
    · refine jr.aload_n rfl rfl ?_
      have k2 := kf_18_0 k_t
      refine jr.getf (i := 0) (v := .ref (t + 1)) rfl rfl (Nat.lt_trans (kx_18 k_t).1 (by decide)) (kx_18 k_t).2 (by decide) rfl rfl rfl (jval_ref rfl k2.1) ?_
      refine jr.iload_n rfl rfl ?_
      obtain ⟨v3, e3⟩ : ∃ z_, M ((t + 1)) i = z_ := ⟨_, rfl⟩
      have b3 : 0 ≤ v3 ∧ v3 ≤ 11 := by rw [← e3]; exact (CI.r hC_M k2.2 (by decide) i)
      refine jr.iald (i := i) (x := v3) rfl (Nat.lt_trans (kx_19 k2.2).1 (by decide)) (kx_19 k2.2).2 (by decide) (by omega) (by omega) e3 ?_
      refine jr.iload_n rfl rfl ?_
      refine jr.icmp_eq rfl rfl (by omega) (by omega) (fun h17 => ?_) (fun h17 => ?_)
      · refine jr.iload_n rfl rfl ?_
        exact jr.ireturn rfl rfl rfl (q _ (by omega) (by omega))
      · refine jr.iload_n rfl rfl ?_
        refine jr.bipush rfl (by decide) ?_
        refine jr.icmp_ne rfl rfl (by omega) (by omega) (fun h23 => ?_) (fun h23 => ?_)
        · refine jr.iload_n rfl rfl ?_
          refine jr.bipush rfl (by decide) ?_
          refine jr.icmp_ne rfl rfl (by omega) (by omega) (fun h41 => ?_) (fun h41 => ?_)
          · refine jr.iinc rfl rfl (by decide) rfl ?_
            refine jr.goto rfl rfl ?_
            refine jr.pick [1, 0, 2] rfl rfl ?_
            exact ih (nM - 1) (by omega) (i + 1) (by omega) (by omega)  (by omega)
          · refine jr.aload_n rfl rfl ?_
            have k4 := kf_18_0 k_t
            refine jr.getf (i := 0) (v := .ref (t + 1)) rfl rfl (Nat.lt_trans (kx_18 k_t).1 (by decide)) (kx_18 k_t).2 (by decide) rfl rfl rfl (jval_ref rfl k4.1) ?_
            refine jr.iload_n rfl rfl ?_
            refine jr.iald (i := i) (x := v3) rfl (Nat.lt_trans (kx_19 k4.2).1 (by decide)) (kx_19 k4.2).2 (by decide) (by omega) (by omega) e3 ?_
            refine jr_s rfl rfl (Or.inr rfl) ⟨Nat.le_of_ble_eq_true rfl, Nat.le_of_ble_eq_true rfl⟩ rfl rfl (jc.deep (c_PacketWall_isCarriedKind hC_M (by omega) (fun r5 z5 w5_0 => ?_)) (by decide))
            refine jr.if_eq rfl rfl (by omega) (fun h53 => ?_) (fun h53 => ?_)
            · refine jr.iinc rfl rfl (by decide) rfl ?_
              refine jr.goto rfl rfl ?_
              refine jr.pick [1, 0, 2] rfl rfl ?_
              exact ih (nM - 1) (by omega) (i + 1) (by omega) (by omega)  (by omega)
            · have sx53 : (1 : Int) ≤ r5 := by omega
              refine jr.iload_n rfl rfl ?_
              exact jr.ireturn rfl rfl rfl (q _ (by omega) (by omega))
        · refine jr.aload_n rfl rfl ?_
          have k6 := kf_18_0 k_t
          refine jr.getf (i := 0) (v := .ref (t + 1)) rfl rfl (Nat.lt_trans (kx_18 k_t).1 (by decide)) (kx_18 k_t).2 (by decide) rfl rfl rfl (jval_ref rfl k6.1) ?_
          refine jr.iload_n rfl rfl ?_
          refine jr.iald (i := i) (x := v3) rfl (Nat.lt_trans (kx_19 k6.2).1 (by decide)) (kx_19 k6.2).2 (by decide) (by omega) (by omega) e3 ?_
          refine jr_s rfl rfl (Or.inr rfl) ⟨Nat.le_of_ble_eq_true rfl, Nat.le_of_ble_eq_true rfl⟩ rfl rfl (jc.deep (c_PacketWall_isNetKind hC_M (by omega) (fun r7 z7 w7_0 => ?_)) (by decide))
          refine jr.if_ne rfl rfl (by omega) (fun h35 => ?_) (fun h35 => ?_)
          · have sx35 : (1 : Int) ≤ r7 := by omega
            refine jr.iload_n rfl rfl ?_
            exact jr.ireturn rfl rfl rfl (q _ (by omega) (by omega))
          · refine jr.iload_n rfl rfl ?_
            refine jr.bipush rfl (by decide) ?_
            refine jr.icmp_ne rfl rfl (by omega) (by omega) (fun h41 => ?_) (fun h41 => ?_)
            · refine jr.iinc rfl rfl (by decide) rfl ?_
              refine jr.goto rfl rfl ?_
              refine jr.pick [1, 0, 2] rfl rfl ?_
              exact ih (nM - 1) (by omega) (i + 1) (by omega) (by omega)  (by omega)
            · exact absurd (by omega) h41
theorem c_Headers_firstOf {A : Nat → Option (Nat × (Nat → Int32))} {Q : Option Value → jm → Prop} {M : jm} (hC_M : CI M) {t : Nat} (k_t : kd t = 18) {x : Int} (h_x : (-2147483648) ≤ x ∧ x ≤ 2147483647) (q : ∀ (r : Int), (-1) ≤ r ∧ r ≤ 11 → (r = (-1) ∨ ((0 ≤ r ∧ r < M t 3) ∧ (x ≠ 12 ∨ (2 ≤ M (t + 1) r ∧ M (t + 1) r ≤ 3)))) → Q (some (.int (Int32.ofInt r))) M) : jc A 2 111 [.ref (t), .int (Int32.ofInt (x))] M Q := by
  refine jc_of (m := xm_111) rfl (Nat.le_of_ble_eq_true rfl) rfl ?_
  refine jr.iconst rfl ?_
  refine jr.istore_n rfl (by decide) rfl ?_
  refine jr.pick [2, 0, 1] rfl rfl ?_
  exact c_Headers_firstOf_L2 hC_M k_t q 12 0 (by omega) (by omega)  (by omega)
theorem c_PacketWall_countPackets_L4 {A : Nat → Option (Nat × (Nat → Int32))} {Q : Option Value → jm → Prop} {M : jm} (hC_M : CI M) (q : ∀ (r : Int), 0 ≤ r ∧ r ≤ 24 → Q (some (.int (Int32.ofInt r))) M) : ∀ (nM : Nat) (c : Int) (i : Int), 0 ≤ c ∧ c ≤ 24 → 0 ≤ i ∧ i ≤ 24 → (c ≤ i) → 24 - i ≤ nM → jr A 1 xm_43 4 [(1, .int (Int32.ofInt (c))), (2, .int (Int32.ofInt (i))), (0, .ref (0))] [] M Q := by
  intro nM
  induction nM using Nat.strongRecOn with
  | ind nM ih =>
    intro c i h_c h_i hy0 hm
    refine jr.iload_n rfl rfl ?_
    refine jr.bipush rfl (by decide) ?_
    refine jr.icmp_ge rfl rfl (by omega) (by omega) (fun h7 => ?_) (fun h7 => ?_)
    · refine jr.iload_n rfl rfl ?_
      exact jr.ireturn rfl rfl rfl (q _ (by omega) )
    · refine jr.iload_n rfl rfl ?_
      refine jr.aload_n rfl rfl ?_
      refine jr.getf (i := 2) (v := .ref 2) rfl rfl (by decide) rfl (by decide) rfl rfl rfl rfl ?_
      refine jr.iload_n rfl rfl ?_
      have k1 := kxe_42 (a := 2) rfl (i := i) (by omega) (by omega)
      refine jr.aald (c := (xe 2 i)) rfl (by decide) rfl (by decide) (by decide) rfl (by decide) (by omega) (by omega) k1.1 ?_
      refine jr_v rfl rfl (Or.inl rfl) rfl rfl (Nat.lt_trans (kx_33 k1.2).1 (by decide)) (kx_33 k1.2).2 ⟨rfl, Nat.le_of_ble_eq_true rfl, Nat.le_of_ble_eq_true rfl⟩ rfl (jc.deep (c_Packet_isThere hC_M k1.2 (fun r2 z2 w2_0 => ?_)) (by decide))
      obtain ⟨v3, e3⟩ : ∃ z_, M ((xe 2 i)) 1 = z_ := ⟨_, rfl⟩
      have b3 : (-1) ≤ v3 ∧ v3 ≤ 400 := by rw [← e3]; exact (CI.r hC_M k1.2 (by decide) 1)
      refine jr.if_eq rfl rfl (by omega) (fun h20 => ?_) (fun h20 => ?_)
      · refine jr.iconst rfl ?_
        refine jr.iadd rfl ?_
        refine jr.istore_n rfl (by decide) rfl ?_
        refine jr.iinc rfl rfl (by decide) rfl ?_
        refine jr.goto rfl rfl ?_
        refine jr.pick [1, 0, 2] rfl rfl ?_
        exact ih (nM - 1) (by omega) (c + 0) (i + 1) (by omega) (by omega) (by omega) (by omega)
      · have sx20 : (1 : Int) ≤ r2 := by omega
        refine jr.iconst rfl ?_
        refine jr.goto rfl rfl ?_
        refine jr.iadd rfl ?_
        refine jr.istore_n rfl (by decide) rfl ?_
        refine jr.iinc rfl rfl (by decide) rfl ?_
        refine jr.goto rfl rfl ?_
        refine jr.pick [1, 0, 2] rfl rfl ?_
        exact ih (nM - 1) (by omega) (c + 1) (i + 1) (by omega) (by omega) (by omega) (by omega)
theorem c_PacketWall_countPackets {A : Nat → Option (Nat × (Nat → Int32))} {Q : Option Value → jm → Prop} {M : jm} (hC_M : CI M) (q : ∀ (r : Int), 0 ≤ r ∧ r ≤ 24 → Q (some (.int (Int32.ofInt r))) M) : jc A 2 43 [.ref (0)] M Q := by
  refine jc_of (m := xm_43) rfl (Nat.le_of_ble_eq_true rfl) rfl ?_
  refine jr.iconst rfl ?_
  refine jr.istore_n rfl (by decide) rfl ?_
  refine jr.iconst rfl ?_
  refine jr.istore_n rfl (by decide) rfl ?_
  refine jr.pick [1, 0, 2] rfl rfl ?_
  exact c_PacketWall_countPackets_L4 hC_M  q 24 0 0 (by omega) (by omega) (by omega) (by omega)
theorem c_Flow_sideOf {A : Nat → Option (Nat × (Nat → Int32))} {Q : Option Value → jm → Prop} {M : jm} (hC_M : CI M) {t : Nat} (k_t : kd t = 1) {x : Nat} (k_x : kd x = 1) (q : ∀ (r : Int), (-1) ≤ r ∧ r ≤ 1 → Q (some (.int (Int32.ofInt r))) M) : jc A 2 60 [.ref (t), .ref (x)] M Q := by
  refine jc_of (m := xm_60) rfl (Nat.le_of_ble_eq_true rfl) rfl ?_
  refine jr.aload_n rfl rfl ?_
  obtain ⟨v1, e1⟩ : ∃ z_, M t 0 = z_ := ⟨_, rfl⟩
  have b1 : 0 ≤ v1 ∧ v1 ≤ 1 := by rw [← e1]; exact (CI.r hC_M k_t (by decide) 0)
  refine jr.getf (i := 0) (x := v1) (v := .int (Int32.ofInt (v1))) rfl rfl (Nat.lt_trans (kx_1 k_t).1 (by decide)) (kx_1 k_t).2 (by decide) rfl rfl e1 rfl ?_
  refine jr.if_eq rfl rfl (by omega) (fun h4 => ?_) (fun h4 => ?_)
  · refine jr.iconst rfl ?_
    exact jr.ireturn rfl rfl rfl (q _ (by omega) )
  · have sx4 : (1 : Int) ≤ v1 := by omega
    refine jr.aload_n rfl rfl ?_
    obtain ⟨v2, e2⟩ : ∃ z_, M t 1 = z_ := ⟨_, rfl⟩
    have b2 : 0 ≤ v2 ∧ v2 ≤ 1 := by rw [← e2]; exact (CI.r hC_M k_t (by decide) 1)
    refine jr.getf (i := 1) (x := v2) (v := .int (Int32.ofInt (v2))) rfl rfl (Nat.lt_trans (kx_1 k_t).1 (by decide)) (kx_1 k_t).2 (by decide) rfl rfl e2 rfl ?_
    refine jr.aload_n rfl rfl ?_
    obtain ⟨v3, e3⟩ : ∃ z_, M x 1 = z_ := ⟨_, rfl⟩
    have b3 : 0 ≤ v3 ∧ v3 ≤ 1 := by rw [← e3]; exact (CI.r hC_M k_x (by decide) 1)
    refine jr.getf (i := 1) (x := v3) (v := .int (Int32.ofInt (v3))) rfl rfl (Nat.lt_trans (kx_1 k_x).1 (by decide)) (kx_1 k_x).2 (by decide) rfl rfl e3 rfl ?_
    refine jr.icmp_ne rfl rfl (by omega) (by omega) (fun h15 => ?_) (fun h15 => ?_)
    · refine jr.iconst rfl ?_
      exact jr.ireturn rfl rfl rfl (q _ (by omega) )
    · refine jr.aload_n rfl rfl ?_
      obtain ⟨v4, e4⟩ : ∃ z_, M t 2 = z_ := ⟨_, rfl⟩
      have b4 : (-2147483648) ≤ v4 ∧ v4 ≤ 2147483647 := by rw [← e4]; exact (CI.r hC_M k_t (by decide) 2)
      refine jr.getf (i := 2) (x := v4) (v := .int (Int32.ofInt (v4))) rfl rfl (Nat.lt_trans (kx_1 k_t).1 (by decide)) (kx_1 k_t).2 (by decide) rfl rfl e4 rfl ?_
      refine jr.aload_n rfl rfl ?_
      obtain ⟨v5, e5⟩ : ∃ z_, M x 2 = z_ := ⟨_, rfl⟩
      have b5 : (-2147483648) ≤ v5 ∧ v5 ≤ 2147483647 := by rw [← e5]; exact (CI.r hC_M k_x (by decide) 2)
      refine jr.getf (i := 2) (x := v5) (v := .int (Int32.ofInt (v5))) rfl rfl (Nat.lt_trans (kx_1 k_x).1 (by decide)) (kx_1 k_x).2 (by decide) rfl rfl e5 rfl ?_
      refine jr.icmp_eq rfl rfl (by omega) (by omega) (fun h26 => ?_) (fun h26 => ?_)
      · refine jr.aload_n rfl rfl ?_
        refine jr.iconst rfl ?_
        refine jr.aload_n rfl rfl ?_
        have k6 := kf_1_3 k_t
        refine jr.getf (i := 3) (v := .ref (t + 1)) rfl rfl (Nat.lt_trans (kx_1 k_t).1 (by decide)) (kx_1 k_t).2 (by decide) rfl rfl rfl (jval_ref rfl k6.1) ?_
        refine jr.iconst rfl ?_
        obtain ⟨v7, e7⟩ : ∃ z_, M ((t + 1)) 0 = z_ := ⟨_, rfl⟩
        have b7 : (-9223372036854775808) ≤ v7 ∧ v7 ≤ 9223372036854775807 := by rw [← e7]; exact (CI.r hC_M k6.2 (by decide) 0)
        refine jr.lald (i := 0) (x := v7) rfl (Nat.lt_trans (kx_2 k6.2).1 (by decide)) (kx_2 k6.2).2 (by decide) (by omega) (by omega) e7 ?_
        refine jr.aload_n rfl rfl ?_
        have k8 := kf_1_4 k_t
        refine jr.getf (i := 4) (v := .ref (t + 2)) rfl rfl (Nat.lt_trans (kx_1 k_t).1 (by decide)) (kx_1 k_t).2 (by decide) rfl rfl rfl (jval_ref rfl k8.1) ?_
        refine jr.iconst rfl ?_
        obtain ⟨v9, e9⟩ : ∃ z_, M ((t + 2)) 0 = z_ := ⟨_, rfl⟩
        have b9 : (-2147483648) ≤ v9 ∧ v9 ≤ 2147483647 := by rw [← e9]; exact (CI.r hC_M k8.2 (by decide) 0)
        refine jr.iald (i := 0) (x := v9) rfl (Nat.lt_trans (kx_7 k8.2).1 (by decide)) (kx_7 k8.2).2 (by decide) (by omega) (by omega) e9 ?_
        refine jr_s rfl rfl (Or.inl rfl) ⟨Nat.le_of_ble_eq_true rfl, Nat.le_of_ble_eq_true rfl⟩ rfl rfl (jc.deep (c_Flow_hasEnd hC_M k_x (by omega) (by omega) (by omega) (fun r10 z10  => ?_)) (by decide))
        refine jr.if_eq rfl rfl (by omega) (fun h48 => ?_) (fun h48 => ?_)
        · refine jr.aload_n rfl rfl ?_
          obtain ⟨v11, e11⟩ : ∃ z_, M t 13 = z_ := ⟨_, rfl⟩
          have b11 : (-2147483648) ≤ v11 ∧ v11 ≤ 2147483647 := by rw [← e11]; exact (CI.r hC_M k_t (by decide) 13)
          refine jr.getf (i := 13) (x := v11) (v := .int (Int32.ofInt (v11))) rfl rfl (Nat.lt_trans (kx_1 k_t).1 (by decide)) (kx_1 k_t).2 (by decide) rfl rfl e11 rfl ?_
          refine jr.iconst rfl ?_
          refine jr.icmp_ne rfl rfl (by omega) (by omega) (fun h78 => ?_) (fun h78 => ?_)
          · refine jr.aload_n rfl rfl ?_
            refine jr.iconst rfl ?_
            refine jr.aload_n rfl rfl ?_
            obtain ⟨v12, e12⟩ : ∃ z_, M t 14 = z_ := ⟨_, rfl⟩
            have b12 : (-9223372036854775808) ≤ v12 ∧ v12 ≤ 9223372036854775807 := by rw [← e12]; exact (CI.r hC_M k_t (by decide) 14)
            refine jr.getf (i := 14) (x := v12) (v := .long (Int64.ofInt (v12))) rfl rfl (Nat.lt_trans (kx_1 k_t).1 (by decide)) (kx_1 k_t).2 (by decide) rfl rfl e12 rfl ?_
            refine jr.aload_n rfl rfl ?_
            obtain ⟨v13, e13⟩ : ∃ z_, M t 15 = z_ := ⟨_, rfl⟩
            have b13 : (-2147483648) ≤ v13 ∧ v13 ≤ 2147483647 := by rw [← e13]; exact (CI.r hC_M k_t (by decide) 15)
            refine jr.getf (i := 15) (x := v13) (v := .int (Int32.ofInt (v13))) rfl rfl (Nat.lt_trans (kx_1 k_t).1 (by decide)) (kx_1 k_t).2 (by decide) rfl rfl e13 rfl ?_
            refine jr_s rfl rfl (Or.inl rfl) ⟨Nat.le_of_ble_eq_true rfl, Nat.le_of_ble_eq_true rfl⟩ rfl rfl (jc.deep (c_Flow_hasEnd hC_M k_x (by omega) (by omega) (by omega) (fun r14 z14  => ?_)) (by decide))
            refine jr.istore_n rfl (by decide) rfl ?_
            refine jr.iload_n rfl rfl ?_
            refine jr.if_eq rfl rfl (by omega) (fun h116 => ?_) (fun h116 => ?_)
            · refine jr.iconst rfl ?_
              exact jr.ireturn rfl rfl rfl (q _ (by omega) )
            · have sx116 : (1 : Int) ≤ r14 := by omega
              refine jr.aload_n rfl rfl ?_
              refine jr.iconst rfl ?_
              refine jr.aload_n rfl rfl ?_
              have k15 := kf_1_3 k_t
              refine jr.getf (i := 3) (v := .ref (t + 1)) rfl rfl (Nat.lt_trans (kx_1 k_t).1 (by decide)) (kx_1 k_t).2 (by decide) rfl rfl rfl (jval_ref rfl k15.1) ?_
              refine jr.iconst rfl ?_
              obtain ⟨v16, e16⟩ : ∃ z_, M ((t + 1)) 1 = z_ := ⟨_, rfl⟩
              have b16 : (-9223372036854775808) ≤ v16 ∧ v16 ≤ 9223372036854775807 := by rw [← e16]; exact (CI.r hC_M k15.2 (by decide) 1)
              refine jr.lald (i := 1) (x := v16) rfl (Nat.lt_trans (kx_2 k15.2).1 (by decide)) (kx_2 k15.2).2 (by decide) (by omega) (by omega) e16 ?_
              refine jr.aload_n rfl rfl ?_
              have k17 := kf_1_4 k_t
              refine jr.getf (i := 4) (v := .ref (t + 2)) rfl rfl (Nat.lt_trans (kx_1 k_t).1 (by decide)) (kx_1 k_t).2 (by decide) rfl rfl rfl (jval_ref rfl k17.1) ?_
              refine jr.iconst rfl ?_
              obtain ⟨v18, e18⟩ : ∃ z_, M ((t + 2)) 1 = z_ := ⟨_, rfl⟩
              have b18 : (-2147483648) ≤ v18 ∧ v18 ≤ 2147483647 := by rw [← e18]; exact (CI.r hC_M k17.2 (by decide) 1)
              refine jr.iald (i := 1) (x := v18) rfl (Nat.lt_trans (kx_7 k17.2).1 (by decide)) (kx_7 k17.2).2 (by decide) (by omega) (by omega) e18 ?_
              refine jr_s rfl rfl (Or.inl rfl) ⟨Nat.le_of_ble_eq_true rfl, Nat.le_of_ble_eq_true rfl⟩ rfl rfl (jc.deep (c_Flow_hasEnd hC_M k_x (by omega) (by omega) (by omega) (fun r19 z19  => ?_)) (by decide))
              refine jr.if_eq rfl rfl (by omega) (fun h136 => ?_) (fun h136 => ?_)
              · refine jr.iconst rfl ?_
                exact jr.ireturn rfl rfl rfl (q _ (by omega) )
              · have sx136 : (1 : Int) ≤ r19 := by omega
                refine jr.iconst rfl ?_
                refine jr.goto rfl rfl ?_
                exact jr.ireturn rfl rfl rfl (q _ (by omega) )
          · refine jr.aload_n rfl rfl ?_
            refine jr.iconst rfl ?_
            refine jr.aload_n rfl rfl ?_
            have k20 := kf_1_3 k_t
            refine jr.getf (i := 3) (v := .ref (t + 1)) rfl rfl (Nat.lt_trans (kx_1 k_t).1 (by decide)) (kx_1 k_t).2 (by decide) rfl rfl rfl (jval_ref rfl k20.1) ?_
            refine jr.iconst rfl ?_
            refine jr.lald (i := 0) (x := v7) rfl (Nat.lt_trans (kx_2 k20.2).1 (by decide)) (kx_2 k20.2).2 (by decide) (by omega) (by omega) e7 ?_
            refine jr.aload_n rfl rfl ?_
            have k21 := kf_1_4 k_t
            refine jr.getf (i := 4) (v := .ref (t + 2)) rfl rfl (Nat.lt_trans (kx_1 k_t).1 (by decide)) (kx_1 k_t).2 (by decide) rfl rfl rfl (jval_ref rfl k21.1) ?_
            refine jr.iconst rfl ?_
            refine jr.iald (i := 0) (x := v9) rfl (Nat.lt_trans (kx_7 k21.2).1 (by decide)) (kx_7 k21.2).2 (by decide) (by omega) (by omega) e9 ?_
            refine jr_s rfl rfl (Or.inl rfl) ⟨Nat.le_of_ble_eq_true rfl, Nat.le_of_ble_eq_true rfl⟩ rfl rfl (jc.deep (c_Flow_hasEnd hC_M k_x (by omega) (by omega) (by omega) (fun r22 z22  => ?_)) (by decide))
            refine jr.goto rfl rfl ?_
            refine jr.istore_n rfl (by decide) rfl ?_
            refine jr.iload_n rfl rfl ?_
            refine jr.if_eq rfl rfl (by omega) (fun h116 => ?_) (fun h116 => ?_)
            · refine jr.iconst rfl ?_
              exact jr.ireturn rfl rfl rfl (q _ (by omega) )
            · have sx116 : (1 : Int) ≤ r22 := by omega
              refine jr.aload_n rfl rfl ?_
              refine jr.iconst rfl ?_
              refine jr.aload_n rfl rfl ?_
              have k23 := kf_1_3 k_t
              refine jr.getf (i := 3) (v := .ref (t + 1)) rfl rfl (Nat.lt_trans (kx_1 k_t).1 (by decide)) (kx_1 k_t).2 (by decide) rfl rfl rfl (jval_ref rfl k23.1) ?_
              refine jr.iconst rfl ?_
              obtain ⟨v24, e24⟩ : ∃ z_, M ((t + 1)) 1 = z_ := ⟨_, rfl⟩
              have b24 : (-9223372036854775808) ≤ v24 ∧ v24 ≤ 9223372036854775807 := by rw [← e24]; exact (CI.r hC_M k23.2 (by decide) 1)
              refine jr.lald (i := 1) (x := v24) rfl (Nat.lt_trans (kx_2 k23.2).1 (by decide)) (kx_2 k23.2).2 (by decide) (by omega) (by omega) e24 ?_
              refine jr.aload_n rfl rfl ?_
              have k25 := kf_1_4 k_t
              refine jr.getf (i := 4) (v := .ref (t + 2)) rfl rfl (Nat.lt_trans (kx_1 k_t).1 (by decide)) (kx_1 k_t).2 (by decide) rfl rfl rfl (jval_ref rfl k25.1) ?_
              refine jr.iconst rfl ?_
              obtain ⟨v26, e26⟩ : ∃ z_, M ((t + 2)) 1 = z_ := ⟨_, rfl⟩
              have b26 : (-2147483648) ≤ v26 ∧ v26 ≤ 2147483647 := by rw [← e26]; exact (CI.r hC_M k25.2 (by decide) 1)
              refine jr.iald (i := 1) (x := v26) rfl (Nat.lt_trans (kx_7 k25.2).1 (by decide)) (kx_7 k25.2).2 (by decide) (by omega) (by omega) e26 ?_
              refine jr_s rfl rfl (Or.inl rfl) ⟨Nat.le_of_ble_eq_true rfl, Nat.le_of_ble_eq_true rfl⟩ rfl rfl (jc.deep (c_Flow_hasEnd hC_M k_x (by omega) (by omega) (by omega) (fun r27 z27  => ?_)) (by decide))
              refine jr.if_eq rfl rfl (by omega) (fun h136 => ?_) (fun h136 => ?_)
              · refine jr.iconst rfl ?_
                exact jr.ireturn rfl rfl rfl (q _ (by omega) )
              · have sx136 : (1 : Int) ≤ r27 := by omega
                refine jr.iconst rfl ?_
                refine jr.goto rfl rfl ?_
                exact jr.ireturn rfl rfl rfl (q _ (by omega) )
        · have sx48 : (1 : Int) ≤ r10 := by omega
          refine jr.aload_n rfl rfl ?_
          refine jr.iconst rfl ?_
          refine jr.aload_n rfl rfl ?_
          have k28 := kf_1_3 k_t
          refine jr.getf (i := 3) (v := .ref (t + 1)) rfl rfl (Nat.lt_trans (kx_1 k_t).1 (by decide)) (kx_1 k_t).2 (by decide) rfl rfl rfl (jval_ref rfl k28.1) ?_
          refine jr.iconst rfl ?_
          obtain ⟨v29, e29⟩ : ∃ z_, M ((t + 1)) 1 = z_ := ⟨_, rfl⟩
          have b29 : (-9223372036854775808) ≤ v29 ∧ v29 ≤ 9223372036854775807 := by rw [← e29]; exact (CI.r hC_M k28.2 (by decide) 1)
          refine jr.lald (i := 1) (x := v29) rfl (Nat.lt_trans (kx_2 k28.2).1 (by decide)) (kx_2 k28.2).2 (by decide) (by omega) (by omega) e29 ?_
          refine jr.aload_n rfl rfl ?_
          have k30 := kf_1_4 k_t
          refine jr.getf (i := 4) (v := .ref (t + 2)) rfl rfl (Nat.lt_trans (kx_1 k_t).1 (by decide)) (kx_1 k_t).2 (by decide) rfl rfl rfl (jval_ref rfl k30.1) ?_
          refine jr.iconst rfl ?_
          obtain ⟨v31, e31⟩ : ∃ z_, M ((t + 2)) 1 = z_ := ⟨_, rfl⟩
          have b31 : (-2147483648) ≤ v31 ∧ v31 ≤ 2147483647 := by rw [← e31]; exact (CI.r hC_M k30.2 (by decide) 1)
          refine jr.iald (i := 1) (x := v31) rfl (Nat.lt_trans (kx_7 k30.2).1 (by decide)) (kx_7 k30.2).2 (by decide) (by omega) (by omega) e31 ?_
          refine jr_s rfl rfl (Or.inl rfl) ⟨Nat.le_of_ble_eq_true rfl, Nat.le_of_ble_eq_true rfl⟩ rfl rfl (jc.deep (c_Flow_hasEnd hC_M k_x (by omega) (by omega) (by omega) (fun r32 z32  => ?_)) (by decide))
          refine jr.if_eq rfl rfl (by omega) (fun h68 => ?_) (fun h68 => ?_)
          · refine jr.aload_n rfl rfl ?_
            obtain ⟨v33, e33⟩ : ∃ z_, M t 13 = z_ := ⟨_, rfl⟩
            have b33 : (-2147483648) ≤ v33 ∧ v33 ≤ 2147483647 := by rw [← e33]; exact (CI.r hC_M k_t (by decide) 13)
            refine jr.getf (i := 13) (x := v33) (v := .int (Int32.ofInt (v33))) rfl rfl (Nat.lt_trans (kx_1 k_t).1 (by decide)) (kx_1 k_t).2 (by decide) rfl rfl e33 rfl ?_
            refine jr.iconst rfl ?_
            refine jr.icmp_ne rfl rfl (by omega) (by omega) (fun h78 => ?_) (fun h78 => ?_)
            · refine jr.aload_n rfl rfl ?_
              refine jr.iconst rfl ?_
              refine jr.aload_n rfl rfl ?_
              obtain ⟨v34, e34⟩ : ∃ z_, M t 14 = z_ := ⟨_, rfl⟩
              have b34 : (-9223372036854775808) ≤ v34 ∧ v34 ≤ 9223372036854775807 := by rw [← e34]; exact (CI.r hC_M k_t (by decide) 14)
              refine jr.getf (i := 14) (x := v34) (v := .long (Int64.ofInt (v34))) rfl rfl (Nat.lt_trans (kx_1 k_t).1 (by decide)) (kx_1 k_t).2 (by decide) rfl rfl e34 rfl ?_
              refine jr.aload_n rfl rfl ?_
              obtain ⟨v35, e35⟩ : ∃ z_, M t 15 = z_ := ⟨_, rfl⟩
              have b35 : (-2147483648) ≤ v35 ∧ v35 ≤ 2147483647 := by rw [← e35]; exact (CI.r hC_M k_t (by decide) 15)
              refine jr.getf (i := 15) (x := v35) (v := .int (Int32.ofInt (v35))) rfl rfl (Nat.lt_trans (kx_1 k_t).1 (by decide)) (kx_1 k_t).2 (by decide) rfl rfl e35 rfl ?_
              refine jr_s rfl rfl (Or.inl rfl) ⟨Nat.le_of_ble_eq_true rfl, Nat.le_of_ble_eq_true rfl⟩ rfl rfl (jc.deep (c_Flow_hasEnd hC_M k_x (by omega) (by omega) (by omega) (fun r36 z36  => ?_)) (by decide))
              refine jr.istore_n rfl (by decide) rfl ?_
              refine jr.iload_n rfl rfl ?_
              refine jr.if_eq rfl rfl (by omega) (fun h116 => ?_) (fun h116 => ?_)
              · refine jr.iconst rfl ?_
                exact jr.ireturn rfl rfl rfl (q _ (by omega) )
              · have sx116 : (1 : Int) ≤ r36 := by omega
                refine jr.aload_n rfl rfl ?_
                refine jr.iconst rfl ?_
                refine jr.aload_n rfl rfl ?_
                have k37 := kf_1_3 k_t
                refine jr.getf (i := 3) (v := .ref (t + 1)) rfl rfl (Nat.lt_trans (kx_1 k_t).1 (by decide)) (kx_1 k_t).2 (by decide) rfl rfl rfl (jval_ref rfl k37.1) ?_
                refine jr.iconst rfl ?_
                refine jr.lald (i := 1) (x := v29) rfl (Nat.lt_trans (kx_2 k37.2).1 (by decide)) (kx_2 k37.2).2 (by decide) (by omega) (by omega) e29 ?_
                refine jr.aload_n rfl rfl ?_
                have k38 := kf_1_4 k_t
                refine jr.getf (i := 4) (v := .ref (t + 2)) rfl rfl (Nat.lt_trans (kx_1 k_t).1 (by decide)) (kx_1 k_t).2 (by decide) rfl rfl rfl (jval_ref rfl k38.1) ?_
                refine jr.iconst rfl ?_
                refine jr.iald (i := 1) (x := v31) rfl (Nat.lt_trans (kx_7 k38.2).1 (by decide)) (kx_7 k38.2).2 (by decide) (by omega) (by omega) e31 ?_
                refine jr_s rfl rfl (Or.inl rfl) ⟨Nat.le_of_ble_eq_true rfl, Nat.le_of_ble_eq_true rfl⟩ rfl rfl (jc.deep (c_Flow_hasEnd hC_M k_x (by omega) (by omega) (by omega) (fun r39 z39  => ?_)) (by decide))
                refine jr.if_eq rfl rfl (by omega) (fun h136 => ?_) (fun h136 => ?_)
                · refine jr.iconst rfl ?_
                  exact jr.ireturn rfl rfl rfl (q _ (by omega) )
                · have sx136 : (1 : Int) ≤ r39 := by omega
                  refine jr.iconst rfl ?_
                  refine jr.goto rfl rfl ?_
                  exact jr.ireturn rfl rfl rfl (q _ (by omega) )
            · refine jr.aload_n rfl rfl ?_
              refine jr.iconst rfl ?_
              refine jr.aload_n rfl rfl ?_
              have k40 := kf_1_3 k_t
              refine jr.getf (i := 3) (v := .ref (t + 1)) rfl rfl (Nat.lt_trans (kx_1 k_t).1 (by decide)) (kx_1 k_t).2 (by decide) rfl rfl rfl (jval_ref rfl k40.1) ?_
              refine jr.iconst rfl ?_
              refine jr.lald (i := 0) (x := v7) rfl (Nat.lt_trans (kx_2 k40.2).1 (by decide)) (kx_2 k40.2).2 (by decide) (by omega) (by omega) e7 ?_
              refine jr.aload_n rfl rfl ?_
              have k41 := kf_1_4 k_t
              refine jr.getf (i := 4) (v := .ref (t + 2)) rfl rfl (Nat.lt_trans (kx_1 k_t).1 (by decide)) (kx_1 k_t).2 (by decide) rfl rfl rfl (jval_ref rfl k41.1) ?_
              refine jr.iconst rfl ?_
              refine jr.iald (i := 0) (x := v9) rfl (Nat.lt_trans (kx_7 k41.2).1 (by decide)) (kx_7 k41.2).2 (by decide) (by omega) (by omega) e9 ?_
              refine jr_s rfl rfl (Or.inl rfl) ⟨Nat.le_of_ble_eq_true rfl, Nat.le_of_ble_eq_true rfl⟩ rfl rfl (jc.deep (c_Flow_hasEnd hC_M k_x (by omega) (by omega) (by omega) (fun r42 z42  => ?_)) (by decide))
              refine jr.goto rfl rfl ?_
              refine jr.istore_n rfl (by decide) rfl ?_
              refine jr.iload_n rfl rfl ?_
              refine jr.if_eq rfl rfl (by omega) (fun h116 => ?_) (fun h116 => ?_)
              · refine jr.iconst rfl ?_
                exact jr.ireturn rfl rfl rfl (q _ (by omega) )
              · have sx116 : (1 : Int) ≤ r42 := by omega
                refine jr.aload_n rfl rfl ?_
                refine jr.iconst rfl ?_
                refine jr.aload_n rfl rfl ?_
                have k43 := kf_1_3 k_t
                refine jr.getf (i := 3) (v := .ref (t + 1)) rfl rfl (Nat.lt_trans (kx_1 k_t).1 (by decide)) (kx_1 k_t).2 (by decide) rfl rfl rfl (jval_ref rfl k43.1) ?_
                refine jr.iconst rfl ?_
                refine jr.lald (i := 1) (x := v29) rfl (Nat.lt_trans (kx_2 k43.2).1 (by decide)) (kx_2 k43.2).2 (by decide) (by omega) (by omega) e29 ?_
                refine jr.aload_n rfl rfl ?_
                have k44 := kf_1_4 k_t
                refine jr.getf (i := 4) (v := .ref (t + 2)) rfl rfl (Nat.lt_trans (kx_1 k_t).1 (by decide)) (kx_1 k_t).2 (by decide) rfl rfl rfl (jval_ref rfl k44.1) ?_
                refine jr.iconst rfl ?_
                refine jr.iald (i := 1) (x := v31) rfl (Nat.lt_trans (kx_7 k44.2).1 (by decide)) (kx_7 k44.2).2 (by decide) (by omega) (by omega) e31 ?_
                refine jr_s rfl rfl (Or.inl rfl) ⟨Nat.le_of_ble_eq_true rfl, Nat.le_of_ble_eq_true rfl⟩ rfl rfl (jc.deep (c_Flow_hasEnd hC_M k_x (by omega) (by omega) (by omega) (fun r45 z45  => ?_)) (by decide))
                refine jr.if_eq rfl rfl (by omega) (fun h136 => ?_) (fun h136 => ?_)
                · refine jr.iconst rfl ?_
                  exact jr.ireturn rfl rfl rfl (q _ (by omega) )
                · have sx136 : (1 : Int) ≤ r45 := by omega
                  refine jr.iconst rfl ?_
                  refine jr.goto rfl rfl ?_
                  exact jr.ireturn rfl rfl rfl (q _ (by omega) )
          · have sx68 : (1 : Int) ≤ r32 := by omega
            refine jr.iconst rfl ?_
            exact jr.ireturn rfl rfl rfl (q _ (by omega) )
      · refine jr.iconst rfl ?_
        exact jr.ireturn rfl rfl rfl (q _ (by omega) )
theorem c_Flow_sideOf_d {A : Nat → Option (Nat × (Nat → Int32))} {Q : Option Value → jm → Prop} {M : jm} (hC_M : CI M) {t : Nat} (k_t : kd t = 1) {x : Nat} (k_x : kd x = 1) (q : ∀ r : Int, (-1) ≤ r ∧ r ≤ 1 → jc A 2 60 [.ref (t), .ref (x)] M (fun z M_ => z = (some (.int (Int32.ofInt r))) ∧ M_ = M) → Q (some (.int (Int32.ofInt r))) M) : jc A 2 60 [.ref (t), .ref (x)] M Q := by
  obtain ⟨K, rv, M1, h1, r, hr, hz, hM⟩ := c_Flow_sideOf (A := A) hC_M k_t k_x (Q := fun z M_ => ∃ r : Int, ((-1) ≤ r ∧ r ≤ 1) ∧ z = (some (.int (Int32.ofInt r))) ∧ M_ = M) (fun r hr => ⟨r, hr, rfl, rfl⟩)
  refine ⟨K, rv, M1, h1, ?_⟩
  rw [hz, hM]
  exact q r hr ⟨K, rv, M1, h1, hz, hM⟩
theorem c_Flows_flowOfEnds_L2 {A : Nat → Option (Nat × (Nat → Int32))} {Q : Option Value → jm → Prop} {M : jm} (hC_M : CI M) {V : Int} (q : ∀ (r : Int), (-1) ≤ r ∧ r ≤ 23 → (r = (-1) ∨ ((0 ≤ r ∧ r ≤ 23) ∧ ∃ s : Int, (0 ≤ s ∧ s ≤ 1) ∧ jc A 2 60 [.ref (xe (V.toNat) r), .ref 18] M (fun z M_ => z = some (.int (Int32.ofInt s)) ∧ M_ = M))) → Q (some (.int (Int32.ofInt r))) M) : ∀ (nM : Nat) (i : Int), 0 ≤ i ∧ i ≤ 24 → M 15 0 = V → 24 - i ≤ nM → jr A 2 xm_88 2 [(1, .int (Int32.ofInt (i))), (0, .ref (15))] [] M Q := by
  intro nM
  induction nM using Nat.strongRecOn with
  | ind nM ih =>
    intro i h_i g_V hm
    have b_V : 16 ≤ V ∧ V ≤ 17 := by rw [← g_V]; exact (CI.r hC_M (show kd 15 = 9 from rfl) (by decide) 0)
    refine jr.iload_n rfl rfl ?_
    refine jr.bipush rfl (by decide) ?_
    refine jr.icmp_ge rfl rfl (by omega) (by omega) (fun h5 => ?_) (fun h5 => ?_)
    · refine jr.iconst rfl ?_
      exact jr.ireturn rfl rfl rfl (q _ (by omega) (Or.inl rfl))
    · refine jr.aload_n rfl rfl ?_
      have k1 : kd (V).toNat = 13 := by rcases (show V = 16 ∨ V = 17 by omega) with h | h <;> (rw [h]; rfl)
      refine jr.getf (i := 0) (x := V) (v := .ref (V.toNat)) rfl rfl (by decide) rfl (by decide) rfl rfl g_V rfl ?_
      refine jr.iload_n rfl rfl ?_
      have k2 := kxe_13 k1 (i := i) (by omega) (by omega)
      refine jr.aald (c := (xe ((V.toNat)) i)) rfl (Nat.lt_trans (kx_13 k1).1 (by decide)) (kx_13 k1).2 (by decide) (by decide) rfl (by decide) (by omega) (by omega) k2.1 ?_
      refine jr.aload_n rfl rfl ?_
      refine jr.getf (i := 2) (v := .ref 18) rfl rfl (by decide) rfl (by decide) rfl rfl rfl rfl ?_
      refine jr_v rfl rfl (Or.inl rfl) rfl rfl (Nat.lt_trans (kx_1 k2.2).1 (by decide)) (kx_1 k2.2).2 ⟨rfl, Nat.le_of_ble_eq_true rfl, Nat.le_of_ble_eq_true rfl⟩ rfl (jc.deep (c_Flow_sideOf_d hC_M k2.2 (show kd 18 = 1 from rfl) (fun r3 z3 w3_0 => ?_)) (by decide))
      refine jr.iconst rfl ?_
      refine jr.icmp_eq rfl rfl (by omega) (by omega) (fun h22 => ?_) (fun h22 => ?_)
      · refine jr.iinc rfl rfl (by decide) rfl ?_
        refine jr.goto rfl rfl ?_
        refine jr.pick [0, 1] rfl rfl ?_
        exact ih (nM - 1) (by omega) (i + 1) (by omega) g_V (by omega)
      · have sx22 : (0 : Int) ≤ r3 := by omega
        refine jr.iload_n rfl rfl ?_
        exact jr.ireturn rfl rfl rfl (q _ (by omega) (Or.inr ⟨⟨by omega, by omega⟩, r3, ⟨by omega, by omega⟩, w3_0⟩))
theorem c_Flows_flowOfEnds {A : Nat → Option (Nat × (Nat → Int32))} {Q : Option Value → jm → Prop} {M : jm} (hC_M : CI M) {V : Int} (g_V : M 15 0 = V) (q : ∀ (r : Int), (-1) ≤ r ∧ r ≤ 23 → (r = (-1) ∨ ((0 ≤ r ∧ r ≤ 23) ∧ ∃ s : Int, (0 ≤ s ∧ s ≤ 1) ∧ jc A 2 60 [.ref (xe (V.toNat) r), .ref 18] M (fun z M_ => z = some (.int (Int32.ofInt s)) ∧ M_ = M))) → Q (some (.int (Int32.ofInt r))) M) : jc A 3 88 [.ref (15)] M Q := by
  refine jc_of (m := xm_88) rfl (Nat.le_of_ble_eq_true rfl) rfl ?_
  have b_V : 16 ≤ V ∧ V ≤ 17 := by rw [← g_V]; exact (CI.r hC_M (show kd 15 = 9 from rfl) (by decide) 0)
  refine jr.iconst rfl ?_
  refine jr.istore_n rfl (by decide) rfl ?_
  refine jr.pick [0, 1] rfl rfl ?_
  exact c_Flows_flowOfEnds_L2 hC_M  q 24 0 (by omega) g_V (by omega)
end
section
/-! ===== the class's methods ===== -/
theorem c_PacketWall_wrong {A : Nat → Option (Nat × (Nat → Int32))} {Q : Option Value → jm → Prop} {M : jm} (hC_M : CI M) (q : ∀ (r : Int), (-2147483648) ≤ r ∧ r ≤ 2147483647 → Q (some (.int (Int32.ofInt r))) M) : jc A 1 27 [.ref (0)] M Q := by
  refine jc_of (m := xm_27) rfl (Nat.le_of_ble_eq_true rfl) rfl ?_
  refine jr.aload_n rfl rfl ?_
  refine jr.getf (i := 10) (v := .ref 413) rfl rfl (by decide) rfl (by decide) rfl rfl rfl rfl ?_
  obtain ⟨v1, e1⟩ : ∃ z_, M 413 1 = z_ := ⟨_, rfl⟩
  have b1 : (-2147483648) ≤ v1 ∧ v1 ≤ 2147483647 := by rw [← e1]; exact (CI.r hC_M (show kd 413 = 44 from rfl) (by decide) 1)
  refine jr.getf (i := 1) (x := v1) (v := .int (Int32.ofInt (v1))) rfl rfl (by decide) rfl (by decide) rfl rfl e1 rfl ?_
  exact jr.ireturn rfl rfl rfl (q _ (by omega) )
theorem c_PacketWall_learned {A : Nat → Option (Nat × (Nat → Int32))} {Q : Option Value → jm → Prop} {M : jm} (hC_M : CI M) {x : Int} (h_x : (-2147483648) ≤ x ∧ x ≤ 2147483647) {y : Int} (h_y : (-2147483648) ≤ y ∧ y ≤ 2147483647) (q : ∀ (r : Int), (-9223372036854775808) ≤ r ∧ r ≤ 9223372036854775807 → Q (some (.long (Int64.ofInt r))) M) : jc A 2 32 [.ref (0), .int (Int32.ofInt (x)), .int (Int32.ofInt (y))] M Q := by
  refine jc_of (m := xm_32) rfl (Nat.le_of_ble_eq_true rfl) rfl ?_
  refine jr.iload_n rfl rfl ?_
  refine jr.if_lt rfl rfl (by omega) (fun h1 => ?_) (fun h1 => ?_)
  · refine jr.ldc2 (x := (-1)) rfl rfl (by decide) ?_
    exact jr.lreturn rfl rfl (q _ (by omega) )
  · refine jr.iload_n rfl rfl ?_
    refine jr.iconst rfl ?_
    refine jr.icmp_lt rfl rfl (by omega) (by omega) (fun h6 => ?_) (fun h6 => ?_)
    · refine jr.iload_n rfl rfl ?_
      refine jr.iconst rfl ?_
      refine jr.icmp_ne rfl rfl (by omega) (by omega) (fun h15 => ?_) (fun h15 => ?_)
      · refine jr.aload_n rfl rfl ?_
        refine jr.getf (i := 11) (v := .ref 421) rfl rfl (by decide) rfl (by decide) rfl rfl rfl rfl ?_
        refine jr.getf (i := 1) (v := .ref 423) rfl rfl (by decide) rfl (by decide) rfl rfl rfl rfl ?_
        refine jr.iload_n rfl rfl ?_
        refine jr.iload_n rfl rfl ?_
        refine jr_v rfl rfl (Or.inl rfl) rfl rfl (by decide) rfl ⟨rfl, Nat.le_of_ble_eq_true rfl, Nat.le_of_ble_eq_true rfl⟩ rfl (jc.deep (c_Memory_setItem hC_M (show kd 423 = 27 from rfl) (by omega) (by omega) (fun r1 z1  => ?_)) (by decide))
        exact jr.lreturn rfl rfl (q _ (by omega) )
      · refine jr.aload_n rfl rfl ?_
        refine jr.getf (i := 11) (v := .ref 421) rfl rfl (by decide) rfl (by decide) rfl rfl rfl rfl ?_
        refine jr.getf (i := 1) (v := .ref 423) rfl rfl (by decide) rfl (by decide) rfl rfl rfl rfl ?_
        refine jr.getf (i := 3) (v := .ref 427) rfl rfl (by decide) rfl (by decide) rfl rfl rfl rfl ?_
        refine jr.iload_n rfl rfl ?_
        obtain ⟨v2, e2⟩ : ∃ z_, M 427 x = z_ := ⟨_, rfl⟩
        have b2 : 0 ≤ v2 ∧ v2 ≤ 16 := by rw [← e2]; exact (CI.r hC_M (show kd 427 = 32 from rfl) (by decide) x)
        refine jr.iald (i := x) (x := v2) rfl (by decide) rfl (by decide) (by omega) (by omega) e2 ?_
        refine jr.i2l rfl (by omega) ?_
        refine jr.goto rfl rfl ?_
        exact jr.lreturn rfl rfl (q _ (by omega) )
    · refine jr.ldc2 (x := (-1)) rfl rfl (by decide) ?_
      exact jr.lreturn rfl rfl (q _ (by omega) )
noncomputable def W_c_PacketWall_bucket : List (Nat × Nat) := [(28, 1000), (36, 1000), (37, 1000), (38, 1000)]
theorem c_PacketWall_bucket {A : Nat → Option (Nat × (Nat → Int32))} {Q : Option Value → jm → Prop} {T : jm} {M : jm} (hC_M : CI M) (ht_M : FR W_c_PacketWall_bucket T M) {x : Int} (h_x : (-2147483648) ≤ x ∧ x ≤ 2147483647) {y : Int} (h_y : (-2147483648) ≤ y ∧ y ≤ 2147483647) {z : Int} (h_z : (-2147483648) ≤ z ∧ z ≤ 2147483647) (q : ∀ (r : Int) (M' : jm), CI M' → FR W_c_PacketWall_bucket T M' → (-2147483648) ≤ r ∧ r ≤ 2147483647 → Q (some (.int (Int32.ofInt r))) M') : jc A 1 33 [.ref (0), .int (Int32.ofInt (x)), .int (Int32.ofInt (y)), .int (Int32.ofInt (z))] M Q := by
  refine jc_of (m := xm_33) rfl (Nat.le_of_ble_eq_true rfl) rfl ?_
  refine jr.iload_n rfl rfl ?_
  refine jr.if_lt rfl rfl (by omega) (fun h1 => ?_) (fun h1 => ?_)
  · refine jr.bipush rfl (by decide) ?_
    exact jr.ireturn rfl rfl rfl (q _ _ hC_M ht_M (by omega) )
  · refine jr.iload_n rfl rfl ?_
    refine jr.iconst rfl ?_
    refine jr.icmp_ge rfl rfl (by omega) (by omega) (fun h6 => ?_) (fun h6 => ?_)
    · refine jr.bipush rfl (by decide) ?_
      exact jr.ireturn rfl rfl rfl (q _ _ hC_M ht_M (by omega) )
    · refine jr.iload_n rfl rfl ?_
      refine jr.if_lt rfl rfl (by omega) (fun h10 => ?_) (fun h10 => ?_)
      · refine jr.bipush rfl (by decide) ?_
        exact jr.ireturn rfl rfl rfl (q _ _ hC_M ht_M (by omega) )
      · refine jr.iload_n rfl rfl ?_
        refine jr.sipush rfl (by decide) ?_
        refine jr.icmp_gt rfl rfl (by omega) (by omega) (fun h17 => ?_) (fun h17 => ?_)
        · refine jr.bipush rfl (by decide) ?_
          exact jr.ireturn rfl rfl rfl (q _ _ hC_M ht_M (by omega) )
        · refine jr.iload_n rfl rfl ?_
          refine jr.iconst rfl ?_
          refine jr.icmp_lt rfl rfl (by omega) (by omega) (fun h22 => ?_) (fun h22 => ?_)
          · refine jr.bipush rfl (by decide) ?_
            exact jr.ireturn rfl rfl rfl (q _ _ hC_M ht_M (by omega) )
          · refine jr.iload_n rfl rfl ?_
            refine jr.sipush rfl (by decide) ?_
            refine jr.icmp_le rfl rfl (by omega) (by omega) (fun h29 => ?_) (fun h29 => ?_)
            · refine jr.aload_n rfl rfl ?_
              refine jr.getf (i := 12) (v := .ref 523) rfl rfl (by decide) rfl (by decide) rfl rfl rfl rfl ?_
              refine jr.iload_n rfl rfl ?_
              refine jr.iload_n rfl rfl ?_
              refine jr.iast (i := x) (x := y) rfl (by decide) rfl (by decide) (by omega) (by omega) ?_
              refine jr.aload_n rfl rfl ?_
              refine jr.getf (i := 13) (v := .ref 524) rfl rfl (by decide) rfl (by decide) rfl rfl rfl rfl ?_
              refine jr.iload_n rfl rfl ?_
              refine jr.iload_n rfl rfl ?_
              refine jr.iast (i := x) (x := z) rfl (by decide) rfl (by decide) (by omega) (by omega) ?_
              refine jr.aload_n rfl rfl ?_
              refine jr.getf (i := 14) (v := .ref 525) rfl rfl (by decide) rfl (by decide) rfl rfl rfl rfl ?_
              refine jr.iload_n rfl rfl ?_
              refine jr.aload_n rfl rfl ?_
              obtain ⟨v1, e1⟩ : ∃ z_, M 0 8 = z_ := ⟨_, rfl⟩
              have b1 : (-2147483648) ≤ v1 ∧ v1 ≤ 2147483647 := by rw [← e1]; exact (CI.r hC_M (show kd 0 = 35 from rfl) (by decide) 8)
              refine jr.getf (i := 8) (x := v1) (v := .int (Int32.ofInt (v1))) rfl rfl (by decide) rfl (by decide) rfl rfl ((ju_c _ _ (by decide)).trans ((ju_c _ _ (by decide)).trans e1)) rfl ?_
              refine jr.iast (i := x) (x := v1) rfl (by decide) rfl (by decide) (by omega) (by omega) ?_
              refine jr.aload_n rfl rfl ?_
              refine jr.getf (i := 11) (v := .ref 421) rfl rfl (by decide) rfl (by decide) rfl rfl rfl rfl ?_
              refine jr.getf (i := 1) (v := .ref 423) rfl rfl (by decide) rfl (by decide) rfl rfl rfl rfl ?_
              refine jr.getf (i := 1) (v := .ref 425) rfl rfl (by decide) rfl (by decide) rfl rfl rfl rfl ?_
              refine jr.iload_n rfl rfl ?_
              refine jr.iload_n rfl rfl ?_
              refine jr.iast (i := x) (x := y) rfl (by decide) rfl (by decide) (by omega) (by omega) ?_
              refine jr.iload_n rfl rfl ?_
              exact jr.ireturn rfl rfl rfl (q _ _ (CI.u (CI.u (CI.u (CI.u hC_M (i := x) (show kd 523 = 38 from rfl) (show (-2147483648 : Int) ≤ _ ∧ _ ≤ (2147483647 : Int) from by omega) rfl) (i := x) (show kd 524 = 36 from rfl) (show (-2147483648 : Int) ≤ _ ∧ _ ≤ (2147483647 : Int) from by omega) rfl) (i := x) (show kd 525 = 37 from rfl) (show (-2147483648 : Int) ≤ _ ∧ _ ≤ (2147483647 : Int) from by omega) rfl) (i := x) (show kd 425 = 28 from rfl) (show (-2147483648 : Int) ≤ _ ∧ _ ≤ (2147483647 : Int) from by omega) rfl) (FR.o (FR.o (FR.o (FR.o ht_M (show kd 523 = 38 from rfl) rfl) (show kd 524 = 36 from rfl) rfl) (show kd 525 = 37 from rfl) rfl) (show kd 425 = 28 from rfl) rfl) (by omega) )
            · refine jr.bipush rfl (by decide) ?_
              exact jr.ireturn rfl rfl rfl (q _ _ hC_M ht_M (by omega) )
theorem c_PacketWall_rowAt {A : Nat → Option (Nat × (Nat → Int32))} {Q : Option Value → jm → Prop} {M : jm} (hC_M : CI M) {x : Int} (h_x : (-2147483648) ≤ x ∧ x ≤ 2147483647) {y : Int} (h_y : (-2147483648) ≤ y ∧ y ≤ 2147483647) (q : ∀ (r : Int), (-9223372036854775808) ≤ r ∧ r ≤ 9223372036854775807 → Q (some (.long (Int64.ofInt r))) M) : jc A 2 35 [.ref (0), .int (Int32.ofInt (x)), .int (Int32.ofInt (y))] M Q := by
  refine jc_of (m := xm_35) rfl (Nat.le_of_ble_eq_true rfl) rfl ?_
  refine jr.iload_n rfl rfl ?_
  refine jr.if_lt rfl rfl (by omega) (fun h1 => ?_) (fun h1 => ?_)
  · refine jr.ldc2 (x := (-3)) rfl rfl (by decide) ?_
    exact jr.lreturn rfl rfl (q _ (by omega) )
  · refine jr.iload_n rfl rfl ?_
    refine jr.bipush rfl (by decide) ?_
    refine jr.icmp_lt rfl rfl (by omega) (by omega) (fun h7 => ?_) (fun h7 => ?_)
    · refine jr.aload_n rfl rfl ?_
      refine jr.getf (i := 11) (v := .ref 421) rfl rfl (by decide) rfl (by decide) rfl rfl rfl rfl ?_
      refine jr.getf (i := 0) (v := .ref 422) rfl rfl (by decide) rfl (by decide) rfl rfl rfl rfl ?_
      refine jr.iload_n rfl rfl ?_
      have k1 := kxe_25 (a := 422) rfl (i := x) (by omega) (by omega)
      refine jr.aald (c := (xe 422 x)) rfl (by decide) rfl (by decide) (by decide) rfl (by decide) (by omega) (by omega) k1.1 ?_
      refine jr.astore_n rfl (by decide) rfl ?_
      refine jr.iload_n rfl rfl ?_
      refine jr.iconst rfl ?_
      refine jr.icmp_ne rfl rfl (by omega) (by omega) (fun h26 => ?_) (fun h26 => ?_)
      · refine jr.aload_n rfl rfl ?_
        refine jr.iload_n rfl rfl ?_
        refine jr.i2l rfl (by omega) ?_
        refine jr_v rfl rfl (Or.inl rfl) rfl rfl (Nat.lt_trans (kx_52 k1.2).1 (by decide)) (kx_52 k1.2).2 ⟨rfl, Nat.le_of_ble_eq_true rfl, Nat.le_of_ble_eq_true rfl⟩ rfl (jc.deep (c_Row_hasItem hC_M k1.2 (by omega) (fun r2 z2 w2_0 => ?_)) (by decide))
        refine jr.if_eq rfl rfl (by omega) (fun h41 => ?_) (fun h41 => ?_)
        · refine jr.ldc2 (x := (-1)) rfl rfl (by decide) ?_
          exact jr.lreturn rfl rfl (q _ (by omega) )
        · have sx41 : (1 : Int) ≤ r2 := by omega
          refine jr.aload_n rfl rfl ?_
          have k3 := kf_52_2 k1.2
          refine jr.getf (i := 2) (v := .ref ((xe 422 x) + 1)) rfl rfl (Nat.lt_trans (kx_52 k1.2).1 (by decide)) (kx_52 k1.2).2 (by decide) rfl rfl rfl (jval_ref rfl k3.1) ?_
          refine jr.iload_n rfl rfl ?_
          obtain ⟨v4, e4⟩ : ∃ z_, M (((xe 422 x) + 1)) y = z_ := ⟨_, rfl⟩
          have b4 : (-9223372036854775808) ≤ v4 ∧ v4 ≤ 9223372036854775807 := by rw [← e4]; exact (CI.r hC_M k3.2 (by decide) y)
          refine jr.lald (i := y) (x := v4) rfl (Nat.lt_trans (kx_54 k3.2).1 (by decide)) (kx_54 k3.2).2 (by decide) (by omega) (by omega) e4 ?_
          refine jr.goto rfl rfl ?_
          exact jr.lreturn rfl rfl (q _ (by omega) )
      · refine jr.aload_n rfl rfl ?_
        obtain ⟨v5, e5⟩ : ∃ z_, M ((xe 422 x)) 0 = z_ := ⟨_, rfl⟩
        have b5 : (-2147483648) ≤ v5 ∧ v5 ≤ 2147483647 := by rw [← e5]; exact (CI.r hC_M k1.2 (by decide) 0)
        refine jr.getf (i := 0) (x := v5) (v := .int (Int32.ofInt (v5))) rfl rfl (Nat.lt_trans (kx_52 k1.2).1 (by decide)) (kx_52 k1.2).2 (by decide) rfl rfl e5 rfl ?_
        refine jr.i2l rfl (by omega) ?_
        exact jr.lreturn rfl rfl (q _ (by omega) )
    · refine jr.ldc2 (x := (-3)) rfl rfl (by decide) ?_
      exact jr.lreturn rfl rfl (q _ (by omega) )
theorem c_PacketWall_mark {A : Nat → Option (Nat × (Nat → Int32))} {Q : Option Value → jm → Prop} {M : jm} (hC_M : CI M) {x : Int} (h_x : (-2147483648) ≤ x ∧ x ≤ 2147483647) (q : ∀ (r : Int), (-9223372036854775808) ≤ r ∧ r ≤ 9223372036854775807 → Q (some (.long (Int64.ofInt r))) M) : jc A 3 36 [.ref (0), .int (Int32.ofInt (x))] M Q := by
  refine jc_of (m := xm_36) rfl (Nat.le_of_ble_eq_true rfl) rfl ?_
  refine jr.aload_n rfl rfl ?_
  refine jr.iload_n rfl rfl ?_
  refine jr_v rfl rfl (Or.inl rfl) rfl rfl (by decide) rfl ⟨rfl, Nat.le_of_ble_eq_true rfl, Nat.le_of_ble_eq_true rfl⟩ rfl (jc.deep (c_PacketWall_isPacket hC_M (by omega) (fun r1 z1 w1_0 => ?_)) (by decide))
  refine jr.if_eq rfl rfl (by omega) (fun h5 => ?_) (fun h5 => ?_)
  · refine jr.lconst (x := 0) rfl (by decide) ?_
    exact jr.lreturn rfl rfl (q _ (by omega) )
  · have sx5 : (1 : Int) ≤ r1 := by omega
    refine jr.aload_n rfl rfl ?_
    refine jr.getf (i := 2) (v := .ref 2) rfl rfl (by decide) rfl (by decide) rfl rfl rfl rfl ?_
    refine jr.iload_n rfl rfl ?_
    have k2 := kxe_42 (a := 2) rfl (i := x) (by omega) (by omega)
    refine jr.aald (c := (xe 2 x)) rfl (by decide) rfl (by decide) (by decide) rfl (by decide) (by omega) (by omega) k2.1 ?_
    obtain ⟨v3, e3⟩ : ∃ z_, M ((xe 2 x)) 2 = z_ := ⟨_, rfl⟩
    have b3 : (-9223372036854775808) ≤ v3 ∧ v3 ≤ 9223372036854775807 := by rw [← e3]; exact (CI.r hC_M k2.2 (by decide) 2)
    refine jr.getf (i := 2) (x := v3) (v := .long (Int64.ofInt (v3))) rfl rfl (Nat.lt_trans (kx_33 k2.2).1 (by decide)) (kx_33 k2.2).2 (by decide) rfl rfl e3 rfl ?_
    refine jr.goto rfl rfl ?_
    exact jr.lreturn rfl rfl (q _ (by omega) )
theorem c_PacketWall_told {A : Nat → Option (Nat × (Nat → Int32))} {Q : Option Value → jm → Prop} {M : jm} (hC_M : CI M) {x : Int} (h_x : (-2147483648) ≤ x ∧ x ≤ 2147483647) (q : ∀ (r : Int), (-2147483648) ≤ r ∧ r ≤ 2147483647 → Q (some (.int (Int32.ofInt r))) M) : jc A 3 40 [.ref (0), .int (Int32.ofInt (x))] M Q := by
  refine jc_of (m := xm_40) rfl (Nat.le_of_ble_eq_true rfl) rfl ?_
  refine jr.iload_n rfl rfl ?_
  rcases (show x = 0 ∨ x = 1 ∨ x = 2 ∨ x = 3 ∨ x = 4 ∨ x = 5 ∨ x = 6 ∨ x = 7 ∨ x = 8 ∨ (x ≠ 0 ∧ x ≠ 1 ∧ x ≠ 2 ∧ x ≠ 3 ∧ x ≠ 4 ∧ x ≠ 5 ∧ x ≠ 6 ∧ x ≠ 7 ∧ x ≠ 8) by omega) with h1 | h1 | h1 | h1 | h1 | h1 | h1 | h1 | h1 | h1
  · refine jr.tsw_k 0 rfl h1 rfl ?_
    refine jr.aload_n rfl rfl ?_
    obtain ⟨v1, e1⟩ : ∃ z_, M 0 8 = z_ := ⟨_, rfl⟩
    have b1 : (-2147483648) ≤ v1 ∧ v1 ≤ 2147483647 := by rw [← e1]; exact (CI.r hC_M (show kd 0 = 35 from rfl) (by decide) 8)
    refine jr.getf (i := 8) (x := v1) (v := .int (Int32.ofInt (v1))) rfl rfl (by decide) rfl (by decide) rfl rfl e1 rfl ?_
    exact jr.ireturn rfl rfl rfl (q _ (by omega) )
  · refine jr.tsw_k 1 rfl h1 rfl ?_
    refine jr.aload_n rfl rfl ?_
    refine jr_v rfl rfl (Or.inl rfl) rfl rfl (by decide) rfl ⟨rfl, Nat.le_of_ble_eq_true rfl, Nat.le_of_ble_eq_true rfl⟩ rfl (jc.deep (c_PacketWall_countPackets hC_M  (fun r2 z2  => ?_)) (by decide))
    exact jr.ireturn rfl rfl rfl (q _ (by omega) )
  · refine jr.tsw_k 2 rfl h1 rfl ?_
    refine jr.aload_n rfl rfl ?_
    refine jr_v rfl rfl (Or.inl rfl) rfl rfl (by decide) rfl ⟨rfl, Nat.le_of_ble_eq_true rfl, Nat.le_of_ble_eq_true rfl⟩ rfl (jc.deep (c_PacketWall_countGatherings hC_M  (fun r3 z3  => ?_)) (by decide))
    exact jr.ireturn rfl rfl rfl (q _ (by omega) )
  · refine jr.tsw_k 3 rfl h1 rfl ?_
    refine jr.aload_n rfl rfl ?_
    refine jr.getf (i := 9) (v := .ref 15) rfl rfl (by decide) rfl (by decide) rfl rfl rfl rfl ?_
    refine jr_v rfl rfl (Or.inl rfl) rfl rfl (by decide) rfl ⟨rfl, Nat.le_of_ble_eq_true rfl, Nat.le_of_ble_eq_true rfl⟩ rfl (jc.deep (c_Flows_countLive hC_M  (fun r4 z4  => ?_)) (by decide))
    exact jr.ireturn rfl rfl rfl (q _ (by omega) )
  · refine jr.tsw_k 4 rfl h1 rfl ?_
    refine jr.aload_n rfl rfl ?_
    refine jr.getf (i := 11) (v := .ref 421) rfl rfl (by decide) rfl (by decide) rfl rfl rfl rfl ?_
    obtain ⟨v5, e5⟩ : ∃ z_, M 421 2 = z_ := ⟨_, rfl⟩
    have b5 : 0 ≤ v5 ∧ v5 ≤ 597 := by rw [← e5]; exact (CI.r hC_M (show kd 421 = 22 from rfl) (by decide) 2)
    have k6 : kd (v5).toNat = 47 := ((congrArg (fun z : Int => kd z.toNat) (show M 421 2 = v5 from e5)).symm.trans (CI.x hC_M (show kd 421 = 22 from rfl) 2 rfl (by decide)))
    refine jr.getf (i := 2) (x := v5) (v := .ref (v5.toNat)) rfl rfl (by decide) rfl (by decide) rfl rfl e5 rfl ?_
    obtain ⟨v7, e7⟩ : ∃ z_, M ((v5.toNat)) 3 = z_ := ⟨_, rfl⟩
    have b7 : 0 ≤ v7 ∧ v7 ≤ 16 := by rw [← e7]; exact (CI.r hC_M k6 (by decide) 3)
    refine jr.getf (i := 3) (x := v7) (v := .int (Int32.ofInt (v7))) rfl rfl (Nat.lt_trans (kx_47 k6).1 (by decide)) (kx_47 k6).2 (by decide) rfl rfl e7 rfl ?_
    exact jr.ireturn rfl rfl rfl (q _ (by omega) )
  · refine jr.tsw_k 5 rfl h1 rfl ?_
    refine jr.aload_n rfl rfl ?_
    refine jr.getf (i := 11) (v := .ref 421) rfl rfl (by decide) rfl (by decide) rfl rfl rfl rfl ?_
    obtain ⟨v8, e8⟩ : ∃ z_, M 421 2 = z_ := ⟨_, rfl⟩
    have b8 : 0 ≤ v8 ∧ v8 ≤ 597 := by rw [← e8]; exact (CI.r hC_M (show kd 421 = 22 from rfl) (by decide) 2)
    have k9 : kd (v8).toNat = 47 := ((congrArg (fun z : Int => kd z.toNat) (show M 421 2 = v8 from e8)).symm.trans (CI.x hC_M (show kd 421 = 22 from rfl) 2 rfl (by decide)))
    refine jr.getf (i := 2) (x := v8) (v := .ref (v8.toNat)) rfl rfl (by decide) rfl (by decide) rfl rfl e8 rfl ?_
    obtain ⟨v10, e10⟩ : ∃ z_, M ((v8.toNat)) 4 = z_ := ⟨_, rfl⟩
    have b10 : (-2147483648) ≤ v10 ∧ v10 ≤ 2147483647 := by rw [← e10]; exact (CI.r hC_M k9 (by decide) 4)
    refine jr.getf (i := 4) (x := v10) (v := .int (Int32.ofInt (v10))) rfl rfl (Nat.lt_trans (kx_47 k9).1 (by decide)) (kx_47 k9).2 (by decide) rfl rfl e10 rfl ?_
    exact jr.ireturn rfl rfl rfl (q _ (by omega) )
  · refine jr.tsw_k 6 rfl h1 rfl ?_
    refine jr.aload_n rfl rfl ?_
    refine jr.getf (i := 11) (v := .ref 421) rfl rfl (by decide) rfl (by decide) rfl rfl rfl rfl ?_
    obtain ⟨v11, e11⟩ : ∃ z_, M 421 3 = z_ := ⟨_, rfl⟩
    have b11 : (-2147483648) ≤ v11 ∧ v11 ≤ 2147483647 := by rw [← e11]; exact (CI.r hC_M (show kd 421 = 22 from rfl) (by decide) 3)
    refine jr.getf (i := 3) (x := v11) (v := .int (Int32.ofInt (v11))) rfl rfl (by decide) rfl (by decide) rfl rfl e11 rfl ?_
    exact jr.ireturn rfl rfl rfl (q _ (by omega) )
  · refine jr.tsw_k 7 rfl h1 rfl ?_
    refine jr.aload_n rfl rfl ?_
    obtain ⟨v12, e12⟩ : ∃ z_, M 0 1 = z_ := ⟨_, rfl⟩
    have b12 : 0 ≤ v12 ∧ v12 ≤ 1600 := by rw [← e12]; exact (CI.r hC_M (show kd 0 = 35 from rfl) (by decide) 1)
    refine jr.getf (i := 1) (x := v12) (v := .int (Int32.ofInt (v12))) rfl rfl (by decide) rfl (by decide) rfl rfl e12 rfl ?_
    exact jr.ireturn rfl rfl rfl (q _ (by omega) )
  · refine jr.tsw_k 8 rfl h1 rfl ?_
    refine jr.aload_n rfl rfl ?_
    refine jr.getf (i := 11) (v := .ref 421) rfl rfl (by decide) rfl (by decide) rfl rfl rfl rfl ?_
    refine jr.getf (i := 1) (v := .ref 423) rfl rfl (by decide) rfl (by decide) rfl rfl rfl rfl ?_
    obtain ⟨v13, e13⟩ : ∃ z_, M 423 5 = z_ := ⟨_, rfl⟩
    have b13 : 0 ≤ v13 ∧ v13 ≤ 2147483647 := by rw [← e13]; exact (CI.r hC_M (show kd 423 = 27 from rfl) (by decide) 5)
    refine jr.getf (i := 5) (x := v13) (v := .int (Int32.ofInt (v13))) rfl rfl (by decide) rfl (by decide) rfl rfl e13 rfl ?_
    exact jr.ireturn rfl rfl rfl (q _ (by omega) )
  · refine jr.tsw_d rfl (by omega) (by omega) rfl ?_
    refine jr.bipush rfl (by decide) ?_
    exact jr.ireturn rfl rfl rfl (q _ (by omega) )
theorem c_Flows_stateOf {A : Nat → Option (Nat × (Nat → Int32))} {Q : Option Value → jm → Prop} {M : jm} (hC_M : CI M) {x : Int} (h_x : (-2147483648) ≤ x ∧ x ≤ 2147483647) (q : ∀ (r : Int), (-2147483648) ≤ r ∧ r ≤ 2147483647 → Q (some (.int (Int32.ofInt r))) M) : jc A 2 77 [.ref (15), .int (Int32.ofInt (x))] M Q := by
  refine jc_of (m := xm_77) rfl (Nat.le_of_ble_eq_true rfl) rfl ?_
  refine jr.aload_n rfl rfl ?_
  refine jr.iload_n rfl rfl ?_
  refine jr_v rfl rfl (Or.inl rfl) rfl rfl (by decide) rfl ⟨rfl, Nat.le_of_ble_eq_true rfl, Nat.le_of_ble_eq_true rfl⟩ rfl (jc.deep (c_Flows_isLive hC_M (by omega) (fun r1 z1 w1_0 => ?_)) (by decide))
  refine jr.if_eq rfl rfl (by omega) (fun h5 => ?_) (fun h5 => ?_)
  · refine jr.iconst rfl ?_
    exact jr.ireturn rfl rfl rfl (q _ (by omega) )
  · have sx5 : (1 : Int) ≤ r1 := by omega
    refine jr.aload_n rfl rfl ?_
    obtain ⟨v2, e2⟩ : ∃ z_, M 15 0 = z_ := ⟨_, rfl⟩
    have b2 : 16 ≤ v2 ∧ v2 ≤ 17 := by rw [← e2]; exact (CI.r hC_M (show kd 15 = 9 from rfl) (by decide) 0)
    have k3 : kd (v2).toNat = 13 := by rcases (show v2 = 16 ∨ v2 = 17 by omega) with h | h <;> (rw [h]; rfl)
    refine jr.getf (i := 0) (x := v2) (v := .ref (v2.toNat)) rfl rfl (by decide) rfl (by decide) rfl rfl e2 rfl ?_
    refine jr.iload_n rfl rfl ?_
    have k4 := kxe_13 k3 (i := x) (by omega) (by omega)
    refine jr.aald (c := (xe ((v2.toNat)) x)) rfl (Nat.lt_trans (kx_13 k3).1 (by decide)) (kx_13 k3).2 (by decide) (by decide) rfl (by decide) (by omega) (by omega) k4.1 ?_
    obtain ⟨v5, e5⟩ : ∃ z_, M ((xe ((v2.toNat)) x)) 5 = z_ := ⟨_, rfl⟩
    have b5 : (-2147483648) ≤ v5 ∧ v5 ≤ 2147483647 := by rw [← e5]; exact (CI.r hC_M k4.2 (by decide) 5)
    refine jr.getf (i := 5) (x := v5) (v := .int (Int32.ofInt (v5))) rfl rfl (Nat.lt_trans (kx_1 k4.2).1 (by decide)) (kx_1 k4.2).2 (by decide) rfl rfl e5 rfl ?_
    refine jr.goto rfl rfl ?_
    exact jr.ireturn rfl rfl rfl (q _ (by omega) )
noncomputable def W_c_Machine_clearReport : List (Nat × Nat) := [(22, 11), (24, 1000)]
theorem c_Machine_clearReport {A : Nat → Option (Nat × (Nat → Int32))} {Q : Option Value → jm → Prop} {T : jm} {M : jm} (hC_M : CI M) (ht_M : FR W_c_Machine_clearReport T M) (q : ∀ (M' : jm), CI M' → FR W_c_Machine_clearReport T M' → Q none M') : jc A 2 141 [.ref (421)] M Q := by
  refine jc_of (m := xm_141) rfl (Nat.le_of_ble_eq_true rfl) rfl ?_
  refine jr.aload_n rfl rfl ?_
  refine jr.iconst rfl ?_
  refine jr.putf (i := 11) (x := 1) rfl rfl (by decide) rfl (by decide) rfl rfl rfl rfl rfl ?_
  refine jr.aload_n rfl rfl ?_
  refine jr.getf (i := 10) (v := .ref 436) rfl rfl (by decide) rfl (by decide) rfl rfl rfl rfl ?_
  refine jr.iconst rfl ?_
  refine jr.iconst rfl ?_
  refine jr.iast (i := 2) (x := 0) rfl (by decide) rfl (by decide) (by omega) (by omega) ?_
  refine jr.aload_n rfl rfl ?_
  refine jr.getf (i := 10) (v := .ref 436) rfl rfl (by decide) rfl (by decide) rfl rfl rfl rfl ?_
  refine jr.iconst rfl ?_
  refine jr.iconst rfl ?_
  refine jr.iast (i := 4) (x := 0) rfl (by decide) rfl (by decide) (by omega) (by omega) ?_
  refine jr.aload_n rfl rfl ?_
  refine jr_v rfl rfl (Or.inl rfl) rfl rfl (by decide) rfl ⟨rfl, Nat.le_of_ble_eq_true rfl, Nat.le_of_ble_eq_true rfl⟩ rfl (jc.deep (c_Machine_clearFailure (CI.u (CI.u (CI.u hC_M (i := 11) (show kd 421 = 22 from rfl) (show (0 : Int) ≤ _ ∧ _ ≤ (1 : Int) from by omega) rfl) (i := 2) (show kd 436 = 24 from rfl) (show (-2147483648 : Int) ≤ _ ∧ _ ≤ (2147483647 : Int) from by omega) rfl) (i := 4) (show kd 436 = 24 from rfl) (show (0 : Int) ≤ _ ∧ _ ≤ (40 : Int) from by omega) rfl) (FR.rfl _ ((ju (ju (ju M 421 11 1) 436 2 0) 436 4 0)))  (fun M1 hC_M1 hf_M1  => ?_)) (by decide))
  have ht_M1 : FR W_c_Machine_clearReport T M1 := FR.t (FR.o (FR.o (FR.o ht_M (show kd 421 = 22 from rfl) rfl) (show kd 436 = 24 from rfl) rfl) (show kd 436 = 24 from rfl) rfl) hf_M1 (kw_sub rfl)
  exact jr.vreturn rfl rfl (q _ hC_M1 ht_M1  )
noncomputable def W_c_Machine_takeStep : List (Nat × Nat) := [(22, 4), (24, 1000)]
theorem c_Machine_takeStep {A : Nat → Option (Nat × (Nat → Int32))} {Q : Option Value → jm → Prop} {T : jm} {M : jm} (hC_M : CI M) (ht_M : FR W_c_Machine_takeStep T M) (q : ∀ (M' : jm), CI M' → FR W_c_Machine_takeStep T M' → Q none M') : jc A 2 152 [.ref (421)] M Q := by
  refine jc_of (m := xm_152) rfl (Nat.le_of_ble_eq_true rfl) rfl ?_
  refine jr.aload_n rfl rfl ?_
  refine jr.getf (i := 10) (v := .ref 436) rfl rfl (by decide) rfl (by decide) rfl rfl rfl rfl ?_
  refine jr.iconst rfl ?_
  obtain ⟨v1, e1⟩ : ∃ z_, M 436 2 = z_ := ⟨_, rfl⟩
  have b1 : (-2147483648) ≤ v1 ∧ v1 ≤ 2147483647 := by rw [← e1]; exact (CI.r hC_M (show kd 436 = 24 from rfl) (by decide) 2)
  refine jr.iald (i := 2) (x := v1) rfl (by decide) rfl (by decide) (by omega) (by omega) e1 ?_
  refine jr.sipush rfl (by decide) ?_
  refine jr.icmp_lt rfl rfl (by omega) (by omega) (fun h9 => ?_) (fun h9 => ?_)
  · refine jr.aload_n rfl rfl ?_
    refine jr.getf (i := 10) (v := .ref 436) rfl rfl (by decide) rfl (by decide) rfl rfl rfl rfl ?_
    refine jr.iconst rfl ?_
    refine jr.dup2 rfl ⟨rfl, rfl⟩ ?_
    refine jr.iald (i := 2) (x := v1) rfl (by decide) rfl (by decide) (by omega) (by omega) e1 ?_
    refine jr.iconst rfl ?_
    refine jr.iadd rfl ?_
    refine jr.iast (i := 2) (x := (v1 + 1)) rfl (by decide) rfl (by decide) (by omega) (by omega) ?_
    exact jr.vreturn rfl rfl (q _ (CI.u hC_M (i := 2) (show kd 436 = 24 from rfl) (show (-2147483648 : Int) ≤ _ ∧ _ ≤ (2147483647 : Int) from by omega) rfl) (FR.o ht_M (show kd 436 = 24 from rfl) rfl)  )
  · refine jr.aload_n rfl rfl ?_
    refine jr.bipush rfl (by decide) ?_
    refine jr_v rfl rfl (Or.inl rfl) rfl rfl (by decide) rfl ⟨rfl, Nat.le_of_ble_eq_true rfl, Nat.le_of_ble_eq_true rfl⟩ rfl (jc.deep (c_Machine_fail hC_M (FR.rfl _ M) (by omega) (fun M2 hC_M2 hf_M2  => ?_)) (by decide))
    have ht_M2 : FR W_c_Machine_takeStep T M2 := FR.t ht_M hf_M2 (kw_sub rfl)
    refine jr.goto rfl rfl ?_
    exact jr.vreturn rfl rfl (q _ hC_M2 ht_M2  )
noncomputable def W_c_Machine_askByte : List (Nat × Nat) := [(22, 4), (22, 9), (24, 1000), (26, 1000)]
theorem c_Machine_askByte {A : Nat → Option (Nat × (Nat → Int32))} {Q : Option Value → jm → Prop} {T : jm} {M : jm} (hC_M : CI M) (ht_M : FR W_c_Machine_askByte T M) {x : Int} (h_x : (-9223372036854775808) ≤ x ∧ x ≤ 9223372036854775807) (q : ∀ (M' : jm), CI M' → FR W_c_Machine_askByte T M' → Q none M') : jc A 2 160 [.ref (421), .long (Int64.ofInt (x))] M Q := by
  refine jc_of (m := xm_160) rfl (Nat.le_of_ble_eq_true rfl) rfl ?_
  refine jr.aload_n rfl rfl ?_
  obtain ⟨v1, e1⟩ : ∃ z_, M 421 12 = z_ := ⟨_, rfl⟩
  have b1 : 0 ≤ v1 ∧ v1 ≤ 597 := by rw [← e1]; exact (CI.r hC_M (show kd 421 = 22 from rfl) (by decide) 12)
  have k2 : kd (v1).toNat = 18 := ((congrArg (fun z : Int => kd z.toNat) (show M 421 12 = v1 from e1)).symm.trans (CI.x hC_M (show kd 421 = 22 from rfl) 12 rfl (by decide)))
  refine jr.getf (i := 12) (x := v1) (v := .ref (v1.toNat)) rfl rfl (by decide) rfl (by decide) rfl rfl e1 rfl ?_
  obtain ⟨v3, e3⟩ : ∃ z_, M ((v1.toNat)) 7 = z_ := ⟨_, rfl⟩
  have b3 : 0 ≤ v3 ∧ v3 ≤ 597 := by rw [← e3]; exact (CI.r hC_M k2 (by decide) 7)
  have k4 : kd (v3).toNat = 33 := ((congrArg (fun z : Int => kd z.toNat) (show M ((v1.toNat)) 7 = v3 from e3)).symm.trans (CI.x hC_M k2 7 rfl (by decide)))
  refine jr.getf (i := 7) (x := v3) (v := .ref (v3.toNat)) rfl rfl (Nat.lt_trans (kx_18 k2).1 (by decide)) (kx_18 k2).2 (by decide) rfl rfl e3 (jval_mut rfl (kn_18_7 k2)) ?_
  refine jr_v rfl rfl (Or.inl rfl) rfl rfl (Nat.lt_trans (kx_33 k4).1 (by decide)) (kx_33 k4).2 ⟨rfl, Nat.le_of_ble_eq_true rfl, Nat.le_of_ble_eq_true rfl⟩ rfl (jc.deep (c_Packet_isThere hC_M k4 (fun r5 z5 w5_0 => ?_)) (by decide))
  obtain ⟨v6, e6⟩ : ∃ z_, M ((v3.toNat)) 1 = z_ := ⟨_, rfl⟩
  have b6 : (-1) ≤ v6 ∧ v6 ≤ 400 := by rw [← e6]; exact (CI.r hC_M k4 (by decide) 1)
  refine jr.if_ne rfl rfl (by omega) (fun h10 => ?_) (fun h10 => ?_)
  · have sx10 : (1 : Int) ≤ r5 := by omega
    refine jr.aload_n rfl rfl ?_
    have k7 : kd (v1).toNat = 18 := ((congrArg (fun z : Int => kd z.toNat) (show M 421 12 = v1 from e1)).symm.trans (CI.x hC_M (show kd 421 = 22 from rfl) 12 rfl (by decide)))
    refine jr.getf (i := 12) (x := v1) (v := .ref (v1.toNat)) rfl rfl (by decide) rfl (by decide) rfl rfl e1 rfl ?_
    have k8 : kd (v3).toNat = 33 := ((congrArg (fun z : Int => kd z.toNat) (show M ((v1.toNat)) 7 = v3 from e3)).symm.trans (CI.x hC_M k7 7 rfl (by decide)))
    refine jr.getf (i := 7) (x := v3) (v := .ref (v3.toNat)) rfl rfl (Nat.lt_trans (kx_18 k7).1 (by decide)) (kx_18 k7).2 (by decide) rfl rfl e3 (jval_mut rfl (kn_18_7 k7)) ?_
    refine jr.lload_n rfl rfl ?_
    refine jr_v rfl rfl (Or.inl rfl) rfl rfl (Nat.lt_trans (kx_33 k8).1 (by decide)) (kx_33 k8).2 ⟨rfl, Nat.le_of_ble_eq_true rfl, Nat.le_of_ble_eq_true rfl⟩ rfl (jc.deep (c_Packet_hasByte hC_M k8 (by omega) (fun r9 z9 w9_0 => ?_)) (by decide))
    refine jr.if_ne rfl rfl (by omega) (fun h32 => ?_) (fun h32 => ?_)
    · have sx32 : (1 : Int) ≤ r9 := by omega
      refine jr.aload_n rfl rfl ?_
      refine jr.aload_n rfl rfl ?_
      have k10 : kd (v1).toNat = 18 := ((congrArg (fun z : Int => kd z.toNat) (show M 421 12 = v1 from e1)).symm.trans (CI.x hC_M (show kd 421 = 22 from rfl) 12 rfl (by decide)))
      refine jr.getf (i := 12) (x := v1) (v := .ref (v1.toNat)) rfl rfl (by decide) rfl (by decide) rfl rfl e1 rfl ?_
      have k11 : kd (v3).toNat = 33 := ((congrArg (fun z : Int => kd z.toNat) (show M ((v1.toNat)) 7 = v3 from e3)).symm.trans (CI.x hC_M k10 7 rfl (by decide)))
      refine jr.getf (i := 7) (x := v3) (v := .ref (v3.toNat)) rfl rfl (Nat.lt_trans (kx_18 k10).1 (by decide)) (kx_18 k10).2 (by decide) rfl rfl e3 (jval_mut rfl (kn_18_7 k10)) ?_
      refine jr.lload_n rfl rfl ?_
      refine jr.l2i rfl ?_
      refine jr_v rfl rfl (Or.inl rfl) rfl rfl (Nat.lt_trans (kx_33 k11).1 (by decide)) (kx_33 k11).2 ⟨rfl, Nat.le_of_ble_eq_true rfl, Nat.le_of_ble_eq_true rfl⟩ rfl (jc.deep (c_Packet_byteAt hC_M k11 (by omega) (fun r12 z12  => ?_)) (by decide))
      refine jr.i2l rfl (by omega) ?_
      refine jr_v rfl rfl (Or.inl rfl) rfl rfl (by decide) rfl ⟨rfl, Nat.le_of_ble_eq_true rfl, Nat.le_of_ble_eq_true rfl⟩ rfl (jc.deep (c_Machine_push hC_M (FR.rfl _ M) (by omega) (fun M13 hC_M13 hf_M13  => ?_)) (by decide))
      have ht_M13 : FR W_c_Machine_askByte T M13 := FR.t ht_M hf_M13 (kw_sub rfl)
      exact jr.vreturn rfl rfl (q _ hC_M13 ht_M13  )
    · refine jr.aload_n rfl rfl ?_
      refine jr.iconst rfl ?_
      refine jr_v rfl rfl (Or.inl rfl) rfl rfl (by decide) rfl ⟨rfl, Nat.le_of_ble_eq_true rfl, Nat.le_of_ble_eq_true rfl⟩ rfl (jc.deep (c_Machine_fail hC_M (FR.rfl _ M) (by omega) (fun M14 hC_M14 hf_M14  => ?_)) (by decide))
      have ht_M14 : FR W_c_Machine_askByte T M14 := FR.t ht_M hf_M14 (kw_sub rfl)
      refine jr.goto rfl rfl ?_
      exact jr.vreturn rfl rfl (q _ hC_M14 ht_M14  )
  · refine jr.aload_n rfl rfl ?_
    refine jr.iconst rfl ?_
    refine jr_v rfl rfl (Or.inl rfl) rfl rfl (by decide) rfl ⟨rfl, Nat.le_of_ble_eq_true rfl, Nat.le_of_ble_eq_true rfl⟩ rfl (jc.deep (c_Machine_fail hC_M (FR.rfl _ M) (by omega) (fun M15 hC_M15 hf_M15  => ?_)) (by decide))
    have ht_M15 : FR W_c_Machine_askByte T M15 := FR.t ht_M hf_M15 (kw_sub rfl)
    refine jr.goto rfl rfl ?_
    exact jr.vreturn rfl rfl (q _ hC_M15 ht_M15  )
noncomputable def W_c_Machine_askLong : List (Nat × Nat) := [(22, 4), (22, 9), (24, 1000), (26, 1000)]
theorem c_Machine_askLong {A : Nat → Option (Nat × (Nat → Int32))} {Q : Option Value → jm → Prop} {T : jm} {M : jm} (hC_M : CI M) (ht_M : FR W_c_Machine_askLong T M) {x : Int} (h_x : (-9223372036854775808) ≤ x ∧ x ≤ 9223372036854775807) (q : ∀ (M' : jm), CI M' → FR W_c_Machine_askLong T M' → Q none M') : jc A 3 162 [.ref (421), .long (Int64.ofInt (x))] M Q := by
  refine jc_of (m := xm_162) rfl (Nat.le_of_ble_eq_true rfl) rfl ?_
  refine jr.aload_n rfl rfl ?_
  refine jr.lload_n rfl rfl ?_
  refine jr_v rfl rfl (Or.inl rfl) rfl rfl (by decide) rfl ⟨rfl, Nat.le_of_ble_eq_true rfl, Nat.le_of_ble_eq_true rfl⟩ rfl (jc.deep (c_Machine_isRow hC_M (FR.rfl _ M) (by omega) (fun r1 M1 hC_M1 hf_M1 z1 w1_0 => ?_)) (by decide))
  have ht_M1 : FR W_c_Machine_askLong T M1 := FR.t ht_M hf_M1 (kw_sub rfl)
  refine jr.if_eq rfl rfl (by omega) (fun h5 => ?_) (fun h5 => ?_)
  · exact jr.vreturn rfl rfl (q _ hC_M1 ht_M1  )
  · have sx5 : (1 : Int) ≤ r1 := by omega
    refine jr.aload_n rfl rfl ?_
    refine jr.aload_n rfl rfl ?_
    refine jr.getf (i := 0) (v := .ref 422) rfl rfl (by decide) rfl (by decide) rfl rfl rfl rfl ?_
    refine jr.lload_n rfl rfl ?_
    refine jr.l2i rfl ?_
    have k2 := kxe_25 (a := 422) rfl (i := x) (by omega) (by omega)
    refine jr.aald (c := (xe 422 x)) rfl (by decide) rfl (by decide) (by decide) rfl (by decide) (by omega) (by omega) k2.1 ?_
    obtain ⟨v3, e3⟩ : ∃ z_, M ((xe 422 x)) 1 = z_ := ⟨_, rfl⟩
    have b3 : 0 ≤ v3 ∧ v3 ≤ 40 := by rw [← e3]; exact (CI.r hC_M k2.2 (by decide) 1)
    have e4 : M1 ((xe 422 x)) 1 = v3 := (hf_M1.g k2.2 rfl).trans e3
    refine jr.getf (i := 1) (x := v3) (v := .int (Int32.ofInt (v3))) rfl rfl (Nat.lt_trans (kx_52 k2.2).1 (by decide)) (kx_52 k2.2).2 (by decide) rfl rfl e4 rfl ?_
    refine jr.i2l rfl (by omega) ?_
    refine jr_v rfl rfl (Or.inl rfl) rfl rfl (by decide) rfl ⟨rfl, Nat.le_of_ble_eq_true rfl, Nat.le_of_ble_eq_true rfl⟩ rfl (jc.deep (c_Machine_push hC_M1 (FR.rfl _ M1) (by omega) (fun M5 hC_M5 hf_M5  => ?_)) (by decide))
    have ht_M5 : FR W_c_Machine_askLong T M5 := FR.t ht_M1 hf_M5 (kw_sub rfl)
    exact jr.vreturn rfl rfl (q _ hC_M5 ht_M5  )
noncomputable def W_c_Machine_askSet : List (Nat × Nat) := [(22, 4), (22, 9), (24, 1000), (26, 1000)]
theorem c_Machine_askSet {A : Nat → Option (Nat × (Nat → Int32))} {Q : Option Value → jm → Prop} {T : jm} {M : jm} (hC_M : CI M) (ht_M : FR W_c_Machine_askSet T M) {x : Int} (h_x : (-9223372036854775808) ≤ x ∧ x ≤ 9223372036854775807) {y : Int} (h_y : (-9223372036854775808) ≤ y ∧ y ≤ 9223372036854775807) (q : ∀ (M' : jm), CI M' → FR W_c_Machine_askSet T M' → Q none M') : jc A 3 163 [.ref (421), .long (Int64.ofInt (x)), .long (Int64.ofInt (y))] M Q := by
  refine jc_of (m := xm_163) rfl (Nat.le_of_ble_eq_true rfl) rfl ?_
  refine jr.lload_n rfl rfl ?_
  refine jr.iconst rfl ?_
  refine jr_s rfl rfl (Or.inl rfl) ⟨Nat.le_of_ble_eq_true rfl, Nat.le_of_ble_eq_true rfl⟩ rfl rfl (jc.deep (c_Machine_isNot hC_M (by omega) (by omega) (fun r1 z1 w1_0 => ?_)) (by decide))
  refine jr.if_eq rfl rfl (by omega) (fun h5 => ?_) (fun h5 => ?_)
  · refine jr.aload_n rfl rfl ?_
    refine jr.aload_n rfl rfl ?_
    refine jr.getf (i := 1) (v := .ref 423) rfl rfl (by decide) rfl (by decide) rfl rfl rfl rfl ?_
    refine jr.lload_n rfl rfl ?_
    refine jr.l2i rfl ?_
    refine jr.lload_n rfl rfl ?_
    refine jr_v rfl rfl (Or.inl rfl) rfl rfl (by decide) rfl ⟨rfl, Nat.le_of_ble_eq_true rfl, Nat.le_of_ble_eq_true rfl⟩ rfl (jc.deep (c_Memory_knows hC_M (show kd 423 = 27 from rfl) (by omega) (by omega) (fun r2 z2  => ?_)) (by decide))
    refine jr_v rfl rfl (Or.inl rfl) rfl rfl (by decide) rfl ⟨rfl, Nat.le_of_ble_eq_true rfl, Nat.le_of_ble_eq_true rfl⟩ rfl (jc.deep (c_Machine_pushTruth hC_M (FR.rfl _ M) (by omega) (fun M3 hC_M3 hf_M3  => ?_)) (by decide))
    have ht_M3 : FR W_c_Machine_askSet T M3 := FR.t ht_M hf_M3 (kw_sub rfl)
    exact jr.vreturn rfl rfl (q _ hC_M3 ht_M3  )
  · have sx5 : (1 : Int) ≤ r1 := by omega
    refine jr.aload_n rfl rfl ?_
    refine jr.iconst rfl ?_
    refine jr_v rfl rfl (Or.inl rfl) rfl rfl (by decide) rfl ⟨rfl, Nat.le_of_ble_eq_true rfl, Nat.le_of_ble_eq_true rfl⟩ rfl (jc.deep (c_Machine_fail hC_M (FR.rfl _ M) (by omega) (fun M4 hC_M4 hf_M4  => ?_)) (by decide))
    have ht_M4 : FR W_c_Machine_askSet T M4 := FR.t ht_M hf_M4 (kw_sub rfl)
    refine jr.goto rfl rfl ?_
    exact jr.vreturn rfl rfl (q _ hC_M4 ht_M4  )
noncomputable def W_c_Machine_askRow : List (Nat × Nat) := [(22, 4), (22, 9), (24, 1000), (26, 1000)]
theorem c_Machine_askRow {A : Nat → Option (Nat × (Nat → Int32))} {Q : Option Value → jm → Prop} {T : jm} {M : jm} (hC_M : CI M) (ht_M : FR W_c_Machine_askRow T M) {x : Int} (h_x : (-9223372036854775808) ≤ x ∧ x ≤ 9223372036854775807) {y : Int} (h_y : (-9223372036854775808) ≤ y ∧ y ≤ 9223372036854775807) (q : ∀ (M' : jm), CI M' → FR W_c_Machine_askRow T M' → Q none M') : jc A 4 164 [.ref (421), .long (Int64.ofInt (x)), .long (Int64.ofInt (y))] M Q := by
  refine jc_of (m := xm_164) rfl (Nat.le_of_ble_eq_true rfl) rfl ?_
  refine jr.aload_n rfl rfl ?_
  refine jr.lload_n rfl rfl ?_
  refine jr.lload_n rfl rfl ?_
  refine jr_v rfl rfl (Or.inl rfl) rfl rfl (by decide) rfl ⟨rfl, Nat.le_of_ble_eq_true rfl, Nat.le_of_ble_eq_true rfl⟩ rfl (jc.deep (c_Machine_isItemOfNumbers hC_M (FR.rfl _ M) (by omega) (by omega) (fun r1 M1 hC_M1 hf_M1 z1 w1_0 => ?_)) (by decide))
  have ht_M1 : FR W_c_Machine_askRow T M1 := FR.t ht_M hf_M1 (kw_sub rfl)
  refine jr.if_eq rfl rfl (by omega) (fun h6 => ?_) (fun h6 => ?_)
  · exact jr.vreturn rfl rfl (q _ hC_M1 ht_M1  )
  · have sx6 : (1 : Int) ≤ r1 := by omega
    refine jr.aload_n rfl rfl ?_
    refine jr.aload_n rfl rfl ?_
    refine jr.getf (i := 0) (v := .ref 422) rfl rfl (by decide) rfl (by decide) rfl rfl rfl rfl ?_
    refine jr.lload_n rfl rfl ?_
    refine jr.l2i rfl ?_
    have k2 := kxe_25 (a := 422) rfl (i := x) (by omega) (by omega)
    refine jr.aald (c := (xe 422 x)) rfl (by decide) rfl (by decide) (by decide) rfl (by decide) (by omega) (by omega) k2.1 ?_
    have k3 := kf_52_2 k2.2
    refine jr.getf (i := 2) (v := .ref ((xe 422 x) + 1)) rfl rfl (Nat.lt_trans (kx_52 k2.2).1 (by decide)) (kx_52 k2.2).2 (by decide) rfl rfl rfl (jval_ref rfl k3.1) ?_
    refine jr.lload_n rfl rfl ?_
    refine jr.l2i rfl ?_
    obtain ⟨v4, e4⟩ : ∃ z_, M (((xe 422 x) + 1)) y = z_ := ⟨_, rfl⟩
    have b4 : (-9223372036854775808) ≤ v4 ∧ v4 ≤ 9223372036854775807 := by rw [← e4]; exact (CI.r hC_M k3.2 (by decide) y)
    have e5 : M1 (((xe 422 x) + 1)) y = v4 := (hf_M1.g k3.2 rfl).trans e4
    refine jr.lald (i := y) (x := v4) rfl (Nat.lt_trans (kx_54 k3.2).1 (by decide)) (kx_54 k3.2).2 (by decide) (by omega) (by omega) e5 ?_
    refine jr_v rfl rfl (Or.inl rfl) rfl rfl (by decide) rfl ⟨rfl, Nat.le_of_ble_eq_true rfl, Nat.le_of_ble_eq_true rfl⟩ rfl (jc.deep (c_Machine_push hC_M1 (FR.rfl _ M1) (by omega) (fun M6 hC_M6 hf_M6  => ?_)) (by decide))
    have ht_M6 : FR W_c_Machine_askRow T M6 := FR.t ht_M1 hf_M6 (kw_sub rfl)
    exact jr.vreturn rfl rfl (q _ hC_M6 ht_M6  )
noncomputable def W_c_Machine_skip : List (Nat × Nat) := [(22, 9), (22, 16), (26, 1000)]
theorem c_Machine_skip {A : Nat → Option (Nat × (Nat → Int32))} {Q : Option Value → jm → Prop} {T : jm} {M : jm} (hC_M : CI M) (ht_M : FR W_c_Machine_skip T M) {x : Int} (h_x : 0 ≤ x ∧ x ≤ 1) {y : Int} (h_y : (-2147483648) ≤ y ∧ y ≤ 2147483647) (q : ∀ (M' : jm), CI M' → FR W_c_Machine_skip T M' → Q none M') : jc A 3 170 [.ref (421), .int (Int32.ofInt (x)), .int (Int32.ofInt (y))] M Q := by
  refine jc_of (m := xm_170) rfl (Nat.le_of_ble_eq_true rfl) rfl ?_
  refine jr.iload_n rfl rfl ?_
  refine jr.if_eq rfl rfl (by omega) (fun h1 => ?_) (fun h1 => ?_)
  · exact jr.vreturn rfl rfl (q _ hC_M ht_M  )
  · have sx1 : (1 : Int) ≤ x := by omega
    refine jr.aload_n rfl rfl ?_
    refine jr.aload_n rfl rfl ?_
    obtain ⟨v1, e1⟩ : ∃ z_, M 421 2 = z_ := ⟨_, rfl⟩
    have b1 : 0 ≤ v1 ∧ v1 ≤ 597 := by rw [← e1]; exact (CI.r hC_M (show kd 421 = 22 from rfl) (by decide) 2)
    have k2 : kd (v1).toNat = 47 := ((congrArg (fun z : Int => kd z.toNat) (show M 421 2 = v1 from e1)).symm.trans (CI.x hC_M (show kd 421 = 22 from rfl) 2 rfl (by decide)))
    refine jr.getf (i := 2) (x := v1) (v := .ref (v1.toNat)) rfl rfl (by decide) rfl (by decide) rfl rfl e1 rfl ?_
    refine jr.aload_n rfl rfl ?_
    obtain ⟨v3, e3⟩ : ∃ z_, M 421 16 = z_ := ⟨_, rfl⟩
    have b3 : (-2147483648) ≤ v3 ∧ v3 ≤ 2147483647 := by rw [← e3]; exact (CI.r hC_M (show kd 421 = 22 from rfl) (by decide) 16)
    refine jr.getf (i := 16) (x := v3) (v := .int (Int32.ofInt (v3))) rfl rfl (by decide) rfl (by decide) rfl rfl e3 rfl ?_
    refine jr.iconst rfl ?_
    refine jr.isub rfl ?_
    refine jr.iw (j_w (v3 - 1)) (j_w_eq _) ?_
    have b4 : -2147483648 ≤ j_w (v3 - 1) ∧ j_w (v3 - 1) ≤ 2147483647 := jb_any _
    generalize j_w (v3 - 1) = v4 at b4 ⊢
    refine jr_v rfl rfl (Or.inl rfl) rfl rfl (Nat.lt_trans (kx_47 k2).1 (by decide)) (kx_47 k2).2 ⟨rfl, Nat.le_of_ble_eq_true rfl, Nat.le_of_ble_eq_true rfl⟩ rfl (jc.deep (c_Program_opAt hC_M k2 (by omega) (fun r5 z5 w5_0 w5_1 => ?_)) (by decide))
    refine jr.sipush rfl (by decide) ?_
    refine jr.icmp_ne rfl rfl (by omega) (by omega) (fun h21 => ?_) (fun h21 => ?_)
    · refine jr.iconst rfl ?_
      refine jr_v rfl rfl (Or.inl rfl) rfl rfl (by decide) rfl ⟨rfl, Nat.le_of_ble_eq_true rfl, Nat.le_of_ble_eq_true rfl⟩ rfl (jc.deep (c_Machine_pushTruth hC_M (FR.rfl _ M) (by omega) (fun M6 hC_M6 hf_M6  => ?_)) (by decide))
      have ht_M6 : FR W_c_Machine_skip T M6 := FR.t ht_M hf_M6 (kw_sub rfl)
      refine jr.aload_n rfl rfl ?_
      refine jr.iload_n rfl rfl ?_
      refine jr.putf (i := 16) (x := y) rfl rfl (by decide) rfl (by decide) rfl rfl rfl rfl rfl ?_
      exact jr.vreturn rfl rfl (q _ (CI.u hC_M6 (i := 16) (show kd 421 = 22 from rfl) (show (-2147483648 : Int) ≤ _ ∧ _ ≤ (2147483647 : Int) from by omega) rfl) (FR.o ht_M6 (show kd 421 = 22 from rfl) rfl)  )
    · refine jr.iconst rfl ?_
      refine jr.goto rfl rfl ?_
      refine jr_v rfl rfl (Or.inl rfl) rfl rfl (by decide) rfl ⟨rfl, Nat.le_of_ble_eq_true rfl, Nat.le_of_ble_eq_true rfl⟩ rfl (jc.deep (c_Machine_pushTruth hC_M (FR.rfl _ M) (by omega) (fun M7 hC_M7 hf_M7  => ?_)) (by decide))
      have ht_M7 : FR W_c_Machine_skip T M7 := FR.t ht_M hf_M7 (kw_sub rfl)
      refine jr.aload_n rfl rfl ?_
      refine jr.iload_n rfl rfl ?_
      refine jr.putf (i := 16) (x := y) rfl rfl (by decide) rfl (by decide) rfl rfl rfl rfl rfl ?_
      exact jr.vreturn rfl rfl (q _ (CI.u hC_M7 (i := 16) (show kd 421 = 22 from rfl) (show (-2147483648 : Int) ≤ _ ∧ _ ≤ (2147483647 : Int) from by omega) rfl) (FR.o ht_M7 (show kd 421 = 22 from rfl) rfl)  )
noncomputable def W_c_Machine_setLabel : List (Nat × Nat) := [(22, 4), (24, 1000), (27, 6)]
theorem c_Machine_setLabel {A : Nat → Option (Nat × (Nat → Int32))} {Q : Option Value → jm → Prop} {T : jm} {M : jm} (hC_M : CI M) (ht_M : FR W_c_Machine_setLabel T M) (q : ∀ (M' : jm), CI M' → FR W_c_Machine_setLabel T M' → Q none M') : jc A 2 174 [.ref (421)] M Q := by
  refine jc_of (m := xm_174) rfl (Nat.le_of_ble_eq_true rfl) rfl ?_
  refine jr.aload_n rfl rfl ?_
  obtain ⟨v1, e1⟩ : ∃ z_, M 421 12 = z_ := ⟨_, rfl⟩
  have b1 : 0 ≤ v1 ∧ v1 ≤ 597 := by rw [← e1]; exact (CI.r hC_M (show kd 421 = 22 from rfl) (by decide) 12)
  have k2 : kd (v1).toNat = 18 := ((congrArg (fun z : Int => kd z.toNat) (show M 421 12 = v1 from e1)).symm.trans (CI.x hC_M (show kd 421 = 22 from rfl) 12 rfl (by decide)))
  refine jr.getf (i := 12) (x := v1) (v := .ref (v1.toNat)) rfl rfl (by decide) rfl (by decide) rfl rfl e1 rfl ?_
  obtain ⟨v3, e3⟩ : ∃ z_, M ((v1.toNat)) 7 = z_ := ⟨_, rfl⟩
  have b3 : 0 ≤ v3 ∧ v3 ≤ 597 := by rw [← e3]; exact (CI.r hC_M k2 (by decide) 7)
  have k4 : kd (v3).toNat = 33 := ((congrArg (fun z : Int => kd z.toNat) (show M ((v1.toNat)) 7 = v3 from e3)).symm.trans (CI.x hC_M k2 7 rfl (by decide)))
  refine jr.getf (i := 7) (x := v3) (v := .ref (v3.toNat)) rfl rfl (Nat.lt_trans (kx_18 k2).1 (by decide)) (kx_18 k2).2 (by decide) rfl rfl e3 (jval_mut rfl (kn_18_7 k2)) ?_
  refine jr_v rfl rfl (Or.inl rfl) rfl rfl (Nat.lt_trans (kx_33 k4).1 (by decide)) (kx_33 k4).2 ⟨rfl, Nat.le_of_ble_eq_true rfl, Nat.le_of_ble_eq_true rfl⟩ rfl (jc.deep (c_Packet_isThere hC_M k4 (fun r5 z5 w5_0 => ?_)) (by decide))
  obtain ⟨v6, e6⟩ : ∃ z_, M ((v3.toNat)) 1 = z_ := ⟨_, rfl⟩
  have b6 : (-1) ≤ v6 ∧ v6 ≤ 400 := by rw [← e6]; exact (CI.r hC_M k4 (by decide) 1)
  refine jr.if_eq rfl rfl (by omega) (fun h10 => ?_) (fun h10 => ?_)
  · refine jr.aload_n rfl rfl ?_
    refine jr.iconst rfl ?_
    refine jr_v rfl rfl (Or.inl rfl) rfl rfl (by decide) rfl ⟨rfl, Nat.le_of_ble_eq_true rfl, Nat.le_of_ble_eq_true rfl⟩ rfl (jc.deep (c_Machine_fail hC_M (FR.rfl _ M) (by omega) (fun M7 hC_M7 hf_M7  => ?_)) (by decide))
    have ht_M7 : FR W_c_Machine_setLabel T M7 := FR.t ht_M hf_M7 (kw_sub rfl)
    exact jr.vreturn rfl rfl (q _ hC_M7 ht_M7  )
  · have sx10 : (1 : Int) ≤ r5 := by omega
    refine jr.aload_n rfl rfl ?_
    refine jr.getf (i := 1) (v := .ref 423) rfl rfl (by decide) rfl (by decide) rfl rfl rfl rfl ?_
    refine jr.aload_n rfl rfl ?_
    refine jr.getf (i := 8) (v := .ref 435) rfl rfl (by decide) rfl (by decide) rfl rfl rfl rfl ?_
    refine jr.iconst rfl ?_
    obtain ⟨v8, e8⟩ : ∃ z_, M 435 0 = z_ := ⟨_, rfl⟩
    have b8 : (-9223372036854775808) ≤ v8 ∧ v8 ≤ 9223372036854775807 := by rw [← e8]; exact (CI.r hC_M (show kd 435 = 26 from rfl) (by decide) 0)
    refine jr.lald (i := 0) (x := v8) rfl (by decide) rfl (by decide) (by omega) (by omega) e8 ?_
    refine jr.putf (i := 6) (x := v8) rfl rfl (by decide) rfl (by decide) rfl rfl rfl rfl rfl ?_
    refine jr.goto rfl rfl ?_
    exact jr.vreturn rfl rfl (q _ (CI.u hC_M (i := 6) (show kd 423 = 27 from rfl) (show (-9223372036854775808 : Int) ≤ _ ∧ _ ≤ (9223372036854775807 : Int) from by omega) rfl) (FR.o ht_M (show kd 423 = 27 from rfl) rfl)  )
noncomputable def W_c_Row_putItem : List (Nat × Nat) := [(54, 1000)]
theorem c_Row_putItem {A : Nat → Option (Nat × (Nat → Int32))} {Q : Option Value → jm → Prop} {T : jm} {M : jm} (hC_M : CI M) (ht_M : FR W_c_Row_putItem T M) {t : Nat} (k_t : kd t = 52) {x : Int} (h_x : (-2147483648) ≤ x ∧ x ≤ 2147483647) {y : Int} (h_y : (-9223372036854775808) ≤ y ∧ y ≤ 9223372036854775807) (q : ∀ (M' : jm), CI M' → FR W_c_Row_putItem T M' → Q none M') : jc A 2 237 [.ref (t), .int (Int32.ofInt (x)), .long (Int64.ofInt (y))] M Q := by
  refine jc_of (m := xm_237) rfl (Nat.le_of_ble_eq_true rfl) rfl ?_
  refine jr.aload_n rfl rfl ?_
  refine jr.iload_n rfl rfl ?_
  refine jr.i2l rfl (by omega) ?_
  refine jr_v rfl rfl (Or.inl rfl) rfl rfl (Nat.lt_trans (kx_52 k_t).1 (by decide)) (kx_52 k_t).2 ⟨rfl, Nat.le_of_ble_eq_true rfl, Nat.le_of_ble_eq_true rfl⟩ rfl (jc.deep (c_Row_hasItem hC_M k_t (by omega) (fun r1 z1 w1_0 => ?_)) (by decide))
  refine jr.if_ne rfl rfl (by omega) (fun h6 => ?_) (fun h6 => ?_)
  · have sx6 : (1 : Int) ≤ r1 := by omega
    refine jr.aload_n rfl rfl ?_
    obtain ⟨v2, e2⟩ : ∃ z_, M t 0 = z_ := ⟨_, rfl⟩
    have b2 : (-2147483648) ≤ v2 ∧ v2 ≤ 2147483647 := by rw [← e2]; exact (CI.r hC_M k_t (by decide) 0)
    refine jr.getf (i := 0) (x := v2) (v := .int (Int32.ofInt (v2))) rfl rfl (Nat.lt_trans (kx_52 k_t).1 (by decide)) (kx_52 k_t).2 (by decide) rfl rfl e2 rfl ?_
    rcases (show v2 = 0 ∨ v2 = 1 ∨ v2 = 2 ∨ v2 = 3 ∨ (v2 ≠ 0 ∧ v2 ≠ 1 ∧ v2 ≠ 2 ∧ v2 ≠ 3) by omega) with h14 | h14 | h14 | h14 | h14
    · refine jr.tsw_k 0 rfl h14 rfl ?_
      refine jr.aload_n rfl rfl ?_
      have k3 := kf_52_2 k_t
      refine jr.getf (i := 2) (v := .ref (t + 1)) rfl rfl (Nat.lt_trans (kx_52 k_t).1 (by decide)) (kx_52 k_t).2 (by decide) rfl rfl rfl (jval_ref rfl k3.1) ?_
      refine jr.iload_n rfl rfl ?_
      refine jr.lload_n rfl rfl ?_
      refine jr.l2i rfl ?_
      refine jr.iw (j_w y) (j_w_eq _) ?_
      have b4 : -2147483648 ≤ j_w y ∧ j_w y ≤ 2147483647 := jb_any _
      generalize j_w y = v4 at b4 ⊢
      refine jr.i2b rfl ?_
      have b5 : -2147483648 ≤ j_b v4 ∧ j_b v4 ≤ 2147483647 := jb_any _
      generalize j_b v4 = v5 at b5 ⊢
      refine jr.i2l rfl (by omega) ?_
      refine jr.last (i := x) (x := v5) rfl (Nat.lt_trans (kx_54 k3.2).1 (by decide)) (kx_54 k3.2).2 (by decide) (by omega) (by omega) ?_
      refine jr.goto rfl rfl ?_
      exact jr.vreturn rfl rfl (q _ (CI.u hC_M (i := x) k3.2 (show (-9223372036854775808 : Int) ≤ _ ∧ _ ≤ (9223372036854775807 : Int) from by omega) rfl) (FR.o ht_M k3.2 rfl)  )
    · refine jr.tsw_k 1 rfl h14 rfl ?_
      refine jr.aload_n rfl rfl ?_
      have k6 := kf_52_2 k_t
      refine jr.getf (i := 2) (v := .ref (t + 1)) rfl rfl (Nat.lt_trans (kx_52 k_t).1 (by decide)) (kx_52 k_t).2 (by decide) rfl rfl rfl (jval_ref rfl k6.1) ?_
      refine jr.iload_n rfl rfl ?_
      refine jr.lload_n rfl rfl ?_
      refine jr.l2i rfl ?_
      refine jr.iw (j_w y) (j_w_eq _) ?_
      have b7 : -2147483648 ≤ j_w y ∧ j_w y ≤ 2147483647 := jb_any _
      generalize j_w y = v7 at b7 ⊢
      refine jr.i2s rfl ?_
      have b8 : -2147483648 ≤ j_s v7 ∧ j_s v7 ≤ 2147483647 := jb_any _
      generalize j_s v7 = v8 at b8 ⊢
      refine jr.i2l rfl (by omega) ?_
      refine jr.last (i := x) (x := v8) rfl (Nat.lt_trans (kx_54 k6.2).1 (by decide)) (kx_54 k6.2).2 (by decide) (by omega) (by omega) ?_
      refine jr.goto rfl rfl ?_
      exact jr.vreturn rfl rfl (q _ (CI.u hC_M (i := x) k6.2 (show (-9223372036854775808 : Int) ≤ _ ∧ _ ≤ (9223372036854775807 : Int) from by omega) rfl) (FR.o ht_M k6.2 rfl)  )
    · refine jr.tsw_k 2 rfl h14 rfl ?_
      refine jr.aload_n rfl rfl ?_
      have k9 := kf_52_2 k_t
      refine jr.getf (i := 2) (v := .ref (t + 1)) rfl rfl (Nat.lt_trans (kx_52 k_t).1 (by decide)) (kx_52 k_t).2 (by decide) rfl rfl rfl (jval_ref rfl k9.1) ?_
      refine jr.iload_n rfl rfl ?_
      refine jr.lload_n rfl rfl ?_
      refine jr.l2i rfl ?_
      refine jr.iw (j_w y) (j_w_eq _) ?_
      have b10 : -2147483648 ≤ j_w y ∧ j_w y ≤ 2147483647 := jb_any _
      generalize j_w y = v10 at b10 ⊢
      refine jr.i2c rfl ?_
      have b11 : -2147483648 ≤ j_c v10 ∧ j_c v10 ≤ 2147483647 := jb_any _
      generalize j_c v10 = v11 at b11 ⊢
      refine jr.i2l rfl (by omega) ?_
      refine jr.last (i := x) (x := v11) rfl (Nat.lt_trans (kx_54 k9.2).1 (by decide)) (kx_54 k9.2).2 (by decide) (by omega) (by omega) ?_
      refine jr.goto rfl rfl ?_
      exact jr.vreturn rfl rfl (q _ (CI.u hC_M (i := x) k9.2 (show (-9223372036854775808 : Int) ≤ _ ∧ _ ≤ (9223372036854775807 : Int) from by omega) rfl) (FR.o ht_M k9.2 rfl)  )
    · refine jr.tsw_k 3 rfl h14 rfl ?_
      refine jr.aload_n rfl rfl ?_
      have k12 := kf_52_2 k_t
      refine jr.getf (i := 2) (v := .ref (t + 1)) rfl rfl (Nat.lt_trans (kx_52 k_t).1 (by decide)) (kx_52 k_t).2 (by decide) rfl rfl rfl (jval_ref rfl k12.1) ?_
      refine jr.iload_n rfl rfl ?_
      refine jr.lload_n rfl rfl ?_
      refine jr.l2i rfl ?_
      refine jr.iw (j_w y) (j_w_eq _) ?_
      have b13 : -2147483648 ≤ j_w y ∧ j_w y ≤ 2147483647 := jb_any _
      generalize j_w y = v13 at b13 ⊢
      refine jr.i2l rfl (by omega) ?_
      refine jr.last (i := x) (x := v13) rfl (Nat.lt_trans (kx_54 k12.2).1 (by decide)) (kx_54 k12.2).2 (by decide) (by omega) (by omega) ?_
      refine jr.goto rfl rfl ?_
      exact jr.vreturn rfl rfl (q _ (CI.u hC_M (i := x) k12.2 (show (-9223372036854775808 : Int) ≤ _ ∧ _ ≤ (9223372036854775807 : Int) from by omega) rfl) (FR.o ht_M k12.2 rfl)  )
    · refine jr.tsw_d rfl (by omega) (by omega) rfl ?_
      refine jr.aload_n rfl rfl ?_
      have k14 := kf_52_2 k_t
      refine jr.getf (i := 2) (v := .ref (t + 1)) rfl rfl (Nat.lt_trans (kx_52 k_t).1 (by decide)) (kx_52 k_t).2 (by decide) rfl rfl rfl (jval_ref rfl k14.1) ?_
      refine jr.iload_n rfl rfl ?_
      refine jr.lload_n rfl rfl ?_
      refine jr.last (i := x) (x := y) rfl (Nat.lt_trans (kx_54 k14.2).1 (by decide)) (kx_54 k14.2).2 (by decide) (by omega) (by omega) ?_
      exact jr.vreturn rfl rfl (q _ (CI.u hC_M (i := x) k14.2 (show (-9223372036854775808 : Int) ≤ _ ∧ _ ≤ (9223372036854775807 : Int) from by omega) rfl) (FR.o ht_M k14.2 rfl)  )
  · exact jr.vreturn rfl rfl (q _ hC_M ht_M  )
theorem c_Row_isUnlike {A : Nat → Option (Nat × (Nat → Int32))} {Q : Option Value → jm → Prop} {M : jm} (hC_M : CI M) {t : Nat} (k_t : kd t = 52) {x : Nat} (k_x : kd x = 52) (q : ∀ (r : Int), 0 ≤ r ∧ r ≤ 1 → Q (some (.int (Int32.ofInt r))) M) : jc A 2 238 [.ref (t), .ref (x)] M Q := by
  refine jc_of (m := xm_238) rfl (Nat.le_of_ble_eq_true rfl) rfl ?_
  refine jr.aload_n rfl rfl ?_
  obtain ⟨v1, e1⟩ : ∃ z_, M t 0 = z_ := ⟨_, rfl⟩
  have b1 : (-2147483648) ≤ v1 ∧ v1 ≤ 2147483647 := by rw [← e1]; exact (CI.r hC_M k_t (by decide) 0)
  refine jr.getf (i := 0) (x := v1) (v := .int (Int32.ofInt (v1))) rfl rfl (Nat.lt_trans (kx_52 k_t).1 (by decide)) (kx_52 k_t).2 (by decide) rfl rfl e1 rfl ?_
  refine jr.aload_n rfl rfl ?_
  obtain ⟨v2, e2⟩ : ∃ z_, M x 0 = z_ := ⟨_, rfl⟩
  have b2 : (-2147483648) ≤ v2 ∧ v2 ≤ 2147483647 := by rw [← e2]; exact (CI.r hC_M k_x (by decide) 0)
  refine jr.getf (i := 0) (x := v2) (v := .int (Int32.ofInt (v2))) rfl rfl (Nat.lt_trans (kx_52 k_x).1 (by decide)) (kx_52 k_x).2 (by decide) rfl rfl e2 rfl ?_
  refine jr.icmp_eq rfl rfl (by omega) (by omega) (fun h8 => ?_) (fun h8 => ?_)
  · refine jr.iconst rfl ?_
    exact jr.ireturn rfl rfl rfl (q _ (by omega) )
  · refine jr.aload_n rfl rfl ?_
    refine jr_v rfl rfl (Or.inl rfl) rfl rfl (Nat.lt_trans (kx_52 k_t).1 (by decide)) (kx_52 k_t).2 ⟨rfl, Nat.le_of_ble_eq_true rfl, Nat.le_of_ble_eq_true rfl⟩ rfl (jc.deep (c_Row_isOfHeaders hC_M k_t (fun r3 z3  => ?_)) (by decide))
    refine jr.if_eq rfl rfl (by omega) (fun h15 => ?_) (fun h15 => ?_)
    · refine jr.iconst rfl ?_
      refine jr.goto rfl rfl ?_
      exact jr.ireturn rfl rfl rfl (q _ (by omega) )
    · have sx15 : (1 : Int) ≤ r3 := by omega
      refine jr.aload_n rfl rfl ?_
      refine jr_v rfl rfl (Or.inl rfl) rfl rfl (Nat.lt_trans (kx_52 k_x).1 (by decide)) (kx_52 k_x).2 ⟨rfl, Nat.le_of_ble_eq_true rfl, Nat.le_of_ble_eq_true rfl⟩ rfl (jc.deep (c_Row_isOfHeaders hC_M k_x (fun r4 z4  => ?_)) (by decide))
      refine jr.if_ne rfl rfl (by omega) (fun h22 => ?_) (fun h22 => ?_)
      · have sx22 : (1 : Int) ≤ r4 := by omega
        refine jr.iconst rfl ?_
        exact jr.ireturn rfl rfl rfl (q _ (by omega) )
      · refine jr.iconst rfl ?_
        refine jr.goto rfl rfl ?_
        exact jr.ireturn rfl rfl rfl (q _ (by omega) )
noncomputable def W_c_PacketWall_fillBucket : List (Nat × Nat) := [(28, 1000)]
theorem c_PacketWall_fillBucket {A : Nat → Option (Nat × (Nat → Int32))} {Q : Option Value → jm → Prop} {T : jm} {M : jm} (hC_M : CI M) (ht_M : FR W_c_PacketWall_fillBucket T M) {x : Int} (h_x : 0 ≤ x ∧ x ≤ 3) {y : Int} (h_y : (-2147483648) ≤ y ∧ y ≤ 2147483647) (q : ∀ (M' : jm), CI M' → FR W_c_PacketWall_fillBucket T M' → Q none M') : jc A 1 49 [.ref (0), .int (Int32.ofInt (x)), .int (Int32.ofInt (y))] M Q := by
  refine jc_of (m := xm_49) rfl (Nat.le_of_ble_eq_true rfl) rfl ?_
  refine jr.aload_n rfl rfl ?_
  refine jr.getf (i := 13) (v := .ref 524) rfl rfl (by decide) rfl (by decide) rfl rfl rfl rfl ?_
  refine jr.iload_n rfl rfl ?_
  obtain ⟨v1, e1⟩ : ∃ z_, M 524 x = z_ := ⟨_, rfl⟩
  have b1 : (-2147483648) ≤ v1 ∧ v1 ≤ 2147483647 := by rw [← e1]; exact (CI.r hC_M (show kd 524 = 36 from rfl) (by decide) x)
  refine jr.iald (i := x) (x := v1) rfl (by decide) rfl (by decide) (by omega) (by omega) e1 ?_
  refine jr.istore_n rfl (by decide) rfl ?_
  refine jr.iload_n rfl rfl ?_
  refine jr.iconst rfl ?_
  refine jr.icmp_ge rfl rfl (by omega) (by omega) (fun h9 => ?_) (fun h9 => ?_)
  · refine jr.aload_n rfl rfl ?_
    obtain ⟨v2, e2⟩ : ∃ z_, M 0 8 = z_ := ⟨_, rfl⟩
    have b2 : (-2147483648) ≤ v2 ∧ v2 ≤ 2147483647 := by rw [← e2]; exact (CI.r hC_M (show kd 0 = 35 from rfl) (by decide) 8)
    refine jr.getf (i := 8) (x := v2) (v := .int (Int32.ofInt (v2))) rfl rfl (by decide) rfl (by decide) rfl rfl e2 rfl ?_
    refine jr.aload_n rfl rfl ?_
    refine jr.getf (i := 14) (v := .ref 525) rfl rfl (by decide) rfl (by decide) rfl rfl rfl rfl ?_
    refine jr.iload_n rfl rfl ?_
    obtain ⟨v3, e3⟩ : ∃ z_, M 525 x = z_ := ⟨_, rfl⟩
    have b3 : (-2147483648) ≤ v3 ∧ v3 ≤ 2147483647 := by rw [← e3]; exact (CI.r hC_M (show kd 525 = 37 from rfl) (by decide) x)
    refine jr.iald (i := x) (x := v3) rfl (by decide) rfl (by decide) (by omega) (by omega) e3 ?_
    refine jr.isub rfl ?_
    refine jr.iw (j_w (v2 - v3)) (j_w_eq _) ?_
    have b4 : -2147483648 ≤ j_w (v2 - v3) ∧ j_w (v2 - v3) ≤ 2147483647 := jb_any _
    generalize j_w (v2 - v3) = v4 at b4 ⊢
    refine jr.iload_n rfl rfl ?_
    refine jr.idiv rfl (j_nz (by omega)) ?_
    have b5 : -2147483648 ≤ j_div v4 v1 ∧ j_div v4 v1 ≤ 2147483647 := jb_any _
    generalize j_div v4 v1 = v5 at b5 ⊢
    refine jr.iload_n rfl rfl ?_
    refine jr.aload_n rfl rfl ?_
    refine jr.getf (i := 14) (v := .ref 525) rfl rfl (by decide) rfl (by decide) rfl rfl rfl rfl ?_
    refine jr.iload_n rfl rfl ?_
    refine jr.iald (i := x) (x := v3) rfl (by decide) rfl (by decide) (by omega) (by omega) e3 ?_
    refine jr.isub rfl ?_
    refine jr.iw (j_w (y - v3)) (j_w_eq _) ?_
    have b6 : -2147483648 ≤ j_w (y - v3) ∧ j_w (y - v3) ≤ 2147483647 := jb_any _
    generalize j_w (y - v3) = v6 at b6 ⊢
    refine jr.iload_n rfl rfl ?_
    refine jr.idiv rfl (j_nz (by omega)) ?_
    have b7 : -2147483648 ≤ j_div v6 v1 ∧ j_div v6 v1 ≤ 2147483647 := jb_any _
    generalize j_div v6 v1 = v7 at b7 ⊢
    refine jr.isub rfl ?_
    refine jr.iw (j_w (v5 - v7)) (j_w_eq _) ?_
    have b8 : -2147483648 ≤ j_w (v5 - v7) ∧ j_w (v5 - v7) ≤ 2147483647 := jb_any _
    generalize j_w (v5 - v7) = v8 at b8 ⊢
    refine jr.istore rfl (by decide) rfl ?_
    refine jr.aload_n rfl rfl ?_
    refine jr.getf (i := 11) (v := .ref 421) rfl rfl (by decide) rfl (by decide) rfl rfl rfl rfl ?_
    refine jr.getf (i := 1) (v := .ref 423) rfl rfl (by decide) rfl (by decide) rfl rfl rfl rfl ?_
    refine jr.getf (i := 1) (v := .ref 425) rfl rfl (by decide) rfl (by decide) rfl rfl rfl rfl ?_
    refine jr.iload_n rfl rfl ?_
    refine jr.aload_n rfl rfl ?_
    refine jr.getf (i := 12) (v := .ref 523) rfl rfl (by decide) rfl (by decide) rfl rfl rfl rfl ?_
    refine jr.iload_n rfl rfl ?_
    obtain ⟨v9, e9⟩ : ∃ z_, M 523 x = z_ := ⟨_, rfl⟩
    have b9 : (-2147483648) ≤ v9 ∧ v9 ≤ 2147483647 := by rw [← e9]; exact (CI.r hC_M (show kd 523 = 38 from rfl) (by decide) x)
    refine jr.iald (i := x) (x := v9) rfl (by decide) rfl (by decide) (by omega) (by omega) e9 ?_
    refine jr.aload_n rfl rfl ?_
    refine jr.getf (i := 11) (v := .ref 421) rfl rfl (by decide) rfl (by decide) rfl rfl rfl rfl ?_
    refine jr.getf (i := 1) (v := .ref 423) rfl rfl (by decide) rfl (by decide) rfl rfl rfl rfl ?_
    refine jr.getf (i := 1) (v := .ref 425) rfl rfl (by decide) rfl (by decide) rfl rfl rfl rfl ?_
    refine jr.iload_n rfl rfl ?_
    obtain ⟨v10, e10⟩ : ∃ z_, M 425 x = z_ := ⟨_, rfl⟩
    have b10 : (-2147483648) ≤ v10 ∧ v10 ≤ 2147483647 := by rw [← e10]; exact (CI.r hC_M (show kd 425 = 28 from rfl) (by decide) x)
    refine jr.iald (i := x) (x := v10) rfl (by decide) rfl (by decide) (by omega) (by omega) e10 ?_
    refine jr.iload rfl rfl ?_
    refine jr.iadd rfl ?_
    refine jr.iw (j_w (v10 + v8)) (j_w_eq _) ?_
    have b11 : -2147483648 ≤ j_w (v10 + v8) ∧ j_w (v10 + v8) ≤ 2147483647 := jb_any _
    generalize j_w (v10 + v8) = v11 at b11 ⊢
    refine jr.imin rfl rfl (Nat.le_of_ble_eq_true rfl) (by omega) (by omega) ?_
    intro v12 d12 b12 c12
    refine jr.iast (i := x) (x := v12) rfl (by decide) rfl (by decide) (by omega) (by omega) ?_
    exact jr.vreturn rfl rfl (q _ (CI.u hC_M (i := x) (show kd 425 = 28 from rfl) (show (-2147483648 : Int) ≤ _ ∧ _ ≤ (2147483647 : Int) from by omega) rfl) (FR.o ht_M (show kd 425 = 28 from rfl) rfl)  )
  · exact jr.vreturn rfl rfl (q _ hC_M ht_M  )
noncomputable def W_c_Machine_divide : List (Nat × Nat) := [(22, 4), (22, 9), (24, 1000), (26, 1000)]
theorem c_Machine_divide {A : Nat → Option (Nat × (Nat → Int32))} {Q : Option Value → jm → Prop} {T : jm} {M : jm} (hC_M : CI M) (ht_M : FR W_c_Machine_divide T M) {x : Int} (h_x : (-2147483648) ≤ x ∧ x ≤ 2147483647) {y : Int} (h_y : (-9223372036854775808) ≤ y ∧ y ≤ 9223372036854775807) {z : Int} (h_z : (-9223372036854775808) ≤ z ∧ z ≤ 9223372036854775807) (q : ∀ (M' : jm), CI M' → FR W_c_Machine_divide T M' → Q none M') : jc A 2 172 [.ref (421), .int (Int32.ofInt (x)), .long (Int64.ofInt (y)), .long (Int64.ofInt (z))] M Q := by
  refine jc_of (m := xm_172) rfl (Nat.le_of_ble_eq_true rfl) rfl ?_
  refine jr.lload rfl rfl ?_
  refine jr.lconst (x := 0) rfl (by decide) ?_
  refine jr.lcmp_ne rfl rfl rfl (by omega) (by omega) (fun h3 => ?_) (fun h3 => ?_)
  · refine jr.aload_n rfl rfl ?_
    refine jr.iload_n rfl rfl ?_
    refine jr.bipush rfl (by decide) ?_
    refine jr.icmp_ne rfl rfl (by omega) (by omega) (fun h20 => ?_) (fun h20 => ?_)
    · refine jr.lload_n rfl rfl ?_
      refine jr.lload rfl rfl ?_
      refine jr.lrem rfl (jl_nz (by omega)) ?_
      have b1 : -9223372036854775808 ≤ jl_rem y z ∧ jl_rem y z ≤ 9223372036854775807 := jbl_any _
      generalize jl_rem y z = v1 at b1 ⊢
      refine jr_v rfl rfl (Or.inl rfl) rfl rfl (by decide) rfl ⟨rfl, Nat.le_of_ble_eq_true rfl, Nat.le_of_ble_eq_true rfl⟩ rfl (jc.deep (c_Machine_push hC_M (FR.rfl _ M) (by omega) (fun M2 hC_M2 hf_M2  => ?_)) (by decide))
      have ht_M2 : FR W_c_Machine_divide T M2 := FR.t ht_M hf_M2 (kw_sub rfl)
      exact jr.vreturn rfl rfl (q _ hC_M2 ht_M2  )
    · refine jr.lload_n rfl rfl ?_
      refine jr.lload rfl rfl ?_
      refine jr.ldiv rfl (jl_nz (by omega)) ?_
      have b3 : -9223372036854775808 ≤ jl_div y z ∧ jl_div y z ≤ 9223372036854775807 := jbl_any _
      generalize jl_div y z = v3 at b3 ⊢
      refine jr.goto rfl rfl ?_
      refine jr_v rfl rfl (Or.inl rfl) rfl rfl (by decide) rfl ⟨rfl, Nat.le_of_ble_eq_true rfl, Nat.le_of_ble_eq_true rfl⟩ rfl (jc.deep (c_Machine_push hC_M (FR.rfl _ M) (by omega) (fun M4 hC_M4 hf_M4  => ?_)) (by decide))
      have ht_M4 : FR W_c_Machine_divide T M4 := FR.t ht_M hf_M4 (kw_sub rfl)
      exact jr.vreturn rfl rfl (q _ hC_M4 ht_M4  )
  · refine jr.aload_n rfl rfl ?_
    refine jr.bipush rfl (by decide) ?_
    refine jr_v rfl rfl (Or.inl rfl) rfl rfl (by decide) rfl ⟨rfl, Nat.le_of_ble_eq_true rfl, Nat.le_of_ble_eq_true rfl⟩ rfl (jc.deep (c_Machine_fail hC_M (FR.rfl _ M) (by omega) (fun M5 hC_M5 hf_M5  => ?_)) (by decide))
    have ht_M5 : FR W_c_Machine_divide T M5 := FR.t ht_M hf_M5 (kw_sub rfl)
    refine jr.goto rfl rfl ?_
    exact jr.vreturn rfl rfl (q _ hC_M5 ht_M5  )
noncomputable def W_c_Machine_workBetween : List (Nat × Nat) := [(22, 4), (22, 9), (24, 1000), (26, 1000)]
theorem c_Machine_workBetween {A : Nat → Option (Nat × (Nat → Int32))} {Q : Option Value → jm → Prop} {T : jm} {M : jm} (hC_M : CI M) (ht_M : FR W_c_Machine_workBetween T M) {x : Int} (h_x : (-2147483648) ≤ x ∧ x ≤ 2147483647) {y : Int} (h_y : (-9223372036854775808) ≤ y ∧ y ≤ 9223372036854775807) {z : Int} (h_z : (-9223372036854775808) ≤ z ∧ z ≤ 9223372036854775807) (q : ∀ (M' : jm), CI M' → FR W_c_Machine_workBetween T M' → Q none M') : jc A 3 171 [.ref (421), .int (Int32.ofInt (x)), .long (Int64.ofInt (y)), .long (Int64.ofInt (z))] M Q := by
  refine jc_of (m := xm_171) rfl (Nat.le_of_ble_eq_true rfl) rfl ?_
  refine jr.iload_n rfl rfl ?_
  rcases (show x = 42 ∨ x = 43 ∨ x = 45 ∨ x = 60 ∨ x = 61 ∨ x = 62 ∨ (x ≠ 42 ∧ x ≠ 43 ∧ x ≠ 45 ∧ x ≠ 60 ∧ x ≠ 61 ∧ x ≠ 62) by omega) with h1 | h1 | h1 | h1 | h1 | h1 | h1
  · refine jr.lsw_k 42 rfl h1 rfl ?_
    refine jr.aload_n rfl rfl ?_
    refine jr.lload_n rfl rfl ?_
    refine jr.lload rfl rfl ?_
    refine jr.lmul rfl ?_
    refine jr.lw (jl_w (y * z)) (jl_w_eq _) ?_
    have b1 : -9223372036854775808 ≤ jl_w (y * z) ∧ jl_w (y * z) ≤ 9223372036854775807 := jbl_any _
    generalize jl_w (y * z) = v1 at b1 ⊢
    refine jr_v rfl rfl (Or.inl rfl) rfl rfl (by decide) rfl ⟨rfl, Nat.le_of_ble_eq_true rfl, Nat.le_of_ble_eq_true rfl⟩ rfl (jc.deep (c_Machine_push hC_M (FR.rfl _ M) (by omega) (fun M2 hC_M2 hf_M2  => ?_)) (by decide))
    have ht_M2 : FR W_c_Machine_workBetween T M2 := FR.t ht_M hf_M2 (kw_sub rfl)
    exact jr.vreturn rfl rfl (q _ hC_M2 ht_M2  )
  · refine jr.lsw_k 43 rfl h1 rfl ?_
    refine jr.aload_n rfl rfl ?_
    refine jr.lload_n rfl rfl ?_
    refine jr.lload rfl rfl ?_
    refine jr.ladd rfl ?_
    refine jr.lw (jl_w (y + z)) (jl_w_eq _) ?_
    have b3 : -9223372036854775808 ≤ jl_w (y + z) ∧ jl_w (y + z) ≤ 9223372036854775807 := jbl_any _
    generalize jl_w (y + z) = v3 at b3 ⊢
    refine jr_v rfl rfl (Or.inl rfl) rfl rfl (by decide) rfl ⟨rfl, Nat.le_of_ble_eq_true rfl, Nat.le_of_ble_eq_true rfl⟩ rfl (jc.deep (c_Machine_push hC_M (FR.rfl _ M) (by omega) (fun M4 hC_M4 hf_M4  => ?_)) (by decide))
    have ht_M4 : FR W_c_Machine_workBetween T M4 := FR.t ht_M hf_M4 (kw_sub rfl)
    exact jr.vreturn rfl rfl (q _ hC_M4 ht_M4  )
  · refine jr.lsw_k 45 rfl h1 rfl ?_
    refine jr.aload_n rfl rfl ?_
    refine jr.lload_n rfl rfl ?_
    refine jr.lload rfl rfl ?_
    refine jr.lsub rfl ?_
    refine jr.lw (jl_w (y - z)) (jl_w_eq _) ?_
    have b5 : -9223372036854775808 ≤ jl_w (y - z) ∧ jl_w (y - z) ≤ 9223372036854775807 := jbl_any _
    generalize jl_w (y - z) = v5 at b5 ⊢
    refine jr_v rfl rfl (Or.inl rfl) rfl rfl (by decide) rfl ⟨rfl, Nat.le_of_ble_eq_true rfl, Nat.le_of_ble_eq_true rfl⟩ rfl (jc.deep (c_Machine_push hC_M (FR.rfl _ M) (by omega) (fun M6 hC_M6 hf_M6  => ?_)) (by decide))
    have ht_M6 : FR W_c_Machine_workBetween T M6 := FR.t ht_M hf_M6 (kw_sub rfl)
    exact jr.vreturn rfl rfl (q _ hC_M6 ht_M6  )
  · refine jr.lsw_k 60 rfl h1 rfl ?_
    refine jr.aload_n rfl rfl ?_
    refine jr.lload_n rfl rfl ?_
    refine jr.lload rfl rfl ?_
    refine jr.lcmp_ge rfl rfl rfl (by omega) (by omega) (fun h108 => ?_) (fun h108 => ?_)
    · refine jr.iconst rfl ?_
      refine jr_v rfl rfl (Or.inl rfl) rfl rfl (by decide) rfl ⟨rfl, Nat.le_of_ble_eq_true rfl, Nat.le_of_ble_eq_true rfl⟩ rfl (jc.deep (c_Machine_pushTruth hC_M (FR.rfl _ M) (by omega) (fun M7 hC_M7 hf_M7  => ?_)) (by decide))
      have ht_M7 : FR W_c_Machine_workBetween T M7 := FR.t ht_M hf_M7 (kw_sub rfl)
      exact jr.vreturn rfl rfl (q _ hC_M7 ht_M7  )
    · refine jr.iconst rfl ?_
      refine jr.goto rfl rfl ?_
      refine jr_v rfl rfl (Or.inl rfl) rfl rfl (by decide) rfl ⟨rfl, Nat.le_of_ble_eq_true rfl, Nat.le_of_ble_eq_true rfl⟩ rfl (jc.deep (c_Machine_pushTruth hC_M (FR.rfl _ M) (by omega) (fun M8 hC_M8 hf_M8  => ?_)) (by decide))
      have ht_M8 : FR W_c_Machine_workBetween T M8 := FR.t ht_M hf_M8 (kw_sub rfl)
      exact jr.vreturn rfl rfl (q _ hC_M8 ht_M8  )
  · refine jr.lsw_k 61 rfl h1 rfl ?_
    refine jr.aload_n rfl rfl ?_
    refine jr.lload_n rfl rfl ?_
    refine jr.lload rfl rfl ?_
    refine jr.lcmp_ne rfl rfl rfl (by omega) (by omega) (fun h91 => ?_) (fun h91 => ?_)
    · refine jr.iconst rfl ?_
      refine jr_v rfl rfl (Or.inl rfl) rfl rfl (by decide) rfl ⟨rfl, Nat.le_of_ble_eq_true rfl, Nat.le_of_ble_eq_true rfl⟩ rfl (jc.deep (c_Machine_pushTruth hC_M (FR.rfl _ M) (by omega) (fun M9 hC_M9 hf_M9  => ?_)) (by decide))
      have ht_M9 : FR W_c_Machine_workBetween T M9 := FR.t ht_M hf_M9 (kw_sub rfl)
      exact jr.vreturn rfl rfl (q _ hC_M9 ht_M9  )
    · refine jr.iconst rfl ?_
      refine jr.goto rfl rfl ?_
      refine jr_v rfl rfl (Or.inl rfl) rfl rfl (by decide) rfl ⟨rfl, Nat.le_of_ble_eq_true rfl, Nat.le_of_ble_eq_true rfl⟩ rfl (jc.deep (c_Machine_pushTruth hC_M (FR.rfl _ M) (by omega) (fun M10 hC_M10 hf_M10  => ?_)) (by decide))
      have ht_M10 : FR W_c_Machine_workBetween T M10 := FR.t ht_M hf_M10 (kw_sub rfl)
      exact jr.vreturn rfl rfl (q _ hC_M10 ht_M10  )
  · refine jr.lsw_k 62 rfl h1 rfl ?_
    refine jr.aload_n rfl rfl ?_
    refine jr.lload_n rfl rfl ?_
    refine jr.lload rfl rfl ?_
    refine jr.lcmp_le rfl rfl rfl (by omega) (by omega) (fun h125 => ?_) (fun h125 => ?_)
    · refine jr.iconst rfl ?_
      refine jr_v rfl rfl (Or.inl rfl) rfl rfl (by decide) rfl ⟨rfl, Nat.le_of_ble_eq_true rfl, Nat.le_of_ble_eq_true rfl⟩ rfl (jc.deep (c_Machine_pushTruth hC_M (FR.rfl _ M) (by omega) (fun M11 hC_M11 hf_M11  => ?_)) (by decide))
      have ht_M11 : FR W_c_Machine_workBetween T M11 := FR.t ht_M hf_M11 (kw_sub rfl)
      exact jr.vreturn rfl rfl (q _ hC_M11 ht_M11  )
    · refine jr.iconst rfl ?_
      refine jr.goto rfl rfl ?_
      refine jr_v rfl rfl (Or.inl rfl) rfl rfl (by decide) rfl ⟨rfl, Nat.le_of_ble_eq_true rfl, Nat.le_of_ble_eq_true rfl⟩ rfl (jc.deep (c_Machine_pushTruth hC_M (FR.rfl _ M) (by omega) (fun M12 hC_M12 hf_M12  => ?_)) (by decide))
      have ht_M12 : FR W_c_Machine_workBetween T M12 := FR.t ht_M hf_M12 (kw_sub rfl)
      exact jr.vreturn rfl rfl (q _ hC_M12 ht_M12  )
  · refine jr.lsw_d rfl (by omega) rfl (fun q hq => by simp only [List.mem_cons, List.not_mem_nil, or_false] at hq; rcases hq with rfl | rfl | rfl | rfl | rfl | rfl <;> (simp only; omega)) rfl ?_
    refine jr.aload_n rfl rfl ?_
    refine jr.iload_n rfl rfl ?_
    refine jr.lload_n rfl rfl ?_
    refine jr.lload rfl rfl ?_
    refine jr_v rfl rfl (Or.inl rfl) rfl rfl (by decide) rfl ⟨rfl, Nat.le_of_ble_eq_true rfl, Nat.le_of_ble_eq_true rfl⟩ rfl (jc.deep (c_Machine_divide hC_M (FR.rfl _ M) (by omega) (by omega) (by omega) (fun M13 hC_M13 hf_M13  => ?_)) (by decide))
    have ht_M13 : FR W_c_Machine_workBetween T M13 := FR.t ht_M hf_M13 (kw_sub rfl)
    exact jr.vreturn rfl rfl (q _ hC_M13 ht_M13  )
noncomputable def W_c_Machine_note : List (Nat × Nat) := [(24, 1000)]
theorem c_Machine_note {A : Nat → Option (Nat × (Nat → Int32))} {Q : Option Value → jm → Prop} {T : jm} {M : jm} (hC_M : CI M) (ht_M : FR W_c_Machine_note T M) {x : Int} (h_x : (-2147483648) ≤ x ∧ x ≤ 2147483647) (q : ∀ (M' : jm), CI M' → FR W_c_Machine_note T M' → Q none M') : jc A 1 150 [.ref (421), .int (Int32.ofInt (x))] M Q := by
  refine jc_of (m := xm_150) rfl (Nat.le_of_ble_eq_true rfl) rfl ?_
  refine jr.aload_n rfl rfl ?_
  refine jr.getf (i := 10) (v := .ref 436) rfl rfl (by decide) rfl (by decide) rfl rfl rfl rfl ?_
  refine jr.iconst rfl ?_
  obtain ⟨v1, e1⟩ : ∃ z_, M 436 4 = z_ := ⟨_, rfl⟩
  have b1 : 0 ≤ v1 ∧ v1 ≤ 40 := by rw [← e1]; exact (CI.r hC_M (show kd 436 = 24 from rfl) (by decide) 4)
  refine jr.iald (i := 4) (x := v1) rfl (by decide) rfl (by decide) (by omega) (by omega) e1 ?_
  refine jr.istore_n rfl (by decide) rfl ?_
  refine jr.iload_n rfl rfl ?_
  refine jr.bipush rfl (by decide) ?_
  refine jr.icmp_ge rfl rfl (by omega) (by omega) (fun h10 => ?_) (fun h10 => ?_)
  · exact jr.vreturn rfl rfl (q _ hC_M ht_M  )
  · refine jr.aload_n rfl rfl ?_
    refine jr.getf (i := 10) (v := .ref 436) rfl rfl (by decide) rfl (by decide) rfl rfl rfl rfl ?_
    refine jr.bipush rfl (by decide) ?_
    refine jr.iload_n rfl rfl ?_
    refine jr.iadd rfl ?_
    refine jr.iload_n rfl rfl ?_
    refine jr.iast (i := (10 + v1)) (x := x) rfl (by decide) rfl (by decide) (by omega) (by omega) ?_
    refine jr.aload_n rfl rfl ?_
    refine jr.getf (i := 10) (v := .ref 436) rfl rfl (by decide) rfl (by decide) rfl rfl rfl rfl ?_
    refine jr.iconst rfl ?_
    refine jr.iload_n rfl rfl ?_
    refine jr.iconst rfl ?_
    refine jr.iadd rfl ?_
    refine jr.iast (i := 4) (x := (v1 + 1)) rfl (by decide) rfl (by decide) (by omega) (by omega) ?_
    exact jr.vreturn rfl rfl (q _ (CI.u (CI.u hC_M (i := (10 + v1)) (show kd 436 = 24 from rfl) (by rw [ci_rep (by omega) (by omega)]; exact ⟨by omega, by omega⟩) rfl) (i := 4) (show kd 436 = 24 from rfl) (show (0 : Int) ≤ _ ∧ _ ≤ (40 : Int) from by omega) rfl) (FR.o (FR.o ht_M (show kd 436 = 24 from rfl) rfl) (show kd 436 = 24 from rfl) rfl)  )
theorem c_Machine_reported {A : Nat → Option (Nat × (Nat → Int32))} {Q : Option Value → jm → Prop} {M : jm} (hC_M : CI M) {x : Int} (h_x : (-2147483648) ≤ x ∧ x ≤ 2147483647) (q : ∀ (r : Int), (-2147483648) ≤ r ∧ r ≤ 2147483647 → Q (some (.int (Int32.ofInt r))) M) : jc A 1 139 [.ref (421), .int (Int32.ofInt (x))] M Q := by
  refine jc_of (m := xm_139) rfl (Nat.le_of_ble_eq_true rfl) rfl ?_
  refine jr.aload_n rfl rfl ?_
  obtain ⟨v1, e1⟩ : ∃ z_, M 421 11 = z_ := ⟨_, rfl⟩
  have b1 : 0 ≤ v1 ∧ v1 ≤ 1 := by rw [← e1]; exact (CI.r hC_M (show kd 421 = 22 from rfl) (by decide) 11)
  refine jr.getf (i := 11) (x := v1) (v := .int (Int32.ofInt (v1))) rfl rfl (by decide) rfl (by decide) rfl rfl e1 rfl ?_
  refine jr.if_eq rfl rfl (by omega) (fun h4 => ?_) (fun h4 => ?_)
  · refine jr.iconst rfl ?_
    exact jr.ireturn rfl rfl rfl (q _ (by omega) )
  · have sx4 : (1 : Int) ≤ v1 := by omega
    refine jr.iload_n rfl rfl ?_
    refine jr.if_ge rfl rfl (by omega) (fun h8 => ?_) (fun h8 => ?_)
    · refine jr.iload_n rfl rfl ?_
      refine jr.iconst rfl ?_
      refine jr.icmp_le rfl rfl (by omega) (by omega) (fun h15 => ?_) (fun h15 => ?_)
      · refine jr.iconst rfl ?_
        refine jr.goto rfl rfl ?_
        refine jr.istore_n rfl (by decide) rfl ?_
        refine jr.iload_n rfl rfl ?_
        refine jr.if_eq rfl rfl (by omega) (fun h => absurd h (by decide)) (fun _ => ?_)
        refine jr.aload_n rfl rfl ?_
        refine jr.getf (i := 10) (v := .ref 436) rfl rfl (by decide) rfl (by decide) rfl rfl rfl rfl ?_
        refine jr.iload_n rfl rfl ?_
        obtain ⟨v2, e2⟩ : ∃ z_, M 436 x = z_ := ⟨_, rfl⟩
        have b2 : (-2147483648) ≤ v2 ∧ v2 ≤ 2147483647 := by rw [← e2]; exact (by have q := CI.r hC_M (show kd 436 = 24 from rfl) (by decide) x; have q2 := ci_rd x; omega)
        refine jr.iald (i := x) (x := v2) rfl (by decide) rfl (by decide) (by omega) (by omega) e2 ?_
        refine jr.goto rfl rfl ?_
        exact jr.ireturn rfl rfl rfl (q _ (by omega) )
      · refine jr.iload_n rfl rfl ?_
        refine jr.bipush rfl (by decide) ?_
        refine jr.icmp_lt rfl rfl (by omega) (by omega) (fun h21 => ?_) (fun h21 => ?_)
        · refine jr.iconst rfl ?_
          refine jr.istore_n rfl (by decide) rfl ?_
          refine jr.iload_n rfl rfl ?_
          refine jr.if_eq rfl rfl (by omega) (fun _ => ?_) (fun h => absurd (by decide) h)
          refine jr.iconst rfl ?_
          exact jr.ireturn rfl rfl rfl (q _ (by omega) )
        · refine jr.iload_n rfl rfl ?_
          refine jr.bipush rfl (by decide) ?_
          refine jr.aload_n rfl rfl ?_
          refine jr.getf (i := 10) (v := .ref 436) rfl rfl (by decide) rfl (by decide) rfl rfl rfl rfl ?_
          refine jr.iconst rfl ?_
          obtain ⟨v3, e3⟩ : ∃ z_, M 436 4 = z_ := ⟨_, rfl⟩
          have b3 : 0 ≤ v3 ∧ v3 ≤ 40 := by rw [← e3]; exact (CI.r hC_M (show kd 436 = 24 from rfl) (by decide) 4)
          refine jr.iald (i := 4) (x := v3) rfl (by decide) rfl (by decide) (by omega) (by omega) e3 ?_
          refine jr.iadd rfl ?_
          refine jr.icmp_ge rfl rfl (by omega) (by omega) (fun h34 => ?_) (fun h34 => ?_)
          · refine jr.iconst rfl ?_
            refine jr.istore_n rfl (by decide) rfl ?_
            refine jr.iload_n rfl rfl ?_
            refine jr.if_eq rfl rfl (by omega) (fun _ => ?_) (fun h => absurd (by decide) h)
            refine jr.iconst rfl ?_
            exact jr.ireturn rfl rfl rfl (q _ (by omega) )
          · refine jr.iconst rfl ?_
            refine jr.goto rfl rfl ?_
            refine jr.istore_n rfl (by decide) rfl ?_
            refine jr.iload_n rfl rfl ?_
            refine jr.if_eq rfl rfl (by omega) (fun h => absurd h (by decide)) (fun _ => ?_)
            refine jr.aload_n rfl rfl ?_
            refine jr.getf (i := 10) (v := .ref 436) rfl rfl (by decide) rfl (by decide) rfl rfl rfl rfl ?_
            refine jr.iload_n rfl rfl ?_
            obtain ⟨v4, e4⟩ : ∃ z_, M 436 x = z_ := ⟨_, rfl⟩
            have b4 : (-2147483648) ≤ v4 ∧ v4 ≤ 2147483647 := by rw [← e4]; exact (by have q := CI.r hC_M (show kd 436 = 24 from rfl) (by decide) x; have q2 := ci_rd x; omega)
            refine jr.iald (i := x) (x := v4) rfl (by decide) rfl (by decide) (by omega) (by omega) e4 ?_
            refine jr.goto rfl rfl ?_
            exact jr.ireturn rfl rfl rfl (q _ (by omega) )
    · refine jr.iconst rfl ?_
      exact jr.ireturn rfl rfl rfl (q _ (by omega) )
theorem c_Machine_chainNow {A : Nat → Option (Nat × (Nat → Int32))} {Q : Option Value → jm → Prop} {M : jm} (hC_M : CI M) (p0 : 1 ≤ M 421 7 ∧ M 421 7 ≤ 8) (q : ∀ (r : Int), 0 ≤ r ∧ r ≤ 15 → Q (some (.int (Int32.ofInt r))) M) : jc A 1 144 [.ref (421)] M Q := by
  refine jc_of (m := xm_144) rfl (Nat.le_of_ble_eq_true rfl) rfl ?_
  obtain ⟨v1, e1⟩ : ∃ z_, M 421 7 = z_ := ⟨_, rfl⟩
  have b1 : 0 ≤ v1 ∧ v1 ≤ 8 := by rw [← e1]; exact (CI.r hC_M (show kd 421 = 22 from rfl) (by decide) 7)
  have b2 : 1 ≤ v1 ∧ v1 ≤ 8 := by rw [← e1]; exact p0
  refine jr.aload_n rfl rfl ?_
  refine jr.getf (i := 6) (v := .ref 434) rfl rfl (by decide) rfl (by decide) rfl rfl rfl rfl ?_
  refine jr.aload_n rfl rfl ?_
  refine jr.getf (i := 7) (x := v1) (v := .int (Int32.ofInt (v1))) rfl rfl (by decide) rfl (by decide) rfl rfl e1 rfl ?_
  refine jr.iconst rfl ?_
  refine jr.isub rfl ?_
  have k3 := kxe_23 (a := 434) rfl (i := (v1 - 1)) (by omega) (by omega)
  refine jr.aald (c := (xe 434 (v1 - 1))) rfl (by decide) rfl (by decide) (by decide) rfl (by decide) (by omega) (by omega) k3.1 ?_
  obtain ⟨v4, e4⟩ : ∃ z_, M ((xe 434 (v1 - 1))) 0 = z_ := ⟨_, rfl⟩
  have b4 : 0 ≤ v4 ∧ v4 ≤ 15 := by rw [← e4]; exact (CI.r hC_M k3.2 (by decide) 0)
  refine jr.getf (i := 0) (x := v4) (v := .int (Int32.ofInt (v4))) rfl rfl (Nat.lt_trans (kx_14 k3.2).1 (by decide)) (kx_14 k3.2).2 (by decide) rfl rfl e4 rfl ?_
  exact jr.ireturn rfl rfl rfl (q _ (by omega) )
noncomputable def W_c_Machine_putItem : List (Nat × Nat) := [(22, 4), (24, 1000), (54, 1000)]
theorem c_Machine_putItem {A : Nat → Option (Nat × (Nat → Int32))} {Q : Option Value → jm → Prop} {T : jm} {M : jm} (hC_M : CI M) (ht_M : FR W_c_Machine_putItem T M) (q : ∀ (M' : jm), CI M' → FR W_c_Machine_putItem T M' → Q none M') : jc A 4 177 [.ref (421)] M Q := by
  refine jc_of (m := xm_177) rfl (Nat.le_of_ble_eq_true rfl) rfl ?_
  refine jr.aload_n rfl rfl ?_
  refine jr.aload_n rfl rfl ?_
  refine jr.getf (i := 8) (v := .ref 435) rfl rfl (by decide) rfl (by decide) rfl rfl rfl rfl ?_
  refine jr.iconst rfl ?_
  obtain ⟨v1, e1⟩ : ∃ z_, M 435 0 = z_ := ⟨_, rfl⟩
  have b1 : (-9223372036854775808) ≤ v1 ∧ v1 ≤ 9223372036854775807 := by rw [← e1]; exact (CI.r hC_M (show kd 435 = 26 from rfl) (by decide) 0)
  refine jr.lald (i := 0) (x := v1) rfl (by decide) rfl (by decide) (by omega) (by omega) e1 ?_
  refine jr.aload_n rfl rfl ?_
  refine jr.getf (i := 8) (v := .ref 435) rfl rfl (by decide) rfl (by decide) rfl rfl rfl rfl ?_
  refine jr.iconst rfl ?_
  obtain ⟨v2, e2⟩ : ∃ z_, M 435 1 = z_ := ⟨_, rfl⟩
  have b2 : (-9223372036854775808) ≤ v2 ∧ v2 ≤ 9223372036854775807 := by rw [← e2]; exact (CI.r hC_M (show kd 435 = 26 from rfl) (by decide) 1)
  refine jr.lald (i := 1) (x := v2) rfl (by decide) rfl (by decide) (by omega) (by omega) e2 ?_
  refine jr_v rfl rfl (Or.inl rfl) rfl rfl (by decide) rfl ⟨rfl, Nat.le_of_ble_eq_true rfl, Nat.le_of_ble_eq_true rfl⟩ rfl (jc.deep (c_Machine_isItemOfNumbers hC_M (FR.rfl _ M) (by omega) (by omega) (fun r3 M3 hC_M3 hf_M3 z3 w3_0 => ?_)) (by decide))
  have ht_M3 : FR W_c_Machine_putItem T M3 := FR.t ht_M hf_M3 (kw_sub rfl)
  refine jr.if_eq rfl rfl (by omega) (fun h16 => ?_) (fun h16 => ?_)
  · exact jr.vreturn rfl rfl (q _ hC_M3 ht_M3  )
  · have sx16 : (1 : Int) ≤ r3 := by omega
    refine jr.aload_n rfl rfl ?_
    refine jr.getf (i := 0) (v := .ref 422) rfl rfl (by decide) rfl (by decide) rfl rfl rfl rfl ?_
    refine jr.aload_n rfl rfl ?_
    refine jr.getf (i := 8) (v := .ref 435) rfl rfl (by decide) rfl (by decide) rfl rfl rfl rfl ?_
    refine jr.iconst rfl ?_
    have e4 : M3 435 0 = v1 := (hf_M3.g (show kd 435 = 26 from rfl) rfl).trans e1
    refine jr.lald (i := 0) (x := v1) rfl (by decide) rfl (by decide) (by omega) (by omega) e4 ?_
    refine jr.l2i rfl ?_
    have k5 := kxe_25 (a := 422) rfl (i := v1) (by omega) (by omega)
    refine jr.aald (c := (xe 422 v1)) rfl (by decide) rfl (by decide) (by decide) rfl (by decide) (by omega) (by omega) k5.1 ?_
    refine jr.aload_n rfl rfl ?_
    refine jr.getf (i := 8) (v := .ref 435) rfl rfl (by decide) rfl (by decide) rfl rfl rfl rfl ?_
    refine jr.iconst rfl ?_
    have e6 : M3 435 1 = v2 := (hf_M3.g (show kd 435 = 26 from rfl) rfl).trans e2
    refine jr.lald (i := 1) (x := v2) rfl (by decide) rfl (by decide) (by omega) (by omega) e6 ?_
    refine jr.l2i rfl ?_
    refine jr.aload_n rfl rfl ?_
    refine jr.getf (i := 8) (v := .ref 435) rfl rfl (by decide) rfl (by decide) rfl rfl rfl rfl ?_
    refine jr.iconst rfl ?_
    obtain ⟨v7, e7⟩ : ∃ z_, M 435 2 = z_ := ⟨_, rfl⟩
    have b7 : (-9223372036854775808) ≤ v7 ∧ v7 ≤ 9223372036854775807 := by rw [← e7]; exact (CI.r hC_M (show kd 435 = 26 from rfl) (by decide) 2)
    have e8 : M3 435 2 = v7 := (hf_M3.g (show kd 435 = 26 from rfl) rfl).trans e7
    refine jr.lald (i := 2) (x := v7) rfl (by decide) rfl (by decide) (by omega) (by omega) e8 ?_
    refine jr_v rfl rfl (Or.inl rfl) rfl rfl (Nat.lt_trans (kx_52 k5.2).1 (by decide)) (kx_52 k5.2).2 ⟨rfl, Nat.le_of_ble_eq_true rfl, Nat.le_of_ble_eq_true rfl⟩ rfl (jc.deep (c_Row_putItem hC_M3 (FR.rfl _ M3) k5.2 (by omega) (by omega) (fun M9 hC_M9 hf_M9  => ?_)) (by decide))
    have ht_M9 : FR W_c_Machine_putItem T M9 := FR.t ht_M3 hf_M9 (kw_sub rfl)
    exact jr.vreturn rfl rfl (q _ hC_M9 ht_M9  )
noncomputable def W_c_Memory_addToLog : List (Nat × Nat) := [(27, 5), (30, 1000)]
theorem c_Memory_addToLog {A : Nat → Option (Nat × (Nat → Int32))} {Q : Option Value → jm → Prop} {L : Int} {T : jm} {M : jm} (hC_M : CI M) (ht_M : FR W_c_Memory_addToLog T M) {t : Nat} (k_t : kd t = 27) {x : Int} (h_x : (-9223372036854775808) ≤ x ∧ x ≤ 9223372036854775807) (p0 : LC M L) (p1 : L ≤ 2000000000) (q : ∀ (M' : jm), CI M' → FR W_c_Memory_addToLog T M' → (LC M' (L + 1)) → Q none M') : jc A 1 184 [.ref (t), .long (Int64.ofInt (x))] M Q := by
  have hL := p0 t k_t
  refine jc_of (m := xm_184) rfl (Nat.le_of_ble_eq_true rfl) rfl ?_
  obtain ⟨v1, e1⟩ : ∃ z_, M t 5 = z_ := ⟨_, rfl⟩
  have b1 : 0 ≤ v1 ∧ v1 ≤ 2147483647 := by rw [← e1]; exact (CI.r hC_M k_t (by decide) 5)
  refine jr.aload_n rfl rfl ?_
  have k2 := kf_27_4 k_t
  refine jr.getf (i := 4) (v := .ref (t + 5)) rfl rfl (Nat.lt_trans (kx_27 k_t).1 (by decide)) (kx_27 k_t).2 (by decide) rfl rfl rfl (jval_ref rfl k2.1) ?_
  refine jr.aload_n rfl rfl ?_
  refine jr.getf (i := 5) (x := v1) (v := .int (Int32.ofInt (v1))) rfl rfl (Nat.lt_trans (kx_27 k_t).1 (by decide)) (kx_27 k_t).2 (by decide) rfl rfl e1 rfl ?_
  refine jr.bipush rfl (by decide) ?_
  refine jr.irem rfl (by decide) ?_
  have b3 : j_rem v1 20 = v1 % 20 := j_rem_ex (by omega) (by omega)
  generalize j_rem v1 20 = v3 at b3 ⊢
  refine jr.lload_n rfl rfl ?_
  refine jr.last (i := v3) (x := x) rfl (Nat.lt_trans (kx_30 k2.2).1 (by decide)) (kx_30 k2.2).2 (by decide) (by omega) (by omega) ?_
  refine jr.aload_n rfl rfl ?_
  refine jr.dup rfl rfl ?_
  refine jr.getf (i := 5) (x := v1) (v := .int (Int32.ofInt (v1))) rfl rfl (Nat.lt_trans (kx_27 k_t).1 (by decide)) (kx_27 k_t).2 (by decide) rfl rfl ((ju_c _ _ (kd_ne (by rw [k_t, k2.2]; decide))).trans e1) rfl ?_
  refine jr.iconst rfl ?_
  refine jr.iadd rfl ?_
  refine jr.putf (i := 5) (x := (v1 + 1)) rfl rfl (Nat.lt_trans (kx_27 k_t).1 (by decide)) (kx_27 k_t).2 (by decide) rfl rfl rfl rfl rfl ?_
  exact jr.vreturn rfl rfl (q _ (CI.u (CI.u hC_M (i := v3) k2.2 (show (-9223372036854775808 : Int) ≤ _ ∧ _ ≤ (9223372036854775807 : Int) from by omega) rfl) (i := 5) k_t (show (0 : Int) ≤ _ ∧ _ ≤ (2147483647 : Int) from by omega) rfl) (FR.o (FR.o ht_M k2.2 rfl) k_t rfl)  (LC.u (LC.n (LC.le p0 (by omega)) k2.2 (by decide)) (by omega)))
theorem c_Memory_logItem {A : Nat → Option (Nat × (Nat → Int32))} {Q : Option Value → jm → Prop} {M : jm} (hC_M : CI M) {t : Nat} (k_t : kd t = 27) {x : Int} (h_x : (-2147483648) ≤ x ∧ x ≤ 2147483647) (q : ∀ (r : Int), (-9223372036854775808) ≤ r ∧ r ≤ 9223372036854775807 → Q (some (.long (Int64.ofInt r))) M) : jc A 1 185 [.ref (t), .int (Int32.ofInt (x))] M Q := by
  refine jc_of (m := xm_185) rfl (Nat.le_of_ble_eq_true rfl) rfl ?_
  refine jr.iload_n rfl rfl ?_
  refine jr.if_lt rfl rfl (by omega) (fun h1 => ?_) (fun h1 => ?_)
  · refine jr.ldc2 (x := (-1)) rfl rfl (by decide) ?_
    refine jr.goto rfl rfl ?_
    exact jr.lreturn rfl rfl (q _ (by omega) )
  · refine jr.iload_n rfl rfl ?_
    refine jr.bipush rfl (by decide) ?_
    refine jr.icmp_ge rfl rfl (by omega) (by omega) (fun h7 => ?_) (fun h7 => ?_)
    · refine jr.ldc2 (x := (-1)) rfl rfl (by decide) ?_
      refine jr.goto rfl rfl ?_
      exact jr.lreturn rfl rfl (q _ (by omega) )
    · refine jr.iload_n rfl rfl ?_
      refine jr.aload_n rfl rfl ?_
      obtain ⟨v1, e1⟩ : ∃ z_, M t 5 = z_ := ⟨_, rfl⟩
      have b1 : 0 ≤ v1 ∧ v1 ≤ 2147483647 := by rw [← e1]; exact (CI.r hC_M k_t (by decide) 5)
      refine jr.getf (i := 5) (x := v1) (v := .int (Int32.ofInt (v1))) rfl rfl (Nat.lt_trans (kx_27 k_t).1 (by decide)) (kx_27 k_t).2 (by decide) rfl rfl e1 rfl ?_
      refine jr.icmp_lt rfl rfl (by omega) (by omega) (fun h15 => ?_) (fun h15 => ?_)
      · refine jr.aload_n rfl rfl ?_
        have k2 := kf_27_4 k_t
        refine jr.getf (i := 4) (v := .ref (t + 5)) rfl rfl (Nat.lt_trans (kx_27 k_t).1 (by decide)) (kx_27 k_t).2 (by decide) rfl rfl rfl (jval_ref rfl k2.1) ?_
        refine jr.aload_n rfl rfl ?_
        refine jr.getf (i := 5) (x := v1) (v := .int (Int32.ofInt (v1))) rfl rfl (Nat.lt_trans (kx_27 k_t).1 (by decide)) (kx_27 k_t).2 (by decide) rfl rfl e1 rfl ?_
        refine jr.iconst rfl ?_
        refine jr.isub rfl ?_
        refine jr.iload_n rfl rfl ?_
        refine jr.isub rfl ?_
        refine jr.bipush rfl (by decide) ?_
        refine jr.irem rfl (by decide) ?_
        have b3 : j_rem ((v1 - 1) - x) 20 = ((v1 - 1) - x) % 20 := j_rem_ex (by omega) (by omega)
        generalize j_rem ((v1 - 1) - x) 20 = v3 at b3 ⊢
        obtain ⟨v4, e4⟩ : ∃ z_, M ((t + 5)) v3 = z_ := ⟨_, rfl⟩
        have b4 : (-9223372036854775808) ≤ v4 ∧ v4 ≤ 9223372036854775807 := by rw [← e4]; exact (CI.r hC_M k2.2 (by decide) v3)
        refine jr.lald (i := v3) (x := v4) rfl (Nat.lt_trans (kx_30 k2.2).1 (by decide)) (kx_30 k2.2).2 (by decide) (by omega) (by omega) e4 ?_
        exact jr.lreturn rfl rfl (q _ (by omega) )
      · refine jr.ldc2 (x := (-1)) rfl rfl (by decide) ?_
        refine jr.goto rfl rfl ?_
        exact jr.lreturn rfl rfl (q _ (by omega) )
noncomputable def W_c_Memory_becomeLike : List (Nat × Nat) := [(27, 5), (27, 6), (28, 1000), (29, 1000), (30, 1000), (31, 1000), (32, 1000)]
theorem c_Memory_becomeLike {A : Nat → Option (Nat × (Nat → Int32))} {Q : Option Value → jm → Prop} {L : Int} {T : jm} {M : jm} (hC_M : CI M) (ht_M : FR W_c_Memory_becomeLike T M) {t : Nat} (k_t : kd t = 27) {x : Nat} (k_x : kd x = 27) (p0 : LC M L) (q : ∀ (M' : jm), CI M' → FR W_c_Memory_becomeLike T M' → (LC M' L) → Q none M') : jc A 1 183 [.ref (t), .ref (x)] M Q := by
  have hL := p0 x k_x
  refine jc_of (m := xm_183) rfl (Nat.le_of_ble_eq_true rfl) rfl ?_
  refine jr.aload_n rfl rfl ?_
  have k1 := kf_27_0 k_x
  refine jr.getf (i := 0) (v := .ref (x + 1)) rfl rfl (Nat.lt_trans (kx_27 k_x).1 (by decide)) (kx_27 k_x).2 (by decide) rfl rfl rfl (jval_ref rfl k1.1) ?_
  refine jr.iconst rfl ?_
  refine jr.aload_n rfl rfl ?_
  have k2 := kf_27_0 k_t
  refine jr.getf (i := 0) (v := .ref (t + 1)) rfl rfl (Nat.lt_trans (kx_27 k_t).1 (by decide)) (kx_27 k_t).2 (by decide) rfl rfl rfl (jval_ref rfl k2.1) ?_
  refine jr.iconst rfl ?_
  refine jr.bipush rfl (by decide) ?_
  refine jr.acpL rfl rfl (Nat.le_of_ble_eq_true rfl) (Nat.lt_trans (kx_29 k1.2).1 (by decide)) (kx_29 k1.2).2 (Nat.lt_trans (kx_29 k2.2).1 (by decide)) (kx_29 k2.2).2 (by decide) (by decide) (by omega) (by omega) (by omega) (by omega) (by omega) ?_
  have hC_M3 : CI (jcpy M ((x + 1)) 0 ((t + 1)) 0 8) := CI.cpy hC_M k1.2 k2.2 (by decide) (fun i j => (show (-9223372036854775808 : Int) ≤ (-9223372036854775808 : Int) ∧ (9223372036854775807 : Int) ≤ (9223372036854775807 : Int) from by decide)) (fun _ => rfl)
  have ht_M3 : FR W_c_Memory_becomeLike T (jcpy M ((x + 1)) 0 ((t + 1)) 0 8) := FR.cpy ht_M k2.2 (fun _ => rfl)
  have hf_M3 : FR [(29, 1000)] M (jcpy M ((x + 1)) 0 ((t + 1)) 0 8) := FR.cpy (FR.rfl _ _) k2.2 (fun _ => rfl)
  generalize jcpy M ((x + 1)) 0 ((t + 1)) 0 8 = M3 at hC_M3 ht_M3 hf_M3 ⊢
  refine jr.aload_n rfl rfl ?_
  have k4 := kf_27_1 k_x
  refine jr.getf (i := 1) (v := .ref (x + 2)) rfl rfl (Nat.lt_trans (kx_27 k_x).1 (by decide)) (kx_27 k_x).2 (by decide) rfl rfl rfl (jval_ref rfl k4.1) ?_
  refine jr.iconst rfl ?_
  refine jr.aload_n rfl rfl ?_
  have k5 := kf_27_1 k_t
  refine jr.getf (i := 1) (v := .ref (t + 2)) rfl rfl (Nat.lt_trans (kx_27 k_t).1 (by decide)) (kx_27 k_t).2 (by decide) rfl rfl rfl (jval_ref rfl k5.1) ?_
  refine jr.iconst rfl ?_
  refine jr.iconst rfl ?_
  refine jr.acp rfl rfl (Nat.le_of_ble_eq_true rfl) (Nat.lt_trans (kx_28 k4.2).1 (by decide)) (kx_28 k4.2).2 (Nat.lt_trans (kx_28 k5.2).1 (by decide)) (kx_28 k5.2).2 (by decide) (by decide) (by omega) (by omega) (by omega) (by omega) (by omega) ?_
  have hC_M6 : CI (jcpy M3 ((x + 2)) 0 ((t + 2)) 0 4) := CI.cpy hC_M3 k4.2 k5.2 (by decide) (fun i j => (show (-2147483648 : Int) ≤ (-2147483648 : Int) ∧ (2147483647 : Int) ≤ (2147483647 : Int) from by decide)) (fun _ => rfl)
  have ht_M6 : FR W_c_Memory_becomeLike T (jcpy M3 ((x + 2)) 0 ((t + 2)) 0 4) := FR.cpy ht_M3 k5.2 (fun _ => rfl)
  have hf_M6 : FR [(28, 1000)] M3 (jcpy M3 ((x + 2)) 0 ((t + 2)) 0 4) := FR.cpy (FR.rfl _ _) k5.2 (fun _ => rfl)
  generalize jcpy M3 ((x + 2)) 0 ((t + 2)) 0 4 = M6 at hC_M6 ht_M6 hf_M6 ⊢
  refine jr.aload_n rfl rfl ?_
  have k7 := kf_27_2 k_x
  refine jr.getf (i := 2) (v := .ref (x + 3)) rfl rfl (Nat.lt_trans (kx_27 k_x).1 (by decide)) (kx_27 k_x).2 (by decide) rfl rfl rfl (jval_ref rfl k7.1) ?_
  refine jr.iconst rfl ?_
  refine jr.aload_n rfl rfl ?_
  have k8 := kf_27_2 k_t
  refine jr.getf (i := 2) (v := .ref (t + 3)) rfl rfl (Nat.lt_trans (kx_27 k_t).1 (by decide)) (kx_27 k_t).2 (by decide) rfl rfl rfl (jval_ref rfl k8.1) ?_
  refine jr.iconst rfl ?_
  refine jr.bipush rfl (by decide) ?_
  refine jr.acpL rfl rfl (Nat.le_of_ble_eq_true rfl) (Nat.lt_trans (kx_31 k7.2).1 (by decide)) (kx_31 k7.2).2 (Nat.lt_trans (kx_31 k8.2).1 (by decide)) (kx_31 k8.2).2 (by decide) (by decide) (by omega) (by omega) (by omega) (by omega) (by omega) ?_
  have hC_M9 : CI (jcpy M6 ((x + 3)) 0 ((t + 3)) 0 64) := CI.cpy hC_M6 k7.2 k8.2 (by decide) (fun i j => (show (-9223372036854775808 : Int) ≤ (-9223372036854775808 : Int) ∧ (9223372036854775807 : Int) ≤ (9223372036854775807 : Int) from by decide)) (fun _ => rfl)
  have ht_M9 : FR W_c_Memory_becomeLike T (jcpy M6 ((x + 3)) 0 ((t + 3)) 0 64) := FR.cpy ht_M6 k8.2 (fun _ => rfl)
  have hf_M9 : FR [(31, 1000)] M6 (jcpy M6 ((x + 3)) 0 ((t + 3)) 0 64) := FR.cpy (FR.rfl _ _) k8.2 (fun _ => rfl)
  generalize jcpy M6 ((x + 3)) 0 ((t + 3)) 0 64 = M9 at hC_M9 ht_M9 hf_M9 ⊢
  refine jr.aload_n rfl rfl ?_
  have k10 := kf_27_3 k_x
  refine jr.getf (i := 3) (v := .ref (x + 4)) rfl rfl (Nat.lt_trans (kx_27 k_x).1 (by decide)) (kx_27 k_x).2 (by decide) rfl rfl rfl (jval_ref rfl k10.1) ?_
  refine jr.iconst rfl ?_
  refine jr.aload_n rfl rfl ?_
  have k11 := kf_27_3 k_t
  refine jr.getf (i := 3) (v := .ref (t + 4)) rfl rfl (Nat.lt_trans (kx_27 k_t).1 (by decide)) (kx_27 k_t).2 (by decide) rfl rfl rfl (jval_ref rfl k11.1) ?_
  refine jr.iconst rfl ?_
  refine jr.iconst rfl ?_
  refine jr.acp rfl rfl (Nat.le_of_ble_eq_true rfl) (Nat.lt_trans (kx_32 k10.2).1 (by decide)) (kx_32 k10.2).2 (Nat.lt_trans (kx_32 k11.2).1 (by decide)) (kx_32 k11.2).2 (by decide) (by decide) (by omega) (by omega) (by omega) (by omega) (by omega) ?_
  have hC_M12 : CI (jcpy M9 ((x + 4)) 0 ((t + 4)) 0 4) := CI.cpy hC_M9 k10.2 k11.2 (by decide) (fun i j => (show (0 : Int) ≤ (0 : Int) ∧ (16 : Int) ≤ (16 : Int) from by decide)) (fun _ => rfl)
  have ht_M12 : FR W_c_Memory_becomeLike T (jcpy M9 ((x + 4)) 0 ((t + 4)) 0 4) := FR.cpy ht_M9 k11.2 (fun _ => rfl)
  have hf_M12 : FR [(32, 1000)] M9 (jcpy M9 ((x + 4)) 0 ((t + 4)) 0 4) := FR.cpy (FR.rfl _ _) k11.2 (fun _ => rfl)
  generalize jcpy M9 ((x + 4)) 0 ((t + 4)) 0 4 = M12 at hC_M12 ht_M12 hf_M12 ⊢
  refine jr.aload_n rfl rfl ?_
  have k13 := kf_27_4 k_x
  refine jr.getf (i := 4) (v := .ref (x + 5)) rfl rfl (Nat.lt_trans (kx_27 k_x).1 (by decide)) (kx_27 k_x).2 (by decide) rfl rfl rfl (jval_ref rfl k13.1) ?_
  refine jr.iconst rfl ?_
  refine jr.aload_n rfl rfl ?_
  have k14 := kf_27_4 k_t
  refine jr.getf (i := 4) (v := .ref (t + 5)) rfl rfl (Nat.lt_trans (kx_27 k_t).1 (by decide)) (kx_27 k_t).2 (by decide) rfl rfl rfl (jval_ref rfl k14.1) ?_
  refine jr.iconst rfl ?_
  refine jr.bipush rfl (by decide) ?_
  refine jr.acpL rfl rfl (Nat.le_of_ble_eq_true rfl) (Nat.lt_trans (kx_30 k13.2).1 (by decide)) (kx_30 k13.2).2 (Nat.lt_trans (kx_30 k14.2).1 (by decide)) (kx_30 k14.2).2 (by decide) (by decide) (by omega) (by omega) (by omega) (by omega) (by omega) ?_
  have hC_M15 : CI (jcpy M12 ((x + 5)) 0 ((t + 5)) 0 20) := CI.cpy hC_M12 k13.2 k14.2 (by decide) (fun i j => (show (-9223372036854775808 : Int) ≤ (-9223372036854775808 : Int) ∧ (9223372036854775807 : Int) ≤ (9223372036854775807 : Int) from by decide)) (fun _ => rfl)
  have ht_M15 : FR W_c_Memory_becomeLike T (jcpy M12 ((x + 5)) 0 ((t + 5)) 0 20) := FR.cpy ht_M12 k14.2 (fun _ => rfl)
  have hf_M15 : FR [(30, 1000)] M12 (jcpy M12 ((x + 5)) 0 ((t + 5)) 0 20) := FR.cpy (FR.rfl _ _) k14.2 (fun _ => rfl)
  generalize jcpy M12 ((x + 5)) 0 ((t + 5)) 0 20 = M15 at hC_M15 ht_M15 hf_M15 ⊢
  refine jr.aload_n rfl rfl ?_
  refine jr.aload_n rfl rfl ?_
  obtain ⟨v16, e16⟩ : ∃ z_, M x 5 = z_ := ⟨_, rfl⟩
  have b16 : 0 ≤ v16 ∧ v16 ≤ 2147483647 := by rw [← e16]; exact (CI.r hC_M k_x (by decide) 5)
  have e17 : M3 x 5 = v16 := (hf_M3.g k_x rfl).trans e16
  have e18 : M6 x 5 = v16 := (hf_M6.g k_x rfl).trans e17
  have e19 : M9 x 5 = v16 := (hf_M9.g k_x rfl).trans e18
  have e20 : M12 x 5 = v16 := (hf_M12.g k_x rfl).trans e19
  have e21 : M15 x 5 = v16 := (hf_M15.g k_x rfl).trans e20
  refine jr.getf (i := 5) (x := v16) (v := .int (Int32.ofInt (v16))) rfl rfl (Nat.lt_trans (kx_27 k_x).1 (by decide)) (kx_27 k_x).2 (by decide) rfl rfl e21 rfl ?_
  refine jr.putf (i := 5) (x := v16) rfl rfl (Nat.lt_trans (kx_27 k_t).1 (by decide)) (kx_27 k_t).2 (by decide) rfl rfl rfl rfl rfl ?_
  refine jr.aload_n rfl rfl ?_
  refine jr.aload_n rfl rfl ?_
  obtain ⟨v22, e22⟩ : ∃ z_, M x 6 = z_ := ⟨_, rfl⟩
  have b22 : (-9223372036854775808) ≤ v22 ∧ v22 ≤ 9223372036854775807 := by rw [← e22]; exact (CI.r hC_M k_x (by decide) 6)
  have e23 : M3 x 6 = v22 := (hf_M3.g k_x rfl).trans e22
  have e24 : M6 x 6 = v22 := (hf_M6.g k_x rfl).trans e23
  have e25 : M9 x 6 = v22 := (hf_M9.g k_x rfl).trans e24
  have e26 : M12 x 6 = v22 := (hf_M12.g k_x rfl).trans e25
  have e27 : M15 x 6 = v22 := (hf_M15.g k_x rfl).trans e26
  refine jr.getf (i := 6) (x := v22) (v := .long (Int64.ofInt (v22))) rfl rfl (Nat.lt_trans (kx_27 k_x).1 (by decide)) (kx_27 k_x).2 (by decide) rfl rfl ((ju_i _ _ (by decide)).trans e27) rfl ?_
  refine jr.putf (i := 6) (x := v22) rfl rfl (Nat.lt_trans (kx_27 k_t).1 (by decide)) (kx_27 k_t).2 (by decide) rfl rfl rfl rfl rfl ?_
  exact jr.vreturn rfl rfl (q _ (CI.u (CI.u hC_M15 (i := 5) k_t (show (0 : Int) ≤ _ ∧ _ ≤ (2147483647 : Int) from by omega) rfl) (i := 6) k_t (show (-9223372036854775808 : Int) ≤ _ ∧ _ ≤ (9223372036854775807 : Int) from by omega) rfl) (FR.o (FR.o ht_M15 k_t rfl) k_t rfl)  (LC.m (LC.u (LC.fr (LC.fr (LC.fr (LC.fr (LC.fr (LC.le p0 (by omega)) hf_M3 rfl) hf_M6 rfl) hf_M9 rfl) hf_M12 rfl) hf_M15 rfl) (by omega)) (by decide)))
noncomputable def W_c_Memory_learn : List (Nat × Nat) := [(31, 1000), (32, 1000)]
theorem c_Memory_learn {A : Nat → Option (Nat × (Nat → Int32))} {Q : Option Value → jm → Prop} {T : jm} {M : jm} (hC_M : CI M) (ht_M : FR W_c_Memory_learn T M) {t : Nat} (k_t : kd t = 27) {x : Int} (h_x : 0 ≤ x ∧ x ≤ 3) {y : Int} (h_y : (-9223372036854775808) ≤ y ∧ y ≤ 9223372036854775807) (q : ∀ (M' : jm), CI M' → FR W_c_Memory_learn T M' → Q none M') : jc A 2 188 [.ref (t), .int (Int32.ofInt (x)), .long (Int64.ofInt (y))] M Q := by
  refine jc_of (m := xm_188) rfl (Nat.le_of_ble_eq_true rfl) rfl ?_
  refine jr.aload_n rfl rfl ?_
  refine jr.iload_n rfl rfl ?_
  refine jr.lload_n rfl rfl ?_
  refine jr_v rfl rfl (Or.inl rfl) rfl rfl (Nat.lt_trans (kx_27 k_t).1 (by decide)) (kx_27 k_t).2 ⟨rfl, Nat.le_of_ble_eq_true rfl, Nat.le_of_ble_eq_true rfl⟩ rfl (jc.deep (c_Memory_knows hC_M k_t (by omega) (by omega) (fun r1 z1  => ?_)) (by decide))
  refine jr.if_eq rfl rfl (by omega) (fun h6 => ?_) (fun h6 => ?_)
  · refine jr.iload_n rfl rfl ?_
    refine jr.bipush rfl (by decide) ?_
    refine jr.imul rfl ?_
    refine jr.istore rfl (by decide) rfl ?_
    refine jr.aload_n rfl rfl ?_
    have k2 := kf_27_3 k_t
    refine jr.getf (i := 3) (v := .ref (t + 4)) rfl rfl (Nat.lt_trans (kx_27 k_t).1 (by decide)) (kx_27 k_t).2 (by decide) rfl rfl rfl (jval_ref rfl k2.1) ?_
    refine jr.iload_n rfl rfl ?_
    obtain ⟨v3, e3⟩ : ∃ z_, M ((t + 4)) x = z_ := ⟨_, rfl⟩
    have b3 : 0 ≤ v3 ∧ v3 ≤ 16 := by rw [← e3]; exact (CI.r hC_M k2.2 (by decide) x)
    refine jr.iald (i := x) (x := v3) rfl (Nat.lt_trans (kx_32 k2.2).1 (by decide)) (kx_32 k2.2).2 (by decide) (by omega) (by omega) e3 ?_
    refine jr.bipush rfl (by decide) ?_
    refine jr.icmp_ne rfl rfl (by omega) (by omega) (fun h24 => ?_) (fun h24 => ?_)
    · have sx24 : v3 ≤ (15 : Int) := by omega
      refine jr.aload_n rfl rfl ?_
      have k4 := kf_27_2 k_t
      refine jr.getf (i := 2) (v := .ref (t + 3)) rfl rfl (Nat.lt_trans (kx_27 k_t).1 (by decide)) (kx_27 k_t).2 (by decide) rfl rfl rfl (jval_ref rfl k4.1) ?_
      refine jr.iload rfl rfl ?_
      refine jr.aload_n rfl rfl ?_
      have k5 := kf_27_3 k_t
      refine jr.getf (i := 3) (v := .ref (t + 4)) rfl rfl (Nat.lt_trans (kx_27 k_t).1 (by decide)) (kx_27 k_t).2 (by decide) rfl rfl rfl (jval_ref rfl k5.1) ?_
      refine jr.iload_n rfl rfl ?_
      refine jr.iald (i := x) (x := v3) rfl (Nat.lt_trans (kx_32 k5.2).1 (by decide)) (kx_32 k5.2).2 (by decide) (by omega) (by omega) e3 ?_
      refine jr.iadd rfl ?_
      refine jr.lload_n rfl rfl ?_
      refine jr.last (i := ((x * 16) + v3)) (x := y) rfl (Nat.lt_trans (kx_31 k4.2).1 (by decide)) (kx_31 k4.2).2 (by decide) (by omega) (by omega) ?_
      refine jr.aload_n rfl rfl ?_
      have k6 := kf_27_3 k_t
      refine jr.getf (i := 3) (v := .ref (t + 4)) rfl rfl (Nat.lt_trans (kx_27 k_t).1 (by decide)) (kx_27 k_t).2 (by decide) rfl rfl rfl (jval_ref rfl k6.1) ?_
      refine jr.iload_n rfl rfl ?_
      refine jr.dup2 rfl ⟨rfl, rfl⟩ ?_
      refine jr.iald (i := x) (x := v3) rfl (Nat.lt_trans (kx_32 k6.2).1 (by decide)) (kx_32 k6.2).2 (by decide) (by omega) (by omega) ((ju_c _ _ (kd_ne (by rw [k6.2, k4.2]; decide))).trans e3) ?_
      refine jr.iconst rfl ?_
      refine jr.iadd rfl ?_
      refine jr.iast (i := x) (x := (v3 + 1)) rfl (Nat.lt_trans (kx_32 k6.2).1 (by decide)) (kx_32 k6.2).2 (by decide) (by omega) (by omega) ?_
      exact jr.vreturn rfl rfl (q _ (CI.u (CI.u hC_M (i := ((x * 16) + v3)) k4.2 (show (-9223372036854775808 : Int) ≤ _ ∧ _ ≤ (9223372036854775807 : Int) from by omega) rfl) (i := x) k6.2 (show (0 : Int) ≤ _ ∧ _ ≤ (16 : Int) from by omega) rfl) (FR.o (FR.o ht_M k4.2 rfl) k6.2 rfl)  )
    · refine jr.aload_n rfl rfl ?_
      have k7 := kf_27_2 k_t
      refine jr.getf (i := 2) (v := .ref (t + 3)) rfl rfl (Nat.lt_trans (kx_27 k_t).1 (by decide)) (kx_27 k_t).2 (by decide) rfl rfl rfl (jval_ref rfl k7.1) ?_
      refine jr.iload rfl rfl ?_
      refine jr.iconst rfl ?_
      refine jr.iadd rfl ?_
      refine jr.aload_n rfl rfl ?_
      have k8 := kf_27_2 k_t
      refine jr.getf (i := 2) (v := .ref (t + 3)) rfl rfl (Nat.lt_trans (kx_27 k_t).1 (by decide)) (kx_27 k_t).2 (by decide) rfl rfl rfl (jval_ref rfl k8.1) ?_
      refine jr.iload rfl rfl ?_
      refine jr.bipush rfl (by decide) ?_
      refine jr.acpL rfl rfl (Nat.le_of_ble_eq_true rfl) (Nat.lt_trans (kx_31 k7.2).1 (by decide)) (kx_31 k7.2).2 (Nat.lt_trans (kx_31 k8.2).1 (by decide)) (kx_31 k8.2).2 (by decide) (by decide) (by omega) (by omega) (by omega) (by omega) (by omega) ?_
      have hC_M9 : CI (jcpy M ((t + 3)) ((x * 16) + 1) ((t + 3)) (x * 16) 15) := CI.cpy hC_M k7.2 k8.2 (by decide) (fun i j => (show (-9223372036854775808 : Int) ≤ (-9223372036854775808 : Int) ∧ (9223372036854775807 : Int) ≤ (9223372036854775807 : Int) from by decide)) (fun _ => rfl)
      have ht_M9 : FR W_c_Memory_learn T (jcpy M ((t + 3)) ((x * 16) + 1) ((t + 3)) (x * 16) 15) := FR.cpy ht_M k8.2 (fun _ => rfl)
      have hf_M9 : FR [(31, 1000)] M (jcpy M ((t + 3)) ((x * 16) + 1) ((t + 3)) (x * 16) 15) := FR.cpy (FR.rfl _ _) k8.2 (fun _ => rfl)
      generalize jcpy M ((t + 3)) ((x * 16) + 1) ((t + 3)) (x * 16) 15 = M9 at hC_M9 ht_M9 hf_M9 ⊢
      refine jr.aload_n rfl rfl ?_
      have k10 := kf_27_3 k_t
      refine jr.getf (i := 3) (v := .ref (t + 4)) rfl rfl (Nat.lt_trans (kx_27 k_t).1 (by decide)) (kx_27 k_t).2 (by decide) rfl rfl rfl (jval_ref rfl k10.1) ?_
      refine jr.iload_n rfl rfl ?_
      refine jr.dup2 rfl ⟨rfl, rfl⟩ ?_
      have e11 : M9 ((t + 4)) x = v3 := (hf_M9.g k10.2 rfl).trans e3
      refine jr.iald (i := x) (x := v3) rfl (Nat.lt_trans (kx_32 k10.2).1 (by decide)) (kx_32 k10.2).2 (by decide) (by omega) (by omega) e11 ?_
      refine jr.iconst rfl ?_
      refine jr.isub rfl ?_
      refine jr.iast (i := x) (x := (v3 - 1)) rfl (Nat.lt_trans (kx_32 k10.2).1 (by decide)) (kx_32 k10.2).2 (by decide) (by omega) (by omega) ?_
      refine jr.aload_n rfl rfl ?_
      have k12 := kf_27_2 k_t
      refine jr.getf (i := 2) (v := .ref (t + 3)) rfl rfl (Nat.lt_trans (kx_27 k_t).1 (by decide)) (kx_27 k_t).2 (by decide) rfl rfl rfl (jval_ref rfl k12.1) ?_
      refine jr.iload rfl rfl ?_
      refine jr.aload_n rfl rfl ?_
      have k13 := kf_27_3 k_t
      refine jr.getf (i := 3) (v := .ref (t + 4)) rfl rfl (Nat.lt_trans (kx_27 k_t).1 (by decide)) (kx_27 k_t).2 (by decide) rfl rfl rfl (jval_ref rfl k13.1) ?_
      refine jr.iload_n rfl rfl ?_
      refine jr.iald (i := x) (x := (v3 - 1)) rfl (Nat.lt_trans (kx_32 k13.2).1 (by decide)) (kx_32 k13.2).2 (by decide) (by omega) (by omega) (ju_same _ _ _ _) ?_
      refine jr.iadd rfl ?_
      refine jr.lload_n rfl rfl ?_
      refine jr.last (i := ((x * 16) + (v3 - 1))) (x := y) rfl (Nat.lt_trans (kx_31 k12.2).1 (by decide)) (kx_31 k12.2).2 (by decide) (by omega) (by omega) ?_
      refine jr.aload_n rfl rfl ?_
      have k14 := kf_27_3 k_t
      refine jr.getf (i := 3) (v := .ref (t + 4)) rfl rfl (Nat.lt_trans (kx_27 k_t).1 (by decide)) (kx_27 k_t).2 (by decide) rfl rfl rfl (jval_ref rfl k14.1) ?_
      refine jr.iload_n rfl rfl ?_
      refine jr.dup2 rfl ⟨rfl, rfl⟩ ?_
      refine jr.iald (i := x) (x := (v3 - 1)) rfl (Nat.lt_trans (kx_32 k14.2).1 (by decide)) (kx_32 k14.2).2 (by decide) (by omega) (by omega) ((ju_c _ _ (kd_ne (by rw [k14.2, k12.2]; decide))).trans (ju_same _ _ _ _)) ?_
      refine jr.iconst rfl ?_
      refine jr.iadd rfl ?_
      refine jr.iast (i := x) (x := ((v3 - 1) + 1)) rfl (Nat.lt_trans (kx_32 k14.2).1 (by decide)) (kx_32 k14.2).2 (by decide) (by omega) (by omega) ?_
      exact jr.vreturn rfl rfl (q _ (CI.u (CI.u (CI.u hC_M9 (i := x) k14.2 (show (0 : Int) ≤ _ ∧ _ ≤ (16 : Int) from by omega) rfl) (i := ((x * 16) + (v3 - 1))) k12.2 (show (-9223372036854775808 : Int) ≤ _ ∧ _ ≤ (9223372036854775807 : Int) from by omega) rfl) (i := x) k14.2 (show (0 : Int) ≤ _ ∧ _ ≤ (16 : Int) from by omega) rfl) (FR.o (FR.o (FR.o ht_M9 k14.2 rfl) k12.2 rfl) k14.2 rfl)  )
  · have sx6 : (1 : Int) ≤ r1 := by omega
    exact jr.vreturn rfl rfl (q _ hC_M ht_M  )
noncomputable def W_c_Row_copyItem : List (Nat × Nat) := [(53, 1000), (54, 1000)]
theorem c_Row_copyItem {A : Nat → Option (Nat × (Nat → Int32))} {Q : Option Value → jm → Prop} {T : jm} {M : jm} (hC_M : CI M) (ht_M : FR W_c_Row_copyItem T M) {t : Nat} (k_t : kd t = 52) {x : Nat} (k_x : kd x = 52) {y : Int} (h_y : 0 ≤ y ∧ y ≤ 39) {z : Int} (h_z : 0 ≤ z ∧ z ≤ 39) (q : ∀ (M' : jm), CI M' → FR W_c_Row_copyItem T M' → Q none M') : jc A 2 240 [.ref (t), .ref (x), .int (Int32.ofInt (y)), .int (Int32.ofInt (z))] M Q := by
  refine jc_of (m := xm_240) rfl (Nat.le_of_ble_eq_true rfl) rfl ?_
  refine jr.aload_n rfl rfl ?_
  have k1 := kf_52_2 k_x
  refine jr.getf (i := 2) (v := .ref (x + 1)) rfl rfl (Nat.lt_trans (kx_52 k_x).1 (by decide)) (kx_52 k_x).2 (by decide) rfl rfl rfl (jval_ref rfl k1.1) ?_
  refine jr.iload_n rfl rfl ?_
  refine jr.aload_n rfl rfl ?_
  have k2 := kf_52_2 k_t
  refine jr.getf (i := 2) (v := .ref (t + 1)) rfl rfl (Nat.lt_trans (kx_52 k_t).1 (by decide)) (kx_52 k_t).2 (by decide) rfl rfl rfl (jval_ref rfl k2.1) ?_
  refine jr.iload_n rfl rfl ?_
  obtain ⟨v3, e3⟩ : ∃ z_, M ((t + 1)) y = z_ := ⟨_, rfl⟩
  have b3 : (-9223372036854775808) ≤ v3 ∧ v3 ≤ 9223372036854775807 := by rw [← e3]; exact (CI.r hC_M k2.2 (by decide) y)
  refine jr.lald (i := y) (x := v3) rfl (Nat.lt_trans (kx_54 k2.2).1 (by decide)) (kx_54 k2.2).2 (by decide) (by omega) (by omega) e3 ?_
  refine jr.last (i := z) (x := v3) rfl (Nat.lt_trans (kx_54 k1.2).1 (by decide)) (kx_54 k1.2).2 (by decide) (by omega) (by omega) ?_
  refine jr.aload_n rfl rfl ?_
  refine jr_v rfl rfl (Or.inl rfl) rfl rfl (Nat.lt_trans (kx_52 k_t).1 (by decide)) (kx_52 k_t).2 ⟨rfl, Nat.le_of_ble_eq_true rfl, Nat.le_of_ble_eq_true rfl⟩ rfl (jc.deep (c_Row_isOfHeaders (CI.u hC_M (i := z) k1.2 (show (-9223372036854775808 : Int) ≤ _ ∧ _ ≤ (9223372036854775807 : Int) from by omega) rfl) k_t (fun r4 z4  => ?_)) (by decide))
  refine jr.if_eq rfl rfl (by omega) (fun h16 => ?_) (fun h16 => ?_)
  · exact jr.vreturn rfl rfl (q _ (CI.u hC_M (i := z) k1.2 (show (-9223372036854775808 : Int) ≤ _ ∧ _ ≤ (9223372036854775807 : Int) from by omega) rfl) (FR.o ht_M k1.2 rfl)  )
  · have sx16 : (1 : Int) ≤ r4 := by omega
    refine jr.aload_n rfl rfl ?_
    have k5 := kf_52_3 k_t
    refine jr.getf (i := 3) (v := .ref (t + 2)) rfl rfl (Nat.lt_trans (kx_52 k_t).1 (by decide)) (kx_52 k_t).2 (by decide) rfl rfl rfl (jval_ref rfl k5.1) ?_
    refine jr.iload_n rfl rfl ?_
    refine jr.bipush rfl (by decide) ?_
    refine jr.imul rfl ?_
    refine jr.aload_n rfl rfl ?_
    have k6 := kf_52_3 k_x
    refine jr.getf (i := 3) (v := .ref (x + 2)) rfl rfl (Nat.lt_trans (kx_52 k_x).1 (by decide)) (kx_52 k_x).2 (by decide) rfl rfl rfl (jval_ref rfl k6.1) ?_
    refine jr.iload_n rfl rfl ?_
    refine jr.bipush rfl (by decide) ?_
    refine jr.imul rfl ?_
    refine jr.bipush rfl (by decide) ?_
    refine jr.acpL rfl rfl (Nat.le_of_ble_eq_true rfl) (Nat.lt_trans (kx_53 k5.2).1 (by decide)) (kx_53 k5.2).2 (Nat.lt_trans (kx_53 k6.2).1 (by decide)) (kx_53 k6.2).2 (by decide) (by decide) (by omega) (by omega) (by omega) (by omega) (by omega) ?_
    have hC_M7 : CI (jcpy ((ju M ((x + 1)) z v3)) ((t + 2)) (y * 11) ((x + 2)) (z * 11) 11) := CI.cpy (CI.u hC_M (i := z) k1.2 (show (-9223372036854775808 : Int) ≤ _ ∧ _ ≤ (9223372036854775807 : Int) from by omega) rfl) k5.2 k6.2 (by decide) (fun i j => (show (-9223372036854775808 : Int) ≤ (-9223372036854775808 : Int) ∧ (9223372036854775807 : Int) ≤ (9223372036854775807 : Int) from by decide)) (fun _ => rfl)
    have ht_M7 : FR W_c_Row_copyItem T (jcpy ((ju M ((x + 1)) z v3)) ((t + 2)) (y * 11) ((x + 2)) (z * 11) 11) := FR.cpy (FR.o ht_M k1.2 rfl) k6.2 (fun _ => rfl)
    have hf_M7 : FR [(53, 1000)] ((ju M ((x + 1)) z v3)) (jcpy ((ju M ((x + 1)) z v3)) ((t + 2)) (y * 11) ((x + 2)) (z * 11) 11) := FR.cpy (FR.rfl _ _) k6.2 (fun _ => rfl)
    generalize jcpy ((ju M ((x + 1)) z v3)) ((t + 2)) (y * 11) ((x + 2)) (z * 11) 11 = M7 at hC_M7 ht_M7 hf_M7 ⊢
    exact jr.vreturn rfl rfl (q _ hC_M7 ht_M7  )
noncomputable def W_c_Row_renew : List (Nat × Nat) := [(52, 0), (52, 1), (54, 1000)]
theorem c_Row_renew_L12 {A : Nat → Option (Nat × (Nat → Int32))} {Q : Option Value → jm → Prop} {T : jm} {t : Nat} (k_t : kd t = 52) (q : ∀ (M' : jm), CI M' → FR W_c_Row_renew T M' → Q none M') : ∀ (nM : Nat) (M : jm) (i : Int), CI M → FR W_c_Row_renew T M → 0 ≤ i ∧ i ≤ 40 → 40 - i ≤ nM → jr A 1 xm_235 12 [(3, .int (Int32.ofInt (i))), (0, .ref (t))] [] M Q := by
  intro nM
  induction nM using Nat.strongRecOn with
  | ind nM ih =>
    intro M i hC_M ht_M h_i hm
    refine jr.iload_n rfl rfl ?_
    refine jr.bipush rfl (by decide) ?_
    refine jr.icmp_ge rfl rfl (by omega) (by omega) (fun h15 => ?_) (fun h15 => ?_)
    · exact jr.vreturn rfl rfl (q _ hC_M ht_M  )
    · refine jr.aload_n rfl rfl ?_
      have k1 := kf_52_2 k_t
      refine jr.getf (i := 2) (v := .ref (t + 1)) rfl rfl (Nat.lt_trans (kx_52 k_t).1 (by decide)) (kx_52 k_t).2 (by decide) rfl rfl rfl (jval_ref rfl k1.1) ?_
      refine jr.iload_n rfl rfl ?_
      refine jr.aload_n rfl rfl ?_
      refine jr_v rfl rfl (Or.inl rfl) rfl rfl (Nat.lt_trans (kx_52 k_t).1 (by decide)) (kx_52 k_t).2 ⟨rfl, Nat.le_of_ble_eq_true rfl, Nat.le_of_ble_eq_true rfl⟩ rfl (jc.deep (c_Row_isOfHeaders hC_M k_t (fun r2 z2  => ?_)) (by decide))
      refine jr.if_eq rfl rfl (by omega) (fun h27 => ?_) (fun h27 => ?_)
      · refine jr.lconst (x := 0) rfl (by decide) ?_
        refine jr.last (i := i) (x := 0) rfl (Nat.lt_trans (kx_54 k1.2).1 (by decide)) (kx_54 k1.2).2 (by decide) (by omega) (by omega) ?_
        refine jr.iinc rfl rfl (by decide) rfl ?_
        refine jr.goto rfl rfl ?_
        refine jr.pick [0, 1] rfl rfl ?_
        exact ih (nM - 1) (by omega) ((ju M ((t + 1)) i 0)) (i + 1) (CI.u hC_M (i := i) k1.2 (show (-9223372036854775808 : Int) ≤ _ ∧ _ ≤ (9223372036854775807 : Int) from by omega) rfl) (FR.o ht_M k1.2 rfl) (by omega)  (by omega)
      · have sx27 : (1 : Int) ≤ r2 := by omega
        refine jr.ldc2 (x := (-1)) rfl rfl (by decide) ?_
        refine jr.goto rfl rfl ?_
        refine jr.last (i := i) (x := (-1)) rfl (Nat.lt_trans (kx_54 k1.2).1 (by decide)) (kx_54 k1.2).2 (by decide) (by omega) (by omega) ?_
        refine jr.iinc rfl rfl (by decide) rfl ?_
        refine jr.goto rfl rfl ?_
        refine jr.pick [0, 1] rfl rfl ?_
        exact ih (nM - 1) (by omega) ((ju M ((t + 1)) i (-1))) (i + 1) (CI.u hC_M (i := i) k1.2 (show (-9223372036854775808 : Int) ≤ _ ∧ _ ≤ (9223372036854775807 : Int) from by omega) rfl) (FR.o ht_M k1.2 rfl) (by omega)  (by omega)
theorem c_Row_renew {A : Nat → Option (Nat × (Nat → Int32))} {Q : Option Value → jm → Prop} {T : jm} {M : jm} (hC_M : CI M) (ht_M : FR W_c_Row_renew T M) {t : Nat} (k_t : kd t = 52) {x : Int} (h_x : (-2147483648) ≤ x ∧ x ≤ 2147483647) {y : Int} (h_y : 0 ≤ y ∧ y ≤ 40) (q : ∀ (M' : jm), CI M' → FR W_c_Row_renew T M' → Q none M') : jc A 2 235 [.ref (t), .int (Int32.ofInt (x)), .int (Int32.ofInt (y))] M Q := by
  refine jc_of (m := xm_235) rfl (Nat.le_of_ble_eq_true rfl) rfl ?_
  refine jr.aload_n rfl rfl ?_
  refine jr.iload_n rfl rfl ?_
  refine jr.putf (i := 0) (x := x) rfl rfl (Nat.lt_trans (kx_52 k_t).1 (by decide)) (kx_52 k_t).2 (by decide) rfl rfl rfl rfl rfl ?_
  refine jr.aload_n rfl rfl ?_
  refine jr.iload_n rfl rfl ?_
  refine jr.putf (i := 1) (x := y) rfl rfl (Nat.lt_trans (kx_52 k_t).1 (by decide)) (kx_52 k_t).2 (by decide) rfl rfl rfl rfl rfl ?_
  refine jr.iconst rfl ?_
  refine jr.istore_n rfl (by decide) rfl ?_
  refine jr.pick [0, 1] rfl rfl ?_
  exact c_Row_renew_L12 k_t q 40 ((ju (ju M t 0 x) t 1 y)) 0 (CI.u (CI.u hC_M (i := 0) k_t (show (-2147483648 : Int) ≤ _ ∧ _ ≤ (2147483647 : Int) from by omega) rfl) (i := 1) k_t (show (0 : Int) ≤ _ ∧ _ ≤ (40 : Int) from by omega) rfl) (FR.o (FR.o ht_M k_t rfl) k_t rfl) (by omega)  (by omega)
noncomputable def W_c_Headers_isCut : List (Nat × Nat) := [(18, 4), (18, 5), (18, 6)]
theorem c_Headers_isCut {A : Nat → Option (Nat × (Nat → Int32))} {Q : Option Value → jm → Prop} {T : jm} {M : jm} (hC_M : CI M) (ht_M : FR W_c_Headers_isCut T M) {t : Nat} (k_t : kd t = 18) {x : Int} (h_x : (-2147483648) ≤ x ∧ x ≤ 2147483647) {y : Int} (h_y : (-2147483648) ≤ y ∧ y ≤ 2147483647) (q : ∀ (r : Int) (M' : jm), CI M' → FR W_c_Headers_isCut T M' → 0 ≤ r ∧ r ≤ 1 → ((r = 1 ∧ M' t 4 ≠ 0) ∨ (r = 0 ∧ M' t 4 = 0 ∧ y ≤ 400)) → Q (some (.int (Int32.ofInt r))) M') : jc A 2 126 [.ref (t), .int (Int32.ofInt (x)), .int (Int32.ofInt (y))] M Q := by
  refine jc_of (m := xm_126) rfl (Nat.le_of_ble_eq_true rfl) rfl ?_
  refine jr.iload_n rfl rfl ?_
  refine jr.aload_n rfl rfl ?_
  obtain ⟨v1, e1⟩ : ∃ z_, M t 7 = z_ := ⟨_, rfl⟩
  have b1 : 0 ≤ v1 ∧ v1 ≤ 597 := by rw [← e1]; exact (CI.r hC_M k_t (by decide) 7)
  have k2 : kd (v1).toNat = 33 := ((congrArg (fun z : Int => kd z.toNat) (show M t 7 = v1 from e1)).symm.trans (CI.x hC_M k_t 7 rfl (by decide)))
  refine jr.getf (i := 7) (x := v1) (v := .ref (v1.toNat)) rfl rfl (Nat.lt_trans (kx_18 k_t).1 (by decide)) (kx_18 k_t).2 (by decide) rfl rfl e1 (jval_mut rfl (kn_18_7 k_t)) ?_
  obtain ⟨v3, e3⟩ : ∃ z_, M ((v1.toNat)) 1 = z_ := ⟨_, rfl⟩
  have b3 : (-1) ≤ v3 ∧ v3 ≤ 400 := by rw [← e3]; exact (CI.r hC_M k2 (by decide) 1)
  refine jr.getf (i := 1) (x := v3) (v := .int (Int32.ofInt (v3))) rfl rfl (Nat.lt_trans (kx_33 k2).1 (by decide)) (kx_33 k2).2 (by decide) rfl rfl e3 rfl ?_
  refine jr.icmp_le rfl rfl (by omega) (by omega) (fun h8 => ?_) (fun h8 => ?_)
  · refine jr.aload_n rfl rfl ?_
    obtain ⟨v4, e4⟩ : ∃ z_, M t 4 = z_ := ⟨_, rfl⟩
    have b4 : (-2147483648) ≤ v4 ∧ v4 ≤ 2147483647 := by rw [← e4]; exact (CI.r hC_M k_t (by decide) 4)
    refine jr.getf (i := 4) (x := v4) (v := .int (Int32.ofInt (v4))) rfl rfl (Nat.lt_trans (kx_18 k_t).1 (by decide)) (kx_18 k_t).2 (by decide) rfl rfl e4 rfl ?_
    refine jr.if_eq rfl rfl (by omega) (fun h28 => ?_) (fun h28 => ?_)
    · refine jr.iconst rfl ?_
      exact jr.ireturn rfl rfl rfl (q _ _ hC_M ht_M (by omega) (by have hq0 : M t 4 = v4 := e4; omega))
    · refine jr.iconst rfl ?_
      refine jr.goto rfl rfl ?_
      exact jr.ireturn rfl rfl rfl (q _ _ hC_M ht_M (by omega) (by have hq0 : M t 4 = v4 := e4; omega))
  · refine jr.aload_n rfl rfl ?_
    refine jr.iconst rfl ?_
    refine jr.aload_n rfl rfl ?_
    have k5 : kd (v1).toNat = 33 := ((congrArg (fun z : Int => kd z.toNat) (show M t 7 = v1 from e1)).symm.trans (CI.x hC_M k_t 7 rfl (by decide)))
    refine jr.getf (i := 7) (x := v1) (v := .ref (v1.toNat)) rfl rfl (Nat.lt_trans (kx_18 k_t).1 (by decide)) (kx_18 k_t).2 (by decide) rfl rfl e1 (jval_mut rfl (kn_18_7 k_t)) ?_
    refine jr.getf (i := 1) (x := v3) (v := .int (Int32.ofInt (v3))) rfl rfl (Nat.lt_trans (kx_33 k5).1 (by decide)) (kx_33 k5).2 (by decide) rfl rfl e3 rfl ?_
    refine jr.iload_n rfl rfl ?_
    refine jr_v rfl rfl (Or.inl rfl) rfl rfl (Nat.lt_trans (kx_18 k_t).1 (by decide)) (kx_18 k_t).2 ⟨rfl, Nat.le_of_ble_eq_true rfl, Nat.le_of_ble_eq_true rfl⟩ rfl (jc.deep (c_Headers_find hC_M (FR.rfl _ M) k_t (by omega) (by omega) (by omega) (fun M6 hC_M6 hf_M6 w6_0 => ?_)) (by decide))
    have ht_M6 : FR W_c_Headers_isCut T M6 := FR.t ht_M hf_M6 (kw_sub rfl)
    obtain ⟨v7, e7⟩ : ∃ z_, M6 t 4 = z_ := ⟨_, rfl⟩
    have b7 : (-2147483648) ≤ v7 ∧ v7 ≤ 2147483647 := by rw [← e7]; exact (CI.r hC_M6 k_t (by decide) 4)
    refine jr.aload_n rfl rfl ?_
    refine jr.getf (i := 4) (x := v7) (v := .int (Int32.ofInt (v7))) rfl rfl (Nat.lt_trans (kx_18 k_t).1 (by decide)) (kx_18 k_t).2 (by decide) rfl rfl e7 rfl ?_
    refine jr.if_eq rfl rfl (by omega) (fun h28 => ?_) (fun h28 => ?_)
    · refine jr.iconst rfl ?_
      exact jr.ireturn rfl rfl rfl (q _ _ hC_M6 ht_M6 (by omega) (by have hq0 : M6 t 4 = v7 := e7; omega))
    · refine jr.iconst rfl ?_
      refine jr.goto rfl rfl ?_
      exact jr.ireturn rfl rfl rfl (q _ _ hC_M6 ht_M6 (by omega) (by have hq0 : M6 t 4 = v7 := e7; omega))
end
