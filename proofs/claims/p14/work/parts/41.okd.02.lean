theorem xcl_9 : (xD_9).1 = 12 ∧ xon 9 = "PacketWall$Parser" ∧ (∀ w ∈ u_ws "PacketWall$Parser" xF_9 12, w ∈ xTs) ∧ (∀ k, k < 12 → parseFieldDescriptor (xF_9 k).2.2.1 = some ((xD_9).2 k).1) ∧ (∀ k, k < 12 → (xF_9 k).2.2.2 = ((xD_9).2 k).2 ∧ (xF_9 k).1 = "PacketWall$Parser") ∧ (∀ a, a < 12 → ∀ b, b < 12 → a ≠ b → (xF_9 a).2.1 ≠ (xF_9 b).2.1) ∧ Cond.instantiable "PacketWall$Parser" 12 ∈ xTs ∧ Cond.initialized "PacketWall$Parser" ∈ xTs := by
  refine ⟨rfl, rfl, fun w hw => ?_, by decide +kernel, by decide +kernel, ?_, xat_ok (q := some (2, 18)) (by decide +kernel) rfl, xat_ok (q := some (1, 7)) (by decide +kernel) rfl⟩
  · obtain ⟨k, hk, rfl⟩ := List.mem_map.mp hw
    have h1 : (List.range 12).all (fun k => xat (xpL_9 k) (u_lay "PacketWall$Parser" xF_9 k) && goodWord (u_lay "PacketWall$Parser" xF_9 k)) = true := by decide +kernel
    have h2 := List.all_eq_true.mp h1 k hk
    rw [Bool.and_eq_true] at h2
    exact xat_ok h2.1 h2.2
  · have h1 : ((List.range 12).map (fun k => (xF_9 k).2.1)).Pairwise (· ≠ ·) := by decide +kernel
    have h2 := List.pairwise_iff_getElem.mp h1
    intro a ha b hb hab he
    rcases Nat.lt_or_gt_of_ne hab with q | q
    · have h3 := h2 a b (by simpa using ha) (by simpa using hb) q
      simp only [List.getElem_map, List.getElem_range] at h3
      exact h3 he
    · have h3 := h2 b a (by simpa using hb) (by simpa using ha) q
      simp only [List.getElem_map, List.getElem_range] at h3
      exact h3 he.symm
noncomputable def xpL_10 (k : Nat) : Option (Nat × Nat) := bif Nat.blt k 3 then (bif Nat.blt k 1 then (bif Nat.beq k 0 then some ((2, 46)) else none) else (bif Nat.blt k 2 then (bif Nat.beq k 1 then some ((2, 48)) else none) else (bif Nat.beq k 2 then some ((2, 50)) else none))) else (bif Nat.blt k 5 then (bif Nat.blt k 4 then (bif Nat.beq k 3 then some ((2, 52)) else none) else (bif Nat.beq k 4 then some ((2, 54)) else none)) else (bif Nat.blt k 6 then (bif Nat.beq k 5 then some ((2, 56)) else none) else (bif Nat.beq k 6 then some ((2, 58)) else none)))
theorem xcl_10 : (xD_10).1 = 7 ∧ xon 10 = "PacketWall$Program" ∧ (∀ w ∈ u_ws "PacketWall$Program" xF_10 7, w ∈ xTs) ∧ (∀ k, k < 7 → parseFieldDescriptor (xF_10 k).2.2.1 = some ((xD_10).2 k).1) ∧ (∀ k, k < 7 → (xF_10 k).2.2.2 = ((xD_10).2 k).2 ∧ (xF_10 k).1 = "PacketWall$Program") ∧ (∀ a, a < 7 → ∀ b, b < 7 → a ≠ b → (xF_10 a).2.1 ≠ (xF_10 b).2.1) ∧ Cond.instantiable "PacketWall$Program" 7 ∈ xTs ∧ Cond.initialized "PacketWall$Program" ∈ xTs := by
  refine ⟨rfl, rfl, fun w hw => ?_, by decide +kernel, by decide +kernel, ?_, xat_ok (q := some (2, 24)) (by decide +kernel) rfl, xat_ok (q := some (1, 8)) (by decide +kernel) rfl⟩
  · obtain ⟨k, hk, rfl⟩ := List.mem_map.mp hw
    have h1 : (List.range 7).all (fun k => xat (xpL_10 k) (u_lay "PacketWall$Program" xF_10 k) && goodWord (u_lay "PacketWall$Program" xF_10 k)) = true := by decide +kernel
    have h2 := List.all_eq_true.mp h1 k hk
    rw [Bool.and_eq_true] at h2
    exact xat_ok h2.1 h2.2
  · have h1 : ((List.range 7).map (fun k => (xF_10 k).2.1)).Pairwise (· ≠ ·) := by decide +kernel
    have h2 := List.pairwise_iff_getElem.mp h1
    intro a ha b hb hab he
    rcases Nat.lt_or_gt_of_ne hab with q | q
    · have h3 := h2 a b (by simpa using ha) (by simpa using hb) q
      simp only [List.getElem_map, List.getElem_range] at h3
      exact h3 he
    · have h3 := h2 b a (by simpa using hb) (by simpa using ha) q
      simp only [List.getElem_map, List.getElem_range] at h3
      exact h3 he.symm
noncomputable def xpL_11 (k : Nat) : Option (Nat × Nat) := bif Nat.blt k 2 then (bif Nat.blt k 1 then (bif Nat.beq k 0 then some ((2, 165)) else none) else (bif Nat.beq k 1 then some ((2, 167)) else none)) else (bif Nat.blt k 3 then (bif Nat.beq k 2 then some ((2, 169)) else none) else (bif Nat.beq k 3 then some ((2, 171)) else none))
theorem xcl_11 : (xD_11).1 = 4 ∧ xon 11 = "PacketWall$Row" ∧ (∀ w ∈ u_ws "PacketWall$Row" xF_11 4, w ∈ xTs) ∧ (∀ k, k < 4 → parseFieldDescriptor (xF_11 k).2.2.1 = some ((xD_11).2 k).1) ∧ (∀ k, k < 4 → (xF_11 k).2.2.2 = ((xD_11).2 k).2 ∧ (xF_11 k).1 = "PacketWall$Row") ∧ (∀ a, a < 4 → ∀ b, b < 4 → a ≠ b → (xF_11 a).2.1 ≠ (xF_11 b).2.1) ∧ Cond.instantiable "PacketWall$Row" 4 ∈ xTs ∧ Cond.initialized "PacketWall$Row" ∈ xTs := by
  refine ⟨rfl, rfl, fun w hw => ?_, by decide +kernel, by decide +kernel, ?_, xat_ok (q := some (2, 150)) (by decide +kernel) rfl, xat_ok (q := some (1, 11)) (by decide +kernel) rfl⟩
  · obtain ⟨k, hk, rfl⟩ := List.mem_map.mp hw
    have h1 : (List.range 4).all (fun k => xat (xpL_11 k) (u_lay "PacketWall$Row" xF_11 k) && goodWord (u_lay "PacketWall$Row" xF_11 k)) = true := by decide +kernel
    have h2 := List.all_eq_true.mp h1 k hk
    rw [Bool.and_eq_true] at h2
    exact xat_ok h2.1 h2.2
  · have h1 : ((List.range 4).map (fun k => (xF_11 k).2.1)).Pairwise (· ≠ ·) := by decide +kernel
    have h2 := List.pairwise_iff_getElem.mp h1
    intro a ha b hb hab he
    rcases Nat.lt_or_gt_of_ne hab with q | q
    · have h3 := h2 a b (by simpa using ha) (by simpa using hb) q
      simp only [List.getElem_map, List.getElem_range] at h3
      exact h3 he
    · have h3 := h2 b a (by simpa using hb) (by simpa using ha) q
      simp only [List.getElem_map, List.getElem_range] at h3
      exact h3 he.symm
noncomputable def xpL_12_0_0 (k : Nat) : Option (Nat × Nat) := bif Nat.blt k 4 then (bif Nat.blt k 2 then (bif Nat.blt k 1 then (bif Nat.beq k 0 then some ((8, 161)) else none) else (bif Nat.beq k 1 then some ((8, 163)) else none)) else (bif Nat.blt k 3 then (bif Nat.beq k 2 then some ((8, 165)) else none) else (bif Nat.beq k 3 then some ((8, 167)) else none))) else (bif Nat.blt k 6 then (bif Nat.blt k 5 then (bif Nat.beq k 4 then some ((8, 169)) else none) else (bif Nat.beq k 5 then some ((8, 171)) else none)) else (bif Nat.blt k 7 then (bif Nat.beq k 6 then some ((8, 173)) else none) else (bif Nat.beq k 7 then some ((8, 175)) else none)))
noncomputable def xpL_12_0_1 (k : Nat) : Option (Nat × Nat) := bif Nat.blt k 11 then (bif Nat.blt k 9 then (bif Nat.beq k 8 then some ((8, 177)) else none) else (bif Nat.blt k 10 then (bif Nat.beq k 9 then some ((8, 179)) else none) else (bif Nat.beq k 10 then some ((8, 181)) else none))) else (bif Nat.blt k 13 then (bif Nat.blt k 12 then (bif Nat.beq k 11 then some ((8, 183)) else none) else (bif Nat.beq k 12 then some ((8, 185)) else none)) else (bif Nat.blt k 14 then (bif Nat.beq k 13 then some ((8, 187)) else none) else (bif Nat.beq k 14 then some ((8, 189)) else none)))
noncomputable def xpL_12_0 (k : Nat) : Option (Nat × Nat) := bif Nat.blt k 8 then (xpL_12_0_0 k) else (xpL_12_0_1 k)
noncomputable def xpL_12_1_0 (k : Nat) : Option (Nat × Nat) := bif Nat.blt k 19 then (bif Nat.blt k 17 then (bif Nat.blt k 16 then (bif Nat.beq k 15 then some ((8, 191)) else none) else (bif Nat.beq k 16 then some ((8, 193)) else none)) else (bif Nat.blt k 18 then (bif Nat.beq k 17 then some ((8, 195)) else none) else (bif Nat.beq k 18 then some ((8, 197)) else none))) else (bif Nat.blt k 21 then (bif Nat.blt k 20 then (bif Nat.beq k 19 then some ((8, 199)) else none) else (bif Nat.beq k 20 then some ((8, 201)) else none)) else (bif Nat.blt k 22 then (bif Nat.beq k 21 then some ((8, 203)) else none) else (bif Nat.beq k 22 then some ((8, 205)) else none)))
noncomputable def xpL_12_1_1 (k : Nat) : Option (Nat × Nat) := bif Nat.blt k 26 then (bif Nat.blt k 24 then (bif Nat.beq k 23 then some ((8, 207)) else none) else (bif Nat.blt k 25 then (bif Nat.beq k 24 then some ((8, 209)) else none) else (bif Nat.beq k 25 then some ((8, 211)) else none))) else (bif Nat.blt k 28 then (bif Nat.blt k 27 then (bif Nat.beq k 26 then some ((8, 213)) else none) else (bif Nat.beq k 27 then some ((8, 215)) else none)) else (bif Nat.blt k 29 then (bif Nat.beq k 28 then some ((8, 217)) else none) else (bif Nat.beq k 29 then some ((8, 219)) else none)))
noncomputable def xpL_12_1 (k : Nat) : Option (Nat × Nat) := bif Nat.blt k 23 then (xpL_12_1_0 k) else (xpL_12_1_1 k)
noncomputable def xpL_12_2_0 (k : Nat) : Option (Nat × Nat) := bif Nat.blt k 34 then (bif Nat.blt k 32 then (bif Nat.blt k 31 then (bif Nat.beq k 30 then some ((8, 221)) else none) else (bif Nat.beq k 31 then some ((8, 223)) else none)) else (bif Nat.blt k 33 then (bif Nat.beq k 32 then some ((8, 225)) else none) else (bif Nat.beq k 33 then some ((8, 227)) else none))) else (bif Nat.blt k 36 then (bif Nat.blt k 35 then (bif Nat.beq k 34 then some ((8, 229)) else none) else (bif Nat.beq k 35 then some ((8, 231)) else none)) else (bif Nat.blt k 37 then (bif Nat.beq k 36 then some ((8, 233)) else none) else (bif Nat.beq k 37 then some ((8, 235)) else none)))
noncomputable def xpL_12_2_1 (k : Nat) : Option (Nat × Nat) := bif Nat.blt k 41 then (bif Nat.blt k 39 then (bif Nat.beq k 38 then some ((8, 237)) else none) else (bif Nat.blt k 40 then (bif Nat.beq k 39 then some ((8, 239)) else none) else (bif Nat.beq k 40 then some ((9, 1)) else none))) else (bif Nat.blt k 43 then (bif Nat.blt k 42 then (bif Nat.beq k 41 then some ((9, 3)) else none) else (bif Nat.beq k 42 then some ((9, 5)) else none)) else (bif Nat.blt k 44 then (bif Nat.beq k 43 then some ((9, 7)) else none) else (bif Nat.beq k 44 then some ((9, 9)) else none)))
noncomputable def xpL_12_2 (k : Nat) : Option (Nat × Nat) := bif Nat.blt k 38 then (xpL_12_2_0 k) else (xpL_12_2_1 k)
noncomputable def xpL_12_3_0 (k : Nat) : Option (Nat × Nat) := bif Nat.blt k 49 then (bif Nat.blt k 47 then (bif Nat.blt k 46 then (bif Nat.beq k 45 then some ((9, 11)) else none) else (bif Nat.beq k 46 then some ((9, 13)) else none)) else (bif Nat.blt k 48 then (bif Nat.beq k 47 then some ((9, 15)) else none) else (bif Nat.beq k 48 then some ((9, 17)) else none))) else (bif Nat.blt k 51 then (bif Nat.blt k 50 then (bif Nat.beq k 49 then some ((9, 19)) else none) else (bif Nat.beq k 50 then some ((9, 21)) else none)) else (bif Nat.blt k 52 then (bif Nat.beq k 51 then some ((9, 23)) else none) else (bif Nat.beq k 52 then some ((9, 25)) else none)))
noncomputable def xpL_12_3_1 (k : Nat) : Option (Nat × Nat) := bif Nat.blt k 56 then (bif Nat.blt k 54 then (bif Nat.beq k 53 then some ((9, 27)) else none) else (bif Nat.blt k 55 then (bif Nat.beq k 54 then some ((9, 29)) else none) else (bif Nat.beq k 55 then some ((9, 31)) else none))) else (bif Nat.blt k 58 then (bif Nat.blt k 57 then (bif Nat.beq k 56 then some ((9, 33)) else none) else (bif Nat.beq k 57 then some ((9, 35)) else none)) else (bif Nat.blt k 59 then (bif Nat.beq k 58 then some ((9, 37)) else none) else (bif Nat.beq k 59 then some ((9, 39)) else none)))
noncomputable def xpL_12_3 (k : Nat) : Option (Nat × Nat) := bif Nat.blt k 53 then (xpL_12_3_0 k) else (xpL_12_3_1 k)
noncomputable def xpL_12_4_0 (k : Nat) : Option (Nat × Nat) := bif Nat.blt k 64 then (bif Nat.blt k 62 then (bif Nat.blt k 61 then (bif Nat.beq k 60 then some ((9, 41)) else none) else (bif Nat.beq k 61 then some ((9, 43)) else none)) else (bif Nat.blt k 63 then (bif Nat.beq k 62 then some ((9, 45)) else none) else (bif Nat.beq k 63 then some ((9, 47)) else none))) else (bif Nat.blt k 66 then (bif Nat.blt k 65 then (bif Nat.beq k 64 then some ((9, 49)) else none) else (bif Nat.beq k 65 then some ((9, 51)) else none)) else (bif Nat.blt k 67 then (bif Nat.beq k 66 then some ((9, 53)) else none) else (bif Nat.beq k 67 then some ((9, 55)) else none)))
noncomputable def xpL_12_4_1 (k : Nat) : Option (Nat × Nat) := bif Nat.blt k 71 then (bif Nat.blt k 69 then (bif Nat.beq k 68 then some ((9, 57)) else none) else (bif Nat.blt k 70 then (bif Nat.beq k 69 then some ((9, 59)) else none) else (bif Nat.beq k 70 then some ((9, 61)) else none))) else (bif Nat.blt k 73 then (bif Nat.blt k 72 then (bif Nat.beq k 71 then some ((9, 63)) else none) else (bif Nat.beq k 72 then some ((9, 65)) else none)) else (bif Nat.blt k 74 then (bif Nat.beq k 73 then some ((9, 67)) else none) else (bif Nat.beq k 74 then some ((9, 69)) else none)))
