noncomputable def xpL_0_0 (k : Nat) : Option (Nat × Nat) := bif Nat.blt k 4 then (bif Nat.blt k 2 then (bif Nat.blt k 1 then (bif Nat.beq k 0 then some ((3, 36)) else none) else (bif Nat.beq k 1 then some ((3, 38)) else none)) else (bif Nat.blt k 3 then (bif Nat.beq k 2 then some ((3, 40)) else none) else (bif Nat.beq k 3 then some ((3, 42)) else none))) else (bif Nat.blt k 6 then (bif Nat.blt k 5 then (bif Nat.beq k 4 then some ((3, 44)) else none) else (bif Nat.beq k 5 then some ((3, 46)) else none)) else (bif Nat.blt k 7 then (bif Nat.beq k 6 then some ((3, 48)) else none) else (bif Nat.beq k 7 then some ((3, 50)) else none)))
noncomputable def xpL_0_1 (k : Nat) : Option (Nat × Nat) := bif Nat.blt k 11 then (bif Nat.blt k 9 then (bif Nat.beq k 8 then some ((3, 52)) else none) else (bif Nat.blt k 10 then (bif Nat.beq k 9 then some ((3, 54)) else none) else (bif Nat.beq k 10 then some ((3, 56)) else none))) else (bif Nat.blt k 13 then (bif Nat.blt k 12 then (bif Nat.beq k 11 then some ((3, 58)) else none) else (bif Nat.beq k 12 then some ((3, 60)) else none)) else (bif Nat.blt k 14 then (bif Nat.beq k 13 then some ((3, 62)) else none) else (bif Nat.beq k 14 then some ((3, 64)) else none)))
noncomputable def xpL_0 (k : Nat) : Option (Nat × Nat) := bif Nat.blt k 8 then (xpL_0_0 k) else (xpL_0_1 k)
theorem xcl_0 : (xD_0).1 = 15 ∧ xon 0 = "PacketWall" ∧ (∀ w ∈ u_ws "PacketWall" xF_0 15, w ∈ xTs) ∧ (∀ k, k < 15 → parseFieldDescriptor (xF_0 k).2.2.1 = some ((xD_0).2 k).1) ∧ (∀ k, k < 15 → (xF_0 k).2.2.2 = ((xD_0).2 k).2 ∧ (xF_0 k).1 = "PacketWall") ∧ (∀ a, a < 15 → ∀ b, b < 15 → a ≠ b → (xF_0 a).2.1 ≠ (xF_0 b).2.1) ∧ Cond.instantiable "PacketWall" 15 ∈ xTs ∧ Cond.initialized "PacketWall" ∈ xTs := by
  refine ⟨rfl, rfl, fun w hw => ?_, by decide +kernel, by decide +kernel, ?_, xat_ok (q := some (1, 22)) (by decide +kernel) rfl, xat_ok (q := some (1, 1)) (by decide +kernel) rfl⟩
  · obtain ⟨k, hk, rfl⟩ := List.mem_map.mp hw
    have h1 : (List.range 15).all (fun k => xat (xpL_0 k) (u_lay "PacketWall" xF_0 k) && goodWord (u_lay "PacketWall" xF_0 k)) = true := by decide +kernel
    have h2 := List.all_eq_true.mp h1 k hk
    rw [Bool.and_eq_true] at h2
    exact xat_ok h2.1 h2.2
  · have h1 : ((List.range 15).map (fun k => (xF_0 k).2.1)).Pairwise (· ≠ ·) := by decide +kernel
    have h2 := List.pairwise_iff_getElem.mp h1
    intro a ha b hb hab he
    rcases Nat.lt_or_gt_of_ne hab with q | q
    · have h3 := h2 a b (by simpa using ha) (by simpa using hb) q
      simp only [List.getElem_map, List.getElem_range] at h3
      exact h3 he
    · have h3 := h2 b a (by simpa using hb) (by simpa using ha) q
      simp only [List.getElem_map, List.getElem_range] at h3
      exact h3 he.symm
noncomputable def xpL_1_0 (k : Nat) : Option (Nat × Nat) := bif Nat.blt k 4 then (bif Nat.blt k 2 then (bif Nat.blt k 1 then (bif Nat.beq k 0 then some ((1, 193)) else none) else (bif Nat.beq k 1 then some ((1, 195)) else none)) else (bif Nat.blt k 3 then (bif Nat.beq k 2 then some ((1, 197)) else none) else (bif Nat.beq k 3 then some ((1, 199)) else none))) else (bif Nat.blt k 6 then (bif Nat.blt k 5 then (bif Nat.beq k 4 then some ((1, 201)) else none) else (bif Nat.beq k 5 then some ((1, 203)) else none)) else (bif Nat.blt k 7 then (bif Nat.beq k 6 then some ((1, 205)) else none) else (bif Nat.beq k 7 then some ((1, 207)) else none)))
noncomputable def xpL_1_1 (k : Nat) : Option (Nat × Nat) := bif Nat.blt k 12 then (bif Nat.blt k 10 then (bif Nat.blt k 9 then (bif Nat.beq k 8 then some ((1, 209)) else none) else (bif Nat.beq k 9 then some ((1, 211)) else none)) else (bif Nat.blt k 11 then (bif Nat.beq k 10 then some ((1, 213)) else none) else (bif Nat.beq k 11 then some ((1, 215)) else none))) else (bif Nat.blt k 14 then (bif Nat.blt k 13 then (bif Nat.beq k 12 then some ((1, 217)) else none) else (bif Nat.beq k 13 then some ((1, 219)) else none)) else (bif Nat.blt k 15 then (bif Nat.beq k 14 then some ((1, 221)) else none) else (bif Nat.beq k 15 then some ((1, 223)) else none)))
noncomputable def xpL_1 (k : Nat) : Option (Nat × Nat) := bif Nat.blt k 8 then (xpL_1_0 k) else (xpL_1_1 k)
theorem xcl_1 : (xD_1).1 = 16 ∧ xon 1 = "PacketWall$Flow" ∧ (∀ w ∈ u_ws "PacketWall$Flow" xF_1 16, w ∈ xTs) ∧ (∀ k, k < 16 → parseFieldDescriptor (xF_1 k).2.2.1 = some ((xD_1).2 k).1) ∧ (∀ k, k < 16 → (xF_1 k).2.2.2 = ((xD_1).2 k).2 ∧ (xF_1 k).1 = "PacketWall$Flow") ∧ (∀ a, a < 16 → ∀ b, b < 16 → a ≠ b → (xF_1 a).2.1 ≠ (xF_1 b).2.1) ∧ Cond.instantiable "PacketWall$Flow" 16 ∈ xTs ∧ Cond.initialized "PacketWall$Flow" ∈ xTs := by
  refine ⟨rfl, rfl, fun w hw => ?_, by decide +kernel, by decide +kernel, ?_, xat_ok (q := some (1, 161)) (by decide +kernel) rfl, xat_ok (q := some (1, 6)) (by decide +kernel) rfl⟩
  · obtain ⟨k, hk, rfl⟩ := List.mem_map.mp hw
    have h1 : (List.range 16).all (fun k => xat (xpL_1 k) (u_lay "PacketWall$Flow" xF_1 k) && goodWord (u_lay "PacketWall$Flow" xF_1 k)) = true := by decide +kernel
    have h2 := List.all_eq_true.mp h1 k hk
    rw [Bool.and_eq_true] at h2
    exact xat_ok h2.1 h2.2
  · have h1 : ((List.range 16).map (fun k => (xF_1 k).2.1)).Pairwise (· ≠ ·) := by decide +kernel
    have h2 := List.pairwise_iff_getElem.mp h1
    intro a ha b hb hab he
    rcases Nat.lt_or_gt_of_ne hab with q | q
    · have h3 := h2 a b (by simpa using ha) (by simpa using hb) q
      simp only [List.getElem_map, List.getElem_range] at h3
      exact h3 he
    · have h3 := h2 b a (by simpa using hb) (by simpa using ha) q
      simp only [List.getElem_map, List.getElem_range] at h3
      exact h3 he.symm
noncomputable def xpL_2 (k : Nat) : Option (Nat × Nat) := bif Nat.blt k 4 then (bif Nat.blt k 2 then (bif Nat.blt k 1 then (bif Nat.beq k 0 then some ((1, 238)) else none) else (bif Nat.beq k 1 then some ((2, 0)) else none)) else (bif Nat.blt k 3 then (bif Nat.beq k 2 then some ((2, 2)) else none) else (bif Nat.beq k 3 then some ((2, 4)) else none))) else (bif Nat.blt k 6 then (bif Nat.blt k 5 then (bif Nat.beq k 4 then some ((2, 6)) else none) else (bif Nat.beq k 5 then some ((2, 8)) else none)) else (bif Nat.blt k 7 then (bif Nat.beq k 6 then some ((2, 10)) else none) else (bif Nat.blt k 8 then (bif Nat.beq k 7 then some ((2, 12)) else none) else (bif Nat.beq k 8 then some ((2, 14)) else none))))
theorem xcl_2 : (xD_2).1 = 9 ∧ xon 2 = "PacketWall$Flows" ∧ (∀ w ∈ u_ws "PacketWall$Flows" xF_2 9, w ∈ xTs) ∧ (∀ k, k < 9 → parseFieldDescriptor (xF_2 k).2.2.1 = some ((xD_2).2 k).1) ∧ (∀ k, k < 9 → (xF_2 k).2.2.2 = ((xD_2).2 k).2 ∧ (xF_2 k).1 = "PacketWall$Flows") ∧ (∀ a, a < 9 → ∀ b, b < 9 → a ≠ b → (xF_2 a).2.1 ≠ (xF_2 b).2.1) ∧ Cond.instantiable "PacketWall$Flows" 9 ∈ xTs ∧ Cond.initialized "PacketWall$Flows" ∈ xTs := by
  refine ⟨rfl, rfl, fun w hw => ?_, by decide +kernel, by decide +kernel, ?_, xat_ok (q := some (1, 154)) (by decide +kernel) rfl, xat_ok (q := some (1, 5)) (by decide +kernel) rfl⟩
  · obtain ⟨k, hk, rfl⟩ := List.mem_map.mp hw
    have h1 : (List.range 9).all (fun k => xat (xpL_2 k) (u_lay "PacketWall$Flows" xF_2 k) && goodWord (u_lay "PacketWall$Flows" xF_2 k)) = true := by decide +kernel
    have h2 := List.all_eq_true.mp h1 k hk
    rw [Bool.and_eq_true] at h2
    exact xat_ok h2.1 h2.2
  · have h1 : ((List.range 9).map (fun k => (xF_2 k).2.1)).Pairwise (· ≠ ·) := by decide +kernel
    have h2 := List.pairwise_iff_getElem.mp h1
    intro a ha b hb hab he
    rcases Nat.lt_or_gt_of_ne hab with q | q
    · have h3 := h2 a b (by simpa using ha) (by simpa using hb) q
      simp only [List.getElem_map, List.getElem_range] at h3
      exact h3 he
    · have h3 := h2 b a (by simpa using hb) (by simpa using ha) q
      simp only [List.getElem_map, List.getElem_range] at h3
      exact h3 he.symm
noncomputable def xpL_3 (k : Nat) : Option (Nat × Nat) := bif Nat.blt k 2 then (bif Nat.blt k 1 then (bif Nat.beq k 0 then some ((2, 186)) else none) else (bif Nat.beq k 1 then some ((2, 188)) else none)) else (bif Nat.blt k 3 then (bif Nat.beq k 2 then some ((2, 190)) else none) else (bif Nat.beq k 3 then some ((2, 192)) else none))
theorem xcl_3 : (xD_3).1 = 4 ∧ xon 3 = "PacketWall$Frame" ∧ (∀ w ∈ u_ws "PacketWall$Frame" xF_3 4, w ∈ xTs) ∧ (∀ k, k < 4 → parseFieldDescriptor (xF_3 k).2.2.1 = some ((xD_3).2 k).1) ∧ (∀ k, k < 4 → (xF_3 k).2.2.2 = ((xD_3).2 k).2 ∧ (xF_3 k).1 = "PacketWall$Frame") ∧ (∀ a, a < 4 → ∀ b, b < 4 → a ≠ b → (xF_3 a).2.1 ≠ (xF_3 b).2.1) ∧ Cond.instantiable "PacketWall$Frame" 4 ∈ xTs ∧ Cond.initialized "PacketWall$Frame" ∈ xTs := by
  refine ⟨rfl, rfl, fun w hw => ?_, by decide +kernel, by decide +kernel, ?_, xat_ok (q := some (2, 174)) (by decide +kernel) rfl, xat_ok (q := some (1, 12)) (by decide +kernel) rfl⟩
  · obtain ⟨k, hk, rfl⟩ := List.mem_map.mp hw
    have h1 : (List.range 4).all (fun k => xat (xpL_3 k) (u_lay "PacketWall$Frame" xF_3 k) && goodWord (u_lay "PacketWall$Frame" xF_3 k)) = true := by decide +kernel
    have h2 := List.all_eq_true.mp h1 k hk
    rw [Bool.and_eq_true] at h2
    exact xat_ok h2.1 h2.2
  · have h1 : ((List.range 4).map (fun k => (xF_3 k).2.1)).Pairwise (· ≠ ·) := by decide +kernel
    have h2 := List.pairwise_iff_getElem.mp h1
    intro a ha b hb hab he
    rcases Nat.lt_or_gt_of_ne hab with q | q
    · have h3 := h2 a b (by simpa using ha) (by simpa using hb) q
      simp only [List.getElem_map, List.getElem_range] at h3
      exact h3 he
    · have h3 := h2 b a (by simpa using hb) (by simpa using ha) q
      simp only [List.getElem_map, List.getElem_range] at h3
      exact h3 he.symm
noncomputable def xpL_4_0 (k : Nat) : Option (Nat × Nat) := bif Nat.blt k 3 then (bif Nat.blt k 1 then (bif Nat.beq k 0 then some ((1, 124)) else none) else (bif Nat.blt k 2 then (bif Nat.beq k 1 then some ((1, 126)) else none) else (bif Nat.beq k 2 then some ((1, 128)) else none))) else (bif Nat.blt k 5 then (bif Nat.blt k 4 then (bif Nat.beq k 3 then some ((1, 130)) else none) else (bif Nat.beq k 4 then some ((1, 132)) else none)) else (bif Nat.blt k 6 then (bif Nat.beq k 5 then some ((1, 134)) else none) else (bif Nat.beq k 6 then some ((1, 136)) else none)))
noncomputable def xpL_4_1 (k : Nat) : Option (Nat × Nat) := bif Nat.blt k 10 then (bif Nat.blt k 8 then (bif Nat.beq k 7 then some ((1, 138)) else none) else (bif Nat.blt k 9 then (bif Nat.beq k 8 then some ((1, 140)) else none) else (bif Nat.beq k 9 then some ((1, 142)) else none))) else (bif Nat.blt k 12 then (bif Nat.blt k 11 then (bif Nat.beq k 10 then some ((1, 144)) else none) else (bif Nat.beq k 11 then some ((1, 146)) else none)) else (bif Nat.blt k 13 then (bif Nat.beq k 12 then some ((1, 148)) else none) else (bif Nat.beq k 13 then some ((1, 150)) else none)))
noncomputable def xpL_4 (k : Nat) : Option (Nat × Nat) := bif Nat.blt k 7 then (xpL_4_0 k) else (xpL_4_1 k)
