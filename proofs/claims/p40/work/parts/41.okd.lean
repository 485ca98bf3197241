noncomputable def xpL_0_0 (k : Nat) : Option (Nat × Nat) := bif Nat.blt k 4 then (bif Nat.blt k 2 then (bif Nat.blt k 1 then (bif Nat.beq k 0 then some ((3, 36)) else none) else (bif Nat.beq k 1 then some ((3, 38)) else none)) else (bif Nat.blt k 3 then (bif Nat.beq k 2 then some ((3, 40)) else none) else (bif Nat.beq k 3 then some ((3, 42)) else none))) else (bif Nat.blt k 6 then (bif Nat.blt k 5 then (bif Nat.beq k 4 then some ((3, 44)) else none) else (bif Nat.beq k 5 then some ((3, 46)) else none)) else (bif Nat.blt k 7 then (bif Nat.beq k 6 then some ((3, 48)) else none) else (bif Nat.beq k 7 then some ((3, 50)) else none)))
noncomputable def xpL_0_1 (k : Nat) : Option (Nat × Nat) := bif Nat.blt k 11 then (bif Nat.blt k 9 then (bif Nat.beq k 8 then some ((3, 52)) else none) else (bif Nat.blt k 10 then (bif Nat.beq k 9 then some ((3, 54)) else none) else (bif Nat.beq k 10 then some ((3, 56)) else none))) else (bif Nat.blt k 13 then (bif Nat.blt k 12 then (bif Nat.beq k 11 then some ((3, 58)) else none) else (bif Nat.beq k 12 then some ((3, 60)) else none)) else (bif Nat.blt k 14 then (bif Nat.beq k 13 then some ((3, 62)) else none) else (bif Nat.beq k 14 then some ((3, 64)) else none)))
noncomputable def xpL_0 (k : Nat) : Option (Nat × Nat) := bif Nat.blt k 8 then (xpL_0_0 k) else (xpL_0_1 k)
theorem xcl_0 : (xD_0).1 = 15 ∧ xon 0 = "PacketWall" ∧ (∀ w ∈ u_ws "PacketWall" xF_0 15, w ∈ xTs) ∧ (∀ k, k < 15 → parseFieldDescriptor (xF_0 k).2.2.1 = some ((xD_0).2 k).1) ∧ (∀ k, k < 15 → (xF_0 k).2.2.2 = ((xD_0).2 k).2 ∧ (xF_0 k).1 = "PacketWall") ∧ (∀ a, a < 15 → ∀ b, b < 15 → a ≠ b → (xF_0 a).2.1 ≠ (xF_0 b).2.1) ∧ Cond.instantiable "PacketWall" 15 ∈ xTs ∧ Cond.initialized "PacketWall" ∈ xTs := by
  refine ⟨rfl, rfl, fun w hw => ?_, by decide +kernel, by decide +kernel, ?_, xat_ok (q := some (1, 22)) (by decide +kernel) rfl, xat_ok (q := some (1, 1)) (by decide +kernel) rfl⟩
  · obtain ⟨k, hk, rfl⟩ := List.mem_map.mp hw
    have h1 : (List.range 15).all (fun k => xat (xpL_0 k) (u_lay "PacketWall" xF_0 k) && goodWord (u_lay "PacketWall" xF_0 k)) = true := by decide +kernel
    have h2 := List.all_eq_true.mp h1 k hk
    rw [Bool.and_eq_true] at h2
    exact xat_ok h2.1 h2.2
  · have h1 : ((List.range 15).map (fun k => (xF_0 k).2.1)).Pairwise (· ≠ ·) := by decide +kernel
    have h2 := List.pairwise_iff_getElem.mp h1
    intro a ha b hb hab he
    rcases Nat.lt_or_gt_of_ne hab with q | q
    · have h3 := h2 a b (by simpa using ha) (by simpa using hb) q
      simp only [List.getElem_map, List.getElem_range] at h3
      exact h3 he
    · have h3 := h2 b a (by simpa using hb) (by simpa using ha) q
      simp only [List.getElem_map, List.getElem_range] at h3
      exact h3 he.symm
noncomputable def xpL_1_0 (k : Nat) : Option (Nat × Nat) := bif Nat.blt k 4 then (bif Nat.blt k 2 then (bif Nat.blt k 1 then (bif Nat.beq k 0 then some ((1, 193)) else none) else (bif Nat.beq k 1 then some ((1, 195)) else none)) else (bif Nat.blt k 3 then (bif Nat.beq k 2 then some ((1, 197)) else none) else (bif Nat.beq k 3 then some ((1, 199)) else none))) else (bif Nat.blt k 6 then (bif Nat.blt k 5 then (bif Nat.beq k 4 then some ((1, 201)) else none) else (bif Nat.beq k 5 then some ((1, 203)) else none)) else (bif Nat.blt k 7 then (bif Nat.beq k 6 then some ((1, 205)) else none) else (bif Nat.beq k 7 then some ((1, 207)) else none)))
noncomputable def xpL_1_1 (k : Nat) : Option (Nat × Nat) := bif Nat.blt k 12 then (bif Nat.blt k 10 then (bif Nat.blt k 9 then (bif Nat.beq k 8 then some ((1, 209)) else none) else (bif Nat.beq k 9 then some ((1, 211)) else none)) else (bif Nat.blt k 11 then (bif Nat.beq k 10 then some ((1, 213)) else none) else (bif Nat.beq k 11 then some ((1, 215)) else none))) else (bif Nat.blt k 14 then (bif Nat.blt k 13 then (bif Nat.beq k 12 then some ((1, 217)) else none) else (bif Nat.beq k 13 then some ((1, 219)) else none)) else (bif Nat.blt k 15 then (bif Nat.beq k 14 then some ((1, 221)) else none) else (bif Nat.beq k 15 then some ((1, 223)) else none)))
noncomputable def xpL_1 (k : Nat) : Option (Nat × Nat) := bif Nat.blt k 8 then (xpL_1_0 k) else (xpL_1_1 k)
theorem xcl_1 : (xD_1).1 = 16 ∧ xon 1 = "PacketWall$Flow" ∧ (∀ w ∈ u_ws "PacketWall$Flow" xF_1 16, w ∈ xTs) ∧ (∀ k, k < 16 → parseFieldDescriptor (xF_1 k).2.2.1 = some ((xD_1).2 k).1) ∧ (∀ k, k < 16 → (xF_1 k).2.2.2 = ((xD_1).2 k).2 ∧ (xF_1 k).1 = "PacketWall$Flow") ∧ (∀ a, a < 16 → ∀ b, b < 16 → a ≠ b → (xF_1 a).2.1 ≠ (xF_1 b).2.1) ∧ Cond.instantiable "PacketWall$Flow" 16 ∈ xTs ∧ Cond.initialized "PacketWall$Flow" ∈ xTs := by
  refine ⟨rfl, rfl, fun w hw => ?_, by decide +kernel, by decide +kernel, ?_, xat_ok (q := some (1, 161)) (by decide +kernel) rfl, xat_ok (q := some (1, 6)) (by decide +kernel) rfl⟩
  · obtain ⟨k, hk, rfl⟩ := List.mem_map.mp hw
    have h1 : (List.range 16).all (fun k => xat (xpL_1 k) (u_lay "PacketWall$Flow" xF_1 k) && goodWord (u_lay "PacketWall$Flow" xF_1 k)) = true := by decide +kernel
    have h2 := List.all_eq_true.mp h1 k hk
    rw [Bool.and_eq_true] at h2
    exact xat_ok h2.1 h2.2
  · have h1 : ((List.range 16).map (fun k => (xF_1 k).2.1)).Pairwise (· ≠ ·) := by decide +kernel
    have h2 := List.pairwise_iff_getElem.mp h1
    intro a ha b hb hab he
    rcases Nat.lt_or_gt_of_ne hab with q | q
    · have h3 := h2 a b (by simpa using ha) (by simpa using hb) q
      simp only [List.getElem_map, List.getElem_range] at h3
      exact h3 he
    · have h3 := h2 b a (by simpa using hb) (by simpa using ha) q
      simp only [List.getElem_map, List.getElem_range] at h3
      exact h3 he.symm
noncomputable def xpL_2 (k : Nat) : Option (Nat × Nat) := bif Nat.blt k 4 then (bif Nat.blt k 2 then (bif Nat.blt k 1 then (bif Nat.beq k 0 then some ((1, 238)) else none) else (bif Nat.beq k 1 then some ((2, 0)) else none)) else (bif Nat.blt k 3 then (bif Nat.beq k 2 then some ((2, 2)) else none) else (bif Nat.beq k 3 then some ((2, 4)) else none))) else (bif Nat.blt k 6 then (bif Nat.blt k 5 then (bif Nat.beq k 4 then some ((2, 6)) else none) else (bif Nat.beq k 5 then some ((2, 8)) else none)) else (bif Nat.blt k 7 then (bif Nat.beq k 6 then some ((2, 10)) else none) else (bif Nat.blt k 8 then (bif Nat.beq k 7 then some ((2, 12)) else none) else (bif Nat.beq k 8 then some ((2, 14)) else none))))
theorem xcl_2 : (xD_2).1 = 9 ∧ xon 2 = "PacketWall$Flows" ∧ (∀ w ∈ u_ws "PacketWall$Flows" xF_2 9, w ∈ xTs) ∧ (∀ k, k < 9 → parseFieldDescriptor (xF_2 k).2.2.1 = some ((xD_2).2 k).1) ∧ (∀ k, k < 9 → (xF_2 k).2.2.2 = ((xD_2).2 k).2 ∧ (xF_2 k).1 = "PacketWall$Flows") ∧ (∀ a, a < 9 → ∀ b, b < 9 → a ≠ b → (xF_2 a).2.1 ≠ (xF_2 b).2.1) ∧ Cond.instantiable "PacketWall$Flows" 9 ∈ xTs ∧ Cond.initialized "PacketWall$Flows" ∈ xTs := by
  refine ⟨rfl, rfl, fun w hw => ?_, by decide +kernel, by decide +kernel, ?_, xat_ok (q := some (1, 154)) (by decide +kernel) rfl, xat_ok (q := some (1, 5)) (by decide +kernel) rfl⟩
  · obtain ⟨k, hk, rfl⟩ := List.mem_map.mp hw
    have h1 : (List.range 9).all (fun k => xat (xpL_2 k) (u_lay "PacketWall$Flows" xF_2 k) && goodWord (u_lay "PacketWall$Flows" xF_2 k)) = true := by decide +kernel
    have h2 := List.all_eq_true.mp h1 k hk
    rw [Bool.and_eq_true] at h2
    exact xat_ok h2.1 h2.2
  · have h1 : ((List.range 9).map (fun k => (xF_2 k).2.1)).Pairwise (· ≠ ·) := by decide +kernel
    have h2 := List.pairwise_iff_getElem.mp h1
    intro a ha b hb hab he
    rcases Nat.lt_or_gt_of_ne hab with q | q
    · have h3 := h2 a b (by simpa using ha) (by simpa using hb) q
      simp only [List.getElem_map, List.getElem_range] at h3
      exact h3 he
    · have h3 := h2 b a (by simpa using hb) (by simpa using ha) q
      simp only [List.getElem_map, List.getElem_range] at h3
      exact h3 he.symm
noncomputable def xpL_3 (k : Nat) : Option (Nat × Nat) := bif Nat.blt k 2 then (bif Nat.blt k 1 then (bif Nat.beq k 0 then some ((2, 186)) else none) else (bif Nat.beq k 1 then some ((2, 188)) else none)) else (bif Nat.blt k 3 then (bif Nat.beq k 2 then some ((2, 190)) else none) else (bif Nat.beq k 3 then some ((2, 192)) else none))
theorem xcl_3 : (xD_3).1 = 4 ∧ xon 3 = "PacketWall$Frame" ∧ (∀ w ∈ u_ws "PacketWall$Frame" xF_3 4, w ∈ xTs) ∧ (∀ k, k < 4 → parseFieldDescriptor (xF_3 k).2.2.1 = some ((xD_3).2 k).1) ∧ (∀ k, k < 4 → (xF_3 k).2.2.2 = ((xD_3).2 k).2 ∧ (xF_3 k).1 = "PacketWall$Frame") ∧ (∀ a, a < 4 → ∀ b, b < 4 → a ≠ b → (xF_3 a).2.1 ≠ (xF_3 b).2.1) ∧ Cond.instantiable "PacketWall$Frame" 4 ∈ xTs ∧ Cond.initialized "PacketWall$Frame" ∈ xTs := by
  refine ⟨rfl, rfl, fun w hw => ?_, by decide +kernel, by decide +kernel, ?_, xat_ok (q := some (2, 174)) (by decide +kernel) rfl, xat_ok (q := some (1, 12)) (by decide +kernel) rfl⟩
  · obtain ⟨k, hk, rfl⟩ := List.mem_map.mp hw
    have h1 : (List.range 4).all (fun k => xat (xpL_3 k) (u_lay "PacketWall$Frame" xF_3 k) && goodWord (u_lay "PacketWall$Frame" xF_3 k)) = true := by decide +kernel
    have h2 := List.all_eq_true.mp h1 k hk
    rw [Bool.and_eq_true] at h2
    exact xat_ok h2.1 h2.2
  · have h1 : ((List.range 4).map (fun k => (xF_3 k).2.1)).Pairwise (· ≠ ·) := by decide +kernel
    have h2 := List.pairwise_iff_getElem.mp h1
    intro a ha b hb hab he
    rcases Nat.lt_or_gt_of_ne hab with q | q
    · have h3 := h2 a b (by simpa using ha) (by simpa using hb) q
      simp only [List.getElem_map, List.getElem_range] at h3
      exact h3 he
    · have h3 := h2 b a (by simpa using hb) (by simpa using ha) q
      simp only [List.getElem_map, List.getElem_range] at h3
      exact h3 he.symm
noncomputable def xpL_4_0 (k : Nat) : Option (Nat × Nat) := bif Nat.blt k 3 then (bif Nat.blt k 1 then (bif Nat.beq k 0 then some ((1, 124)) else none) else (bif Nat.blt k 2 then (bif Nat.beq k 1 then some ((1, 126)) else none) else (bif Nat.beq k 2 then some ((1, 128)) else none))) else (bif Nat.blt k 5 then (bif Nat.blt k 4 then (bif Nat.beq k 3 then some ((1, 130)) else none) else (bif Nat.beq k 4 then some ((1, 132)) else none)) else (bif Nat.blt k 6 then (bif Nat.beq k 5 then some ((1, 134)) else none) else (bif Nat.beq k 6 then some ((1, 136)) else none)))
noncomputable def xpL_4_1 (k : Nat) : Option (Nat × Nat) := bif Nat.blt k 10 then (bif Nat.blt k 8 then (bif Nat.beq k 7 then some ((1, 138)) else none) else (bif Nat.blt k 9 then (bif Nat.beq k 8 then some ((1, 140)) else none) else (bif Nat.beq k 9 then some ((1, 142)) else none))) else (bif Nat.blt k 12 then (bif Nat.blt k 11 then (bif Nat.beq k 10 then some ((1, 144)) else none) else (bif Nat.beq k 11 then some ((1, 146)) else none)) else (bif Nat.blt k 13 then (bif Nat.beq k 12 then some ((1, 148)) else none) else (bif Nat.beq k 13 then some ((1, 150)) else none)))
noncomputable def xpL_4 (k : Nat) : Option (Nat × Nat) := bif Nat.blt k 7 then (xpL_4_0 k) else (xpL_4_1 k)
theorem xcl_4 : (xD_4).1 = 14 ∧ xon 4 = "PacketWall$Gathering" ∧ (∀ w ∈ u_ws "PacketWall$Gathering" xF_4 14, w ∈ xTs) ∧ (∀ k, k < 14 → parseFieldDescriptor (xF_4 k).2.2.1 = some ((xD_4).2 k).1) ∧ (∀ k, k < 14 → (xF_4 k).2.2.2 = ((xD_4).2 k).2 ∧ (xF_4 k).1 = "PacketWall$Gathering") ∧ (∀ a, a < 14 → ∀ b, b < 14 → a ≠ b → (xF_4 a).2.1 ≠ (xF_4 b).2.1) ∧ Cond.instantiable "PacketWall$Gathering" 14 ∈ xTs ∧ Cond.initialized "PacketWall$Gathering" ∈ xTs := by
  refine ⟨rfl, rfl, fun w hw => ?_, by decide +kernel, by decide +kernel, ?_, xat_ok (q := some (1, 102)) (by decide +kernel) rfl, xat_ok (q := some (1, 4)) (by decide +kernel) rfl⟩
  · obtain ⟨k, hk, rfl⟩ := List.mem_map.mp hw
    have h1 : (List.range 14).all (fun k => xat (xpL_4 k) (u_lay "PacketWall$Gathering" xF_4 k) && goodWord (u_lay "PacketWall$Gathering" xF_4 k)) = true := by decide +kernel
    have h2 := List.all_eq_true.mp h1 k hk
    rw [Bool.and_eq_true] at h2
    exact xat_ok h2.1 h2.2
  · have h1 : ((List.range 14).map (fun k => (xF_4 k).2.1)).Pairwise (· ≠ ·) := by decide +kernel
    have h2 := List.pairwise_iff_getElem.mp h1
    intro a ha b hb hab he
    rcases Nat.lt_or_gt_of_ne hab with q | q
    · have h3 := h2 a b (by simpa using ha) (by simpa using hb) q
      simp only [List.getElem_map, List.getElem_range] at h3
      exact h3 he
    · have h3 := h2 b a (by simpa using hb) (by simpa using ha) q
      simp only [List.getElem_map, List.getElem_range] at h3
      exact h3 he.symm
noncomputable def xpL_5 (k : Nat) : Option (Nat × Nat) := bif Nat.blt k 4 then (bif Nat.blt k 2 then (bif Nat.blt k 1 then (bif Nat.beq k 0 then some ((1, 83)) else none) else (bif Nat.beq k 1 then some ((1, 85)) else none)) else (bif Nat.blt k 3 then (bif Nat.beq k 2 then some ((1, 87)) else none) else (bif Nat.beq k 3 then some ((1, 89)) else none))) else (bif Nat.blt k 6 then (bif Nat.blt k 5 then (bif Nat.beq k 4 then some ((1, 91)) else none) else (bif Nat.beq k 5 then some ((1, 93)) else none)) else (bif Nat.blt k 7 then (bif Nat.beq k 6 then some ((1, 95)) else none) else (bif Nat.beq k 7 then some ((1, 97)) else none)))
theorem xcl_5 : (xD_5).1 = 8 ∧ xon 5 = "PacketWall$Headers" ∧ (∀ w ∈ u_ws "PacketWall$Headers" xF_5 8, w ∈ xTs) ∧ (∀ k, k < 8 → parseFieldDescriptor (xF_5 k).2.2.1 = some ((xD_5).2 k).1) ∧ (∀ k, k < 8 → (xF_5 k).2.2.2 = ((xD_5).2 k).2 ∧ (xF_5 k).1 = "PacketWall$Headers") ∧ (∀ a, a < 8 → ∀ b, b < 8 → a ≠ b → (xF_5 a).2.1 ≠ (xF_5 b).2.1) ∧ Cond.instantiable "PacketWall$Headers" 8 ∈ xTs ∧ Cond.initialized "PacketWall$Headers" ∈ xTs := by
  refine ⟨rfl, rfl, fun w hw => ?_, by decide +kernel, by decide +kernel, ?_, xat_ok (q := some (1, 32)) (by decide +kernel) rfl, xat_ok (q := some (1, 2)) (by decide +kernel) rfl⟩
  · obtain ⟨k, hk, rfl⟩ := List.mem_map.mp hw
    have h1 : (List.range 8).all (fun k => xat (xpL_5 k) (u_lay "PacketWall$Headers" xF_5 k) && goodWord (u_lay "PacketWall$Headers" xF_5 k)) = true := by decide +kernel
    have h2 := List.all_eq_true.mp h1 k hk
    rw [Bool.and_eq_true] at h2
    exact xat_ok h2.1 h2.2
  · have h1 : ((List.range 8).map (fun k => (xF_5 k).2.1)).Pairwise (· ≠ ·) := by decide +kernel
    have h2 := List.pairwise_iff_getElem.mp h1
    intro a ha b hb hab he
    rcases Nat.lt_or_gt_of_ne hab with q | q
    · have h3 := h2 a b (by simpa using ha) (by simpa using hb) q
      simp only [List.getElem_map, List.getElem_range] at h3
      exact h3 he
    · have h3 := h2 b a (by simpa using hb) (by simpa using ha) q
      simp only [List.getElem_map, List.getElem_range] at h3
      exact h3 he.symm
noncomputable def xpL_6_0 (k : Nat) : Option (Nat × Nat) := bif Nat.blt k 5 then (bif Nat.blt k 2 then (bif Nat.blt k 1 then (bif Nat.beq k 0 then some ((2, 219)) else none) else (bif Nat.beq k 1 then some ((2, 221)) else none)) else (bif Nat.blt k 3 then (bif Nat.beq k 2 then some ((2, 223)) else none) else (bif Nat.blt k 4 then (bif Nat.beq k 3 then some ((2, 225)) else none) else (bif Nat.beq k 4 then some ((2, 227)) else none)))) else (bif Nat.blt k 7 then (bif Nat.blt k 6 then (bif Nat.beq k 5 then some ((2, 229)) else none) else (bif Nat.beq k 6 then some ((2, 231)) else none)) else (bif Nat.blt k 8 then (bif Nat.beq k 7 then some ((2, 233)) else none) else (bif Nat.blt k 9 then (bif Nat.beq k 8 then some ((2, 235)) else none) else (bif Nat.beq k 9 then some ((2, 237)) else none))))
noncomputable def xpL_6_1 (k : Nat) : Option (Nat × Nat) := bif Nat.blt k 15 then (bif Nat.blt k 12 then (bif Nat.blt k 11 then (bif Nat.beq k 10 then some ((2, 239)) else none) else (bif Nat.beq k 11 then some ((3, 1)) else none)) else (bif Nat.blt k 13 then (bif Nat.beq k 12 then some ((3, 3)) else none) else (bif Nat.blt k 14 then (bif Nat.beq k 13 then some ((3, 5)) else none) else (bif Nat.beq k 14 then some ((3, 7)) else none)))) else (bif Nat.blt k 17 then (bif Nat.blt k 16 then (bif Nat.beq k 15 then some ((3, 9)) else none) else (bif Nat.beq k 16 then some ((3, 11)) else none)) else (bif Nat.blt k 18 then (bif Nat.beq k 17 then some ((3, 13)) else none) else (bif Nat.blt k 19 then (bif Nat.beq k 18 then some ((3, 15)) else none) else (bif Nat.beq k 19 then some ((3, 17)) else none))))
noncomputable def xpL_6 (k : Nat) : Option (Nat × Nat) := bif Nat.blt k 10 then (xpL_6_0 k) else (xpL_6_1 k)
theorem xcl_6 : (xD_6).1 = 20 ∧ xon 6 = "PacketWall$Machine" ∧ (∀ w ∈ u_ws "PacketWall$Machine" xF_6 20, w ∈ xTs) ∧ (∀ k, k < 20 → parseFieldDescriptor (xF_6 k).2.2.1 = some ((xD_6).2 k).1) ∧ (∀ k, k < 20 → (xF_6 k).2.2.2 = ((xD_6).2 k).2 ∧ (xF_6 k).1 = "PacketWall$Machine") ∧ (∀ a, a < 20 → ∀ b, b < 20 → a ≠ b → (xF_6 a).2.1 ≠ (xF_6 b).2.1) ∧ Cond.instantiable "PacketWall$Machine" 20 ∈ xTs ∧ Cond.initialized "PacketWall$Machine" ∈ xTs := by
  refine ⟨rfl, rfl, fun w hw => ?_, by decide +kernel, by decide +kernel, ?_, xat_ok (q := some (2, 102)) (by decide +kernel) rfl, xat_ok (q := some (1, 9)) (by decide +kernel) rfl⟩
  · obtain ⟨k, hk, rfl⟩ := List.mem_map.mp hw
    have h1 : (List.range 20).all (fun k => xat (xpL_6 k) (u_lay "PacketWall$Machine" xF_6 k) && goodWord (u_lay "PacketWall$Machine" xF_6 k)) = true := by decide +kernel
    have h2 := List.all_eq_true.mp h1 k hk
    rw [Bool.and_eq_true] at h2
    exact xat_ok h2.1 h2.2
  · have h1 : ((List.range 20).map (fun k => (xF_6 k).2.1)).Pairwise (· ≠ ·) := by decide +kernel
    have h2 := List.pairwise_iff_getElem.mp h1
    intro a ha b hb hab he
    rcases Nat.lt_or_gt_of_ne hab with q | q
    · have h3 := h2 a b (by simpa using ha) (by simpa using hb) q
      simp only [List.getElem_map, List.getElem_range] at h3
      exact h3 he
    · have h3 := h2 b a (by simpa using hb) (by simpa using ha) q
      simp only [List.getElem_map, List.getElem_range] at h3
      exact h3 he.symm
noncomputable def xpL_7 (k : Nat) : Option (Nat × Nat) := bif Nat.blt k 3 then (bif Nat.blt k 1 then (bif Nat.beq k 0 then some ((2, 129)) else none) else (bif Nat.blt k 2 then (bif Nat.beq k 1 then some ((2, 131)) else none) else (bif Nat.beq k 2 then some ((2, 133)) else none))) else (bif Nat.blt k 5 then (bif Nat.blt k 4 then (bif Nat.beq k 3 then some ((2, 135)) else none) else (bif Nat.beq k 4 then some ((2, 137)) else none)) else (bif Nat.blt k 6 then (bif Nat.beq k 5 then some ((2, 139)) else none) else (bif Nat.beq k 6 then some ((2, 141)) else none)))
theorem xcl_7 : (xD_7).1 = 7 ∧ xon 7 = "PacketWall$Memory" ∧ (∀ w ∈ u_ws "PacketWall$Memory" xF_7 7, w ∈ xTs) ∧ (∀ k, k < 7 → parseFieldDescriptor (xF_7 k).2.2.1 = some ((xD_7).2 k).1) ∧ (∀ k, k < 7 → (xF_7 k).2.2.2 = ((xD_7).2 k).2 ∧ (xF_7 k).1 = "PacketWall$Memory") ∧ (∀ a, a < 7 → ∀ b, b < 7 → a ≠ b → (xF_7 a).2.1 ≠ (xF_7 b).2.1) ∧ Cond.instantiable "PacketWall$Memory" 7 ∈ xTs ∧ Cond.initialized "PacketWall$Memory" ∈ xTs := by
  refine ⟨rfl, rfl, fun w hw => ?_, by decide +kernel, by decide +kernel, ?_, xat_ok (q := some (2, 110)) (by decide +kernel) rfl, xat_ok (q := some (1, 10)) (by decide +kernel) rfl⟩
  · obtain ⟨k, hk, rfl⟩ := List.mem_map.mp hw
    have h1 : (List.range 7).all (fun k => xat (xpL_7 k) (u_lay "PacketWall$Memory" xF_7 k) && goodWord (u_lay "PacketWall$Memory" xF_7 k)) = true := by decide +kernel
    have h2 := List.all_eq_true.mp h1 k hk
    rw [Bool.and_eq_true] at h2
    exact xat_ok h2.1 h2.2
  · have h1 : ((List.range 7).map (fun k => (xF_7 k).2.1)).Pairwise (· ≠ ·) := by decide +kernel
    have h2 := List.pairwise_iff_getElem.mp h1
    intro a ha b hb hab he
    rcases Nat.lt_or_gt_of_ne hab with q | q
    · have h3 := h2 a b (by simpa using ha) (by simpa using hb) q
      simp only [List.getElem_map, List.getElem_range] at h3
      exact h3 he
    · have h3 := h2 b a (by simpa using hb) (by simpa using ha) q
      simp only [List.getElem_map, List.getElem_range] at h3
      exact h3 he.symm
noncomputable def xpL_8 (k : Nat) : Option (Nat × Nat) := bif Nat.blt k 1 then (bif Nat.beq k 0 then some ((1, 57)) else none) else (bif Nat.blt k 2 then (bif Nat.beq k 1 then some ((1, 59)) else none) else (bif Nat.beq k 2 then some ((1, 61)) else none))
theorem xcl_8 : (xD_8).1 = 3 ∧ xon 8 = "PacketWall$Packet" ∧ (∀ w ∈ u_ws "PacketWall$Packet" xF_8 3, w ∈ xTs) ∧ (∀ k, k < 3 → parseFieldDescriptor (xF_8 k).2.2.1 = some ((xD_8).2 k).1) ∧ (∀ k, k < 3 → (xF_8 k).2.2.2 = ((xD_8).2 k).2 ∧ (xF_8 k).1 = "PacketWall$Packet") ∧ (∀ a, a < 3 → ∀ b, b < 3 → a ≠ b → (xF_8 a).2.1 ≠ (xF_8 b).2.1) ∧ Cond.instantiable "PacketWall$Packet" 3 ∈ xTs ∧ Cond.initialized "PacketWall$Packet" ∈ xTs := by
  refine ⟨rfl, rfl, fun w hw => ?_, by decide +kernel, by decide +kernel, ?_, xat_ok (q := some (1, 38)) (by decide +kernel) rfl, xat_ok (q := some (1, 3)) (by decide +kernel) rfl⟩
  · obtain ⟨k, hk, rfl⟩ := List.mem_map.mp hw
    have h1 : (List.range 3).all (fun k => xat (xpL_8 k) (u_lay "PacketWall$Packet" xF_8 k) && goodWord (u_lay "PacketWall$Packet" xF_8 k)) = true := by decide +kernel
    have h2 := List.all_eq_true.mp h1 k hk
    rw [Bool.and_eq_true] at h2
    exact xat_ok h2.1 h2.2
  · have h1 : ((List.range 3).map (fun k => (xF_8 k).2.1)).Pairwise (· ≠ ·) := by decide +kernel
    have h2 := List.pairwise_iff_getElem.mp h1
    intro a ha b hb hab he
    rcases Nat.lt_or_gt_of_ne hab with q | q
    · have h3 := h2 a b (by simpa using ha) (by simpa using hb) q
      simp only [List.getElem_map, List.getElem_range] at h3
      exact h3 he
    · have h3 := h2 b a (by simpa using hb) (by simpa using ha) q
      simp only [List.getElem_map, List.getElem_range] at h3
      exact h3 he.symm
noncomputable def xpL_9_0 (k : Nat) : Option (Nat × Nat) := bif Nat.blt k 3 then (bif Nat.blt k 1 then (bif Nat.beq k 0 then some ((2, 76)) else none) else (bif Nat.blt k 2 then (bif Nat.beq k 1 then some ((2, 78)) else none) else (bif Nat.beq k 2 then some ((2, 80)) else none))) else (bif Nat.blt k 4 then (bif Nat.beq k 3 then some ((2, 82)) else none) else (bif Nat.blt k 5 then (bif Nat.beq k 4 then some ((2, 84)) else none) else (bif Nat.beq k 5 then some ((2, 86)) else none)))
noncomputable def xpL_9_1 (k : Nat) : Option (Nat × Nat) := bif Nat.blt k 9 then (bif Nat.blt k 7 then (bif Nat.beq k 6 then some ((2, 88)) else none) else (bif Nat.blt k 8 then (bif Nat.beq k 7 then some ((2, 90)) else none) else (bif Nat.beq k 8 then some ((2, 92)) else none))) else (bif Nat.blt k 10 then (bif Nat.beq k 9 then some ((2, 94)) else none) else (bif Nat.blt k 11 then (bif Nat.beq k 10 then some ((2, 96)) else none) else (bif Nat.beq k 11 then some ((2, 98)) else none)))
noncomputable def xpL_9 (k : Nat) : Option (Nat × Nat) := bif Nat.blt k 6 then (xpL_9_0 k) else (xpL_9_1 k)
theorem xcl_9 : (xD_9).1 = 12 ∧ xon 9 = "PacketWall$Parser" ∧ (∀ w ∈ u_ws "PacketWall$Parser" xF_9 12, w ∈ xTs) ∧ (∀ k, k < 12 → parseFieldDescriptor (xF_9 k).2.2.1 = some ((xD_9).2 k).1) ∧ (∀ k, k < 12 → (xF_9 k).2.2.2 = ((xD_9).2 k).2 ∧ (xF_9 k).1 = "PacketWall$Parser") ∧ (∀ a, a < 12 → ∀ b, b < 12 → a ≠ b → (xF_9 a).2.1 ≠ (xF_9 b).2.1) ∧ Cond.instantiable "PacketWall$Parser" 12 ∈ xTs ∧ Cond.initialized "PacketWall$Parser" ∈ xTs := by
  refine ⟨rfl, rfl, fun w hw => ?_, by decide +kernel, by decide +kernel, ?_, xat_ok (q := some (2, 18)) (by decide +kernel) rfl, xat_ok (q := some (1, 7)) (by decide +kernel) rfl⟩
  · obtain ⟨k, hk, rfl⟩ := List.mem_map.mp hw
    have h1 : (List.range 12).all (fun k => xat (xpL_9 k) (u_lay "PacketWall$Parser" xF_9 k) && goodWord (u_lay "PacketWall$Parser" xF_9 k)) = true := by decide +kernel
    have h2 := List.all_eq_true.mp h1 k hk
    rw [Bool.and_eq_true] at h2
    exact xat_ok h2.1 h2.2
  · have h1 : ((List.range 12).map (fun k => (xF_9 k).2.1)).Pairwise (· ≠ ·) := by decide +kernel
    have h2 := List.pairwise_iff_getElem.mp h1
    intro a ha b hb hab he
    rcases Nat.lt_or_gt_of_ne hab with q | q
    · have h3 := h2 a b (by simpa using ha) (by simpa using hb) q
      simp only [List.getElem_map, List.getElem_range] at h3
      exact h3 he
    · have h3 := h2 b a (by simpa using hb) (by simpa using ha) q
      simp only [List.getElem_map, List.getElem_range] at h3
      exact h3 he.symm
noncomputable def xpL_10 (k : Nat) : Option (Nat × Nat) := bif Nat.blt k 3 then (bif Nat.blt k 1 then (bif Nat.beq k 0 then some ((2, 46)) else none) else (bif Nat.blt k 2 then (bif Nat.beq k 1 then some ((2, 48)) else none) else (bif Nat.beq k 2 then some ((2, 50)) else none))) else (bif Nat.blt k 5 then (bif Nat.blt k 4 then (bif Nat.beq k 3 then some ((2, 52)) else none) else (bif Nat.beq k 4 then some ((2, 54)) else none)) else (bif Nat.blt k 6 then (bif Nat.beq k 5 then some ((2, 56)) else none) else (bif Nat.beq k 6 then some ((2, 58)) else none)))
theorem xcl_10 : (xD_10).1 = 7 ∧ xon 10 = "PacketWall$Program" ∧ (∀ w ∈ u_ws "PacketWall$Program" xF_10 7, w ∈ xTs) ∧ (∀ k, k < 7 → parseFieldDescriptor (xF_10 k).2.2.1 = some ((xD_10).2 k).1) ∧ (∀ k, k < 7 → (xF_10 k).2.2.2 = ((xD_10).2 k).2 ∧ (xF_10 k).1 = "PacketWall$Program") ∧ (∀ a, a < 7 → ∀ b, b < 7 → a ≠ b → (xF_10 a).2.1 ≠ (xF_10 b).2.1) ∧ Cond.instantiable "PacketWall$Program" 7 ∈ xTs ∧ Cond.initialized "PacketWall$Program" ∈ xTs := by
  refine ⟨rfl, rfl, fun w hw => ?_, by decide +kernel, by decide +kernel, ?_, xat_ok (q := some (2, 24)) (by decide +kernel) rfl, xat_ok (q := some (1, 8)) (by decide +kernel) rfl⟩
  · obtain ⟨k, hk, rfl⟩ := List.mem_map.mp hw
    have h1 : (List.range 7).all (fun k => xat (xpL_10 k) (u_lay "PacketWall$Program" xF_10 k) && goodWord (u_lay "PacketWall$Program" xF_10 k)) = true := by decide +kernel
    have h2 := List.all_eq_true.mp h1 k hk
    rw [Bool.and_eq_true] at h2
    exact xat_ok h2.1 h2.2
  · have h1 : ((List.range 7).map (fun k => (xF_10 k).2.1)).Pairwise (· ≠ ·) := by decide +kernel
    have h2 := List.pairwise_iff_getElem.mp h1
    intro a ha b hb hab he
    rcases Nat.lt_or_gt_of_ne hab with q | q
    · have h3 := h2 a b (by simpa using ha) (by simpa using hb) q
      simp only [List.getElem_map, List.getElem_range] at h3
      exact h3 he
    · have h3 := h2 b a (by simpa using hb) (by simpa using ha) q
      simp only [List.getElem_map, List.getElem_range] at h3
      exact h3 he.symm
noncomputable def xpL_11 (k : Nat) : Option (Nat × Nat) := bif Nat.blt k 2 then (bif Nat.blt k 1 then (bif Nat.beq k 0 then some ((2, 165)) else none) else (bif Nat.beq k 1 then some ((2, 167)) else none)) else (bif Nat.blt k 3 then (bif Nat.beq k 2 then some ((2, 169)) else none) else (bif Nat.beq k 3 then some ((2, 171)) else none))
theorem xcl_11 : (xD_11).1 = 4 ∧ xon 11 = "PacketWall$Row" ∧ (∀ w ∈ u_ws "PacketWall$Row" xF_11 4, w ∈ xTs) ∧ (∀ k, k < 4 → parseFieldDescriptor (xF_11 k).2.2.1 = some ((xD_11).2 k).1) ∧ (∀ k, k < 4 → (xF_11 k).2.2.2 = ((xD_11).2 k).2 ∧ (xF_11 k).1 = "PacketWall$Row") ∧ (∀ a, a < 4 → ∀ b, b < 4 → a ≠ b → (xF_11 a).2.1 ≠ (xF_11 b).2.1) ∧ Cond.instantiable "PacketWall$Row" 4 ∈ xTs ∧ Cond.initialized "PacketWall$Row" ∈ xTs := by
  refine ⟨rfl, rfl, fun w hw => ?_, by decide +kernel, by decide +kernel, ?_, xat_ok (q := some (2, 150)) (by decide +kernel) rfl, xat_ok (q := some (1, 11)) (by decide +kernel) rfl⟩
  · obtain ⟨k, hk, rfl⟩ := List.mem_map.mp hw
    have h1 : (List.range 4).all (fun k => xat (xpL_11 k) (u_lay "PacketWall$Row" xF_11 k) && goodWord (u_lay "PacketWall$Row" xF_11 k)) = true := by decide +kernel
    have h2 := List.all_eq_true.mp h1 k hk
    rw [Bool.and_eq_true] at h2
    exact xat_ok h2.1 h2.2
  · have h1 : ((List.range 4).map (fun k => (xF_11 k).2.1)).Pairwise (· ≠ ·) := by decide +kernel
    have h2 := List.pairwise_iff_getElem.mp h1
    intro a ha b hb hab he
    rcases Nat.lt_or_gt_of_ne hab with q | q
    · have h3 := h2 a b (by simpa using ha) (by simpa using hb) q
      simp only [List.getElem_map, List.getElem_range] at h3
      exact h3 he
    · have h3 := h2 b a (by simpa using hb) (by simpa using ha) q
      simp only [List.getElem_map, List.getElem_range] at h3
      exact h3 he.symm
noncomputable def xpL_12_0_0 (k : Nat) : Option (Nat × Nat) := bif Nat.blt k 4 then (bif Nat.blt k 2 then (bif Nat.blt k 1 then (bif Nat.beq k 0 then some ((8, 161)) else none) else (bif Nat.beq k 1 then some ((8, 163)) else none)) else (bif Nat.blt k 3 then (bif Nat.beq k 2 then some ((8, 165)) else none) else (bif Nat.beq k 3 then some ((8, 167)) else none))) else (bif Nat.blt k 6 then (bif Nat.blt k 5 then (bif Nat.beq k 4 then some ((8, 169)) else none) else (bif Nat.beq k 5 then some ((8, 171)) else none)) else (bif Nat.blt k 7 then (bif Nat.beq k 6 then some ((8, 173)) else none) else (bif Nat.beq k 7 then some ((8, 175)) else none)))
noncomputable def xpL_12_0_1 (k : Nat) : Option (Nat × Nat) := bif Nat.blt k 11 then (bif Nat.blt k 9 then (bif Nat.beq k 8 then some ((8, 177)) else none) else (bif Nat.blt k 10 then (bif Nat.beq k 9 then some ((8, 179)) else none) else (bif Nat.beq k 10 then some ((8, 181)) else none))) else (bif Nat.blt k 13 then (bif Nat.blt k 12 then (bif Nat.beq k 11 then some ((8, 183)) else none) else (bif Nat.beq k 12 then some ((8, 185)) else none)) else (bif Nat.blt k 14 then (bif Nat.beq k 13 then some ((8, 187)) else none) else (bif Nat.beq k 14 then some ((8, 189)) else none)))
noncomputable def xpL_12_0 (k : Nat) : Option (Nat × Nat) := bif Nat.blt k 8 then (xpL_12_0_0 k) else (xpL_12_0_1 k)
noncomputable def xpL_12_1_0 (k : Nat) : Option (Nat × Nat) := bif Nat.blt k 19 then (bif Nat.blt k 17 then (bif Nat.blt k 16 then (bif Nat.beq k 15 then some ((8, 191)) else none) else (bif Nat.beq k 16 then some ((8, 193)) else none)) else (bif Nat.blt k 18 then (bif Nat.beq k 17 then some ((8, 195)) else none) else (bif Nat.beq k 18 then some ((8, 197)) else none))) else (bif Nat.blt k 21 then (bif Nat.blt k 20 then (bif Nat.beq k 19 then some ((8, 199)) else none) else (bif Nat.beq k 20 then some ((8, 201)) else none)) else (bif Nat.blt k 22 then (bif Nat.beq k 21 then some ((8, 203)) else none) else (bif Nat.beq k 22 then some ((8, 205)) else none)))
noncomputable def xpL_12_1_1 (k : Nat) : Option (Nat × Nat) := bif Nat.blt k 26 then (bif Nat.blt k 24 then (bif Nat.beq k 23 then some ((8, 207)) else none) else (bif Nat.blt k 25 then (bif Nat.beq k 24 then some ((8, 209)) else none) else (bif Nat.beq k 25 then some ((8, 211)) else none))) else (bif Nat.blt k 28 then (bif Nat.blt k 27 then (bif Nat.beq k 26 then some ((8, 213)) else none) else (bif Nat.beq k 27 then some ((8, 215)) else none)) else (bif Nat.blt k 29 then (bif Nat.beq k 28 then some ((8, 217)) else none) else (bif Nat.beq k 29 then some ((8, 219)) else none)))
noncomputable def xpL_12_1 (k : Nat) : Option (Nat × Nat) := bif Nat.blt k 23 then (xpL_12_1_0 k) else (xpL_12_1_1 k)
noncomputable def xpL_12_2_0 (k : Nat) : Option (Nat × Nat) := bif Nat.blt k 34 then (bif Nat.blt k 32 then (bif Nat.blt k 31 then (bif Nat.beq k 30 then some ((8, 221)) else none) else (bif Nat.beq k 31 then some ((8, 223)) else none)) else (bif Nat.blt k 33 then (bif Nat.beq k 32 then some ((8, 225)) else none) else (bif Nat.beq k 33 then some ((8, 227)) else none))) else (bif Nat.blt k 36 then (bif Nat.blt k 35 then (bif Nat.beq k 34 then some ((8, 229)) else none) else (bif Nat.beq k 35 then some ((8, 231)) else none)) else (bif Nat.blt k 37 then (bif Nat.beq k 36 then some ((8, 233)) else none) else (bif Nat.beq k 37 then some ((8, 235)) else none)))
noncomputable def xpL_12_2_1 (k : Nat) : Option (Nat × Nat) := bif Nat.blt k 41 then (bif Nat.blt k 39 then (bif Nat.beq k 38 then some ((8, 237)) else none) else (bif Nat.blt k 40 then (bif Nat.beq k 39 then some ((8, 239)) else none) else (bif Nat.beq k 40 then some ((9, 1)) else none))) else (bif Nat.blt k 43 then (bif Nat.blt k 42 then (bif Nat.beq k 41 then some ((9, 3)) else none) else (bif Nat.beq k 42 then some ((9, 5)) else none)) else (bif Nat.blt k 44 then (bif Nat.beq k 43 then some ((9, 7)) else none) else (bif Nat.beq k 44 then some ((9, 9)) else none)))
noncomputable def xpL_12_2 (k : Nat) : Option (Nat × Nat) := bif Nat.blt k 38 then (xpL_12_2_0 k) else (xpL_12_2_1 k)
noncomputable def xpL_12_3_0 (k : Nat) : Option (Nat × Nat) := bif Nat.blt k 49 then (bif Nat.blt k 47 then (bif Nat.blt k 46 then (bif Nat.beq k 45 then some ((9, 11)) else none) else (bif Nat.beq k 46 then some ((9, 13)) else none)) else (bif Nat.blt k 48 then (bif Nat.beq k 47 then some ((9, 15)) else none) else (bif Nat.beq k 48 then some ((9, 17)) else none))) else (bif Nat.blt k 51 then (bif Nat.blt k 50 then (bif Nat.beq k 49 then some ((9, 19)) else none) else (bif Nat.beq k 50 then some ((9, 21)) else none)) else (bif Nat.blt k 52 then (bif Nat.beq k 51 then some ((9, 23)) else none) else (bif Nat.beq k 52 then some ((9, 25)) else none)))
noncomputable def xpL_12_3_1 (k : Nat) : Option (Nat × Nat) := bif Nat.blt k 56 then (bif Nat.blt k 54 then (bif Nat.beq k 53 then some ((9, 27)) else none) else (bif Nat.blt k 55 then (bif Nat.beq k 54 then some ((9, 29)) else none) else (bif Nat.beq k 55 then some ((9, 31)) else none))) else (bif Nat.blt k 58 then (bif Nat.blt k 57 then (bif Nat.beq k 56 then some ((9, 33)) else none) else (bif Nat.beq k 57 then some ((9, 35)) else none)) else (bif Nat.blt k 59 then (bif Nat.beq k 58 then some ((9, 37)) else none) else (bif Nat.beq k 59 then some ((9, 39)) else none)))
noncomputable def xpL_12_3 (k : Nat) : Option (Nat × Nat) := bif Nat.blt k 53 then (xpL_12_3_0 k) else (xpL_12_3_1 k)
noncomputable def xpL_12_4_0 (k : Nat) : Option (Nat × Nat) := bif Nat.blt k 64 then (bif Nat.blt k 62 then (bif Nat.blt k 61 then (bif Nat.beq k 60 then some ((9, 41)) else none) else (bif Nat.beq k 61 then some ((9, 43)) else none)) else (bif Nat.blt k 63 then (bif Nat.beq k 62 then some ((9, 45)) else none) else (bif Nat.beq k 63 then some ((9, 47)) else none))) else (bif Nat.blt k 66 then (bif Nat.blt k 65 then (bif Nat.beq k 64 then some ((9, 49)) else none) else (bif Nat.beq k 65 then some ((9, 51)) else none)) else (bif Nat.blt k 67 then (bif Nat.beq k 66 then some ((9, 53)) else none) else (bif Nat.beq k 67 then some ((9, 55)) else none)))
noncomputable def xpL_12_4_1 (k : Nat) : Option (Nat × Nat) := bif Nat.blt k 71 then (bif Nat.blt k 69 then (bif Nat.beq k 68 then some ((9, 57)) else none) else (bif Nat.blt k 70 then (bif Nat.beq k 69 then some ((9, 59)) else none) else (bif Nat.beq k 70 then some ((9, 61)) else none))) else (bif Nat.blt k 73 then (bif Nat.blt k 72 then (bif Nat.beq k 71 then some ((9, 63)) else none) else (bif Nat.beq k 72 then some ((9, 65)) else none)) else (bif Nat.blt k 74 then (bif Nat.beq k 73 then some ((9, 67)) else none) else (bif Nat.beq k 74 then some ((9, 69)) else none)))
noncomputable def xpL_12_4 (k : Nat) : Option (Nat × Nat) := bif Nat.blt k 68 then (xpL_12_4_0 k) else (xpL_12_4_1 k)
noncomputable def xpL_12_5_0 (k : Nat) : Option (Nat × Nat) := bif Nat.blt k 79 then (bif Nat.blt k 77 then (bif Nat.blt k 76 then (bif Nat.beq k 75 then some ((9, 71)) else none) else (bif Nat.beq k 76 then some ((9, 73)) else none)) else (bif Nat.blt k 78 then (bif Nat.beq k 77 then some ((9, 75)) else none) else (bif Nat.beq k 78 then some ((9, 77)) else none))) else (bif Nat.blt k 81 then (bif Nat.blt k 80 then (bif Nat.beq k 79 then some ((9, 79)) else none) else (bif Nat.beq k 80 then some ((9, 81)) else none)) else (bif Nat.blt k 82 then (bif Nat.beq k 81 then some ((9, 83)) else none) else (bif Nat.beq k 82 then some ((9, 85)) else none)))
noncomputable def xpL_12_5_1 (k : Nat) : Option (Nat × Nat) := bif Nat.blt k 86 then (bif Nat.blt k 84 then (bif Nat.beq k 83 then some ((9, 87)) else none) else (bif Nat.blt k 85 then (bif Nat.beq k 84 then some ((9, 89)) else none) else (bif Nat.beq k 85 then some ((9, 91)) else none))) else (bif Nat.blt k 88 then (bif Nat.blt k 87 then (bif Nat.beq k 86 then some ((9, 93)) else none) else (bif Nat.beq k 87 then some ((9, 95)) else none)) else (bif Nat.blt k 89 then (bif Nat.beq k 88 then some ((9, 97)) else none) else (bif Nat.beq k 89 then some ((9, 99)) else none)))
noncomputable def xpL_12_5 (k : Nat) : Option (Nat × Nat) := bif Nat.blt k 83 then (xpL_12_5_0 k) else (xpL_12_5_1 k)
noncomputable def xpL_12_6_0 (k : Nat) : Option (Nat × Nat) := bif Nat.blt k 94 then (bif Nat.blt k 92 then (bif Nat.blt k 91 then (bif Nat.beq k 90 then some ((9, 101)) else none) else (bif Nat.beq k 91 then some ((9, 103)) else none)) else (bif Nat.blt k 93 then (bif Nat.beq k 92 then some ((9, 105)) else none) else (bif Nat.beq k 93 then some ((9, 107)) else none))) else (bif Nat.blt k 96 then (bif Nat.blt k 95 then (bif Nat.beq k 94 then some ((9, 109)) else none) else (bif Nat.beq k 95 then some ((9, 111)) else none)) else (bif Nat.blt k 97 then (bif Nat.beq k 96 then some ((9, 113)) else none) else (bif Nat.beq k 97 then some ((9, 115)) else none)))
noncomputable def xpL_12_6_1 (k : Nat) : Option (Nat × Nat) := bif Nat.blt k 101 then (bif Nat.blt k 99 then (bif Nat.beq k 98 then some ((9, 117)) else none) else (bif Nat.blt k 100 then (bif Nat.beq k 99 then some ((9, 119)) else none) else (bif Nat.beq k 100 then some ((9, 121)) else none))) else (bif Nat.blt k 103 then (bif Nat.blt k 102 then (bif Nat.beq k 101 then some ((9, 123)) else none) else (bif Nat.beq k 102 then some ((9, 125)) else none)) else (bif Nat.blt k 104 then (bif Nat.beq k 103 then some ((9, 127)) else none) else (bif Nat.beq k 104 then some ((9, 129)) else none)))
noncomputable def xpL_12_6 (k : Nat) : Option (Nat × Nat) := bif Nat.blt k 98 then (xpL_12_6_0 k) else (xpL_12_6_1 k)
noncomputable def xpL_12_7_0 (k : Nat) : Option (Nat × Nat) := bif Nat.blt k 109 then (bif Nat.blt k 107 then (bif Nat.blt k 106 then (bif Nat.beq k 105 then some ((9, 131)) else none) else (bif Nat.beq k 106 then some ((9, 133)) else none)) else (bif Nat.blt k 108 then (bif Nat.beq k 107 then some ((9, 135)) else none) else (bif Nat.beq k 108 then some ((9, 137)) else none))) else (bif Nat.blt k 111 then (bif Nat.blt k 110 then (bif Nat.beq k 109 then some ((9, 139)) else none) else (bif Nat.beq k 110 then some ((9, 141)) else none)) else (bif Nat.blt k 112 then (bif Nat.beq k 111 then some ((9, 143)) else none) else (bif Nat.beq k 112 then some ((9, 145)) else none)))
noncomputable def xpL_12_7_1 (k : Nat) : Option (Nat × Nat) := bif Nat.blt k 116 then (bif Nat.blt k 114 then (bif Nat.beq k 113 then some ((9, 147)) else none) else (bif Nat.blt k 115 then (bif Nat.beq k 114 then some ((9, 149)) else none) else (bif Nat.beq k 115 then some ((9, 151)) else none))) else (bif Nat.blt k 118 then (bif Nat.blt k 117 then (bif Nat.beq k 116 then some ((9, 153)) else none) else (bif Nat.beq k 117 then some ((9, 155)) else none)) else (bif Nat.blt k 119 then (bif Nat.beq k 118 then some ((9, 157)) else none) else (bif Nat.beq k 119 then some ((9, 159)) else none)))
noncomputable def xpL_12_7 (k : Nat) : Option (Nat × Nat) := bif Nat.blt k 113 then (xpL_12_7_0 k) else (xpL_12_7_1 k)
noncomputable def xpL_12_8_0 (k : Nat) : Option (Nat × Nat) := bif Nat.blt k 124 then (bif Nat.blt k 122 then (bif Nat.blt k 121 then (bif Nat.beq k 120 then some ((9, 161)) else none) else (bif Nat.beq k 121 then some ((9, 163)) else none)) else (bif Nat.blt k 123 then (bif Nat.beq k 122 then some ((9, 165)) else none) else (bif Nat.beq k 123 then some ((9, 167)) else none))) else (bif Nat.blt k 126 then (bif Nat.blt k 125 then (bif Nat.beq k 124 then some ((9, 169)) else none) else (bif Nat.beq k 125 then some ((9, 171)) else none)) else (bif Nat.blt k 127 then (bif Nat.beq k 126 then some ((9, 173)) else none) else (bif Nat.beq k 127 then some ((9, 175)) else none)))
noncomputable def xpL_12_8_1 (k : Nat) : Option (Nat × Nat) := bif Nat.blt k 131 then (bif Nat.blt k 129 then (bif Nat.beq k 128 then some ((9, 177)) else none) else (bif Nat.blt k 130 then (bif Nat.beq k 129 then some ((9, 179)) else none) else (bif Nat.beq k 130 then some ((9, 181)) else none))) else (bif Nat.blt k 133 then (bif Nat.blt k 132 then (bif Nat.beq k 131 then some ((9, 183)) else none) else (bif Nat.beq k 132 then some ((9, 185)) else none)) else (bif Nat.blt k 134 then (bif Nat.beq k 133 then some ((9, 187)) else none) else (bif Nat.beq k 134 then some ((9, 189)) else none)))
noncomputable def xpL_12_8 (k : Nat) : Option (Nat × Nat) := bif Nat.blt k 128 then (xpL_12_8_0 k) else (xpL_12_8_1 k)
noncomputable def xpL_12_9_0 (k : Nat) : Option (Nat × Nat) := bif Nat.blt k 138 then (bif Nat.blt k 136 then (bif Nat.beq k 135 then some ((9, 191)) else none) else (bif Nat.blt k 137 then (bif Nat.beq k 136 then some ((9, 193)) else none) else (bif Nat.beq k 137 then some ((9, 195)) else none))) else (bif Nat.blt k 140 then (bif Nat.blt k 139 then (bif Nat.beq k 138 then some ((9, 197)) else none) else (bif Nat.beq k 139 then some ((9, 199)) else none)) else (bif Nat.blt k 141 then (bif Nat.beq k 140 then some ((9, 201)) else none) else (bif Nat.beq k 141 then some ((9, 203)) else none)))
noncomputable def xpL_12_9_1 (k : Nat) : Option (Nat × Nat) := bif Nat.blt k 145 then (bif Nat.blt k 143 then (bif Nat.beq k 142 then some ((9, 205)) else none) else (bif Nat.blt k 144 then (bif Nat.beq k 143 then some ((9, 207)) else none) else (bif Nat.beq k 144 then some ((9, 209)) else none))) else (bif Nat.blt k 146 then (bif Nat.beq k 145 then some ((9, 211)) else none) else (bif Nat.blt k 147 then (bif Nat.beq k 146 then some ((9, 213)) else none) else (bif Nat.beq k 147 then some ((9, 215)) else none)))
noncomputable def xpL_12_9 (k : Nat) : Option (Nat × Nat) := bif Nat.blt k 142 then (xpL_12_9_0 k) else (xpL_12_9_1 k)
noncomputable def xpL_12 (k : Nat) : Option (Nat × Nat) := bif Nat.blt k 75 then (bif Nat.blt k 30 then (bif Nat.blt k 15 then (xpL_12_0 k) else (xpL_12_1 k)) else (bif Nat.blt k 45 then (xpL_12_2 k) else (bif Nat.blt k 60 then (xpL_12_3 k) else (xpL_12_4 k)))) else (bif Nat.blt k 105 then (bif Nat.blt k 90 then (xpL_12_5 k) else (xpL_12_6 k)) else (bif Nat.blt k 120 then (xpL_12_7 k) else (bif Nat.blt k 135 then (xpL_12_8 k) else (xpL_12_9 k))))
theorem xcl_12 : (xD_12).1 = 148 ∧ xon 12 = "PacketWallModel" ∧ (∀ w ∈ u_ws "PacketWallModel" xF_12 148, w ∈ xTs) ∧ (∀ k, k < 148 → parseFieldDescriptor (xF_12 k).2.2.1 = some ((xD_12).2 k).1) ∧ (∀ k, k < 148 → (xF_12 k).2.2.2 = ((xD_12).2 k).2 ∧ (xF_12 k).1 = "PacketWallModel") ∧ (∀ a, a < 148 → ∀ b, b < 148 → a ≠ b → (xF_12 a).2.1 ≠ (xF_12 b).2.1) ∧ Cond.instantiable "PacketWallModel" 148 ∈ xTs ∧ Cond.initialized "PacketWallModel" ∈ xTs := by
  refine ⟨rfl, rfl, fun w hw => ?_, by decide +kernel, by decide +kernel, ?_, xat_ok (q := some (8, 4)) (by decide +kernel) rfl, xat_ok (q := some (1, 13)) (by decide +kernel) rfl⟩
  · obtain ⟨k, hk, rfl⟩ := List.mem_map.mp hw
    have h1 : (List.range 148).all (fun k => xat (xpL_12 k) (u_lay "PacketWallModel" xF_12 k) && goodWord (u_lay "PacketWallModel" xF_12 k)) = true := by decide +kernel
    have h2 := List.all_eq_true.mp h1 k hk
    rw [Bool.and_eq_true] at h2
    exact xat_ok h2.1 h2.2
  · have h1 : ((List.range 148).map (fun k => (xF_12 k).2.1)).Pairwise (· ≠ ·) := by decide +kernel
    have h2 := List.pairwise_iff_getElem.mp h1
    intro a ha b hb hab he
    rcases Nat.lt_or_gt_of_ne hab with q | q
    · have h3 := h2 a b (by simpa using ha) (by simpa using hb) q
      simp only [List.getElem_map, List.getElem_range] at h3
      exact h3 he
    · have h3 := h2 b a (by simpa using hb) (by simpa using ha) q
      simp only [List.getElem_map, List.getElem_range] at h3
      exact h3 he.symm
theorem xok_D (A : Nat → Option (Nat × (Nat → Int32))) : ix_okD (xT A) xcl xon xTs := by
  intro ci r h
  match ci, h with
  | 0, h => cases h; exact xcl_0
  | 1, h => cases h; exact xcl_1
  | 2, h => cases h; exact xcl_2
  | 3, h => cases h; exact xcl_3
  | 4, h => cases h; exact xcl_4
  | 5, h => cases h; exact xcl_5
  | 6, h => cases h; exact xcl_6
  | 7, h => cases h; exact xcl_7
  | 8, h => cases h; exact xcl_8
  | 9, h => cases h; exact xcl_9
  | 10, h => cases h; exact xcl_10
  | 11, h => cases h; exact xcl_11
  | 12, h => cases h; exact xcl_12
  | n + 13, h => cases h
