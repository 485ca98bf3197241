theorem xcl_4 : (xD_4).1 = 14 ∧ xon 4 = "PacketWall$Gathering" ∧ (∀ w ∈ u_ws "PacketWall$Gathering" xF_4 14, w ∈ xTs) ∧ (∀ k, k < 14 → parseFieldDescriptor (xF_4 k).2.2.1 = some ((xD_4).2 k).1) ∧ (∀ k, k < 14 → (xF_4 k).2.2.2 = ((xD_4).2 k).2 ∧ (xF_4 k).1 = "PacketWall$Gathering") ∧ (∀ a, a < 14 → ∀ b, b < 14 → a ≠ b → (xF_4 a).2.1 ≠ (xF_4 b).2.1) ∧ Cond.instantiable "PacketWall$Gathering" 14 ∈ xTs ∧ Cond.initialized "PacketWall$Gathering" ∈ xTs := by
  refine ⟨rfl, rfl, fun w hw => ?_, by decide +kernel, by decide +kernel, ?_, xat_ok (q := some (1, 102)) (by decide +kernel) rfl, xat_ok (q := some (1, 4)) (by decide +kernel) rfl⟩
  · obtain ⟨k, hk, rfl⟩ := List.mem_map.mp hw
    have h1 : (List.range 14).all (fun k => xat (xpL_4 k) (u_lay "PacketWall$Gathering" xF_4 k) && goodWord (u_lay "PacketWall$Gathering" xF_4 k)) = true := by decide +kernel
    have h2 := List.all_eq_true.mp h1 k hk
    rw [Bool.and_eq_true] at h2
    exact xat_ok h2.1 h2.2
  · have h1 : ((List.range 14).map (fun k => (xF_4 k).2.1)).Pairwise (· ≠ ·) := by decide +kernel
    have h2 := List.pairwise_iff_getElem.mp h1
    intro a ha b hb hab he
    rcases Nat.lt_or_gt_of_ne hab with q | q
    · have h3 := h2 a b (by simpa using ha) (by simpa using hb) q
      simp only [List.getElem_map, List.getElem_range] at h3
      exact h3 he
    · have h3 := h2 b a (by simpa using hb) (by simpa using ha) q
      simp only [List.getElem_map, List.getElem_range] at h3
      exact h3 he.symm
noncomputable def xpL_5 (k : Nat) : Option (Nat × Nat) := bif Nat.blt k 4 then (bif Nat.blt k 2 then (bif Nat.blt k 1 then (bif Nat.beq k 0 then some ((1, 83)) else none) else (bif Nat.beq k 1 then some ((1, 85)) else none)) else (bif Nat.blt k 3 then (bif Nat.beq k 2 then some ((1, 87)) else none) else (bif Nat.beq k 3 then some ((1, 89)) else none))) else (bif Nat.blt k 6 then (bif Nat.blt k 5 then (bif Nat.beq k 4 then some ((1, 91)) else none) else (bif Nat.beq k 5 then some ((1, 93)) else none)) else (bif Nat.blt k 7 then (bif Nat.beq k 6 then some ((1, 95)) else none) else (bif Nat.beq k 7 then some ((1, 97)) else none)))
theorem xcl_5 : (xD_5).1 = 8 ∧ xon 5 = "PacketWall$Headers" ∧ (∀ w ∈ u_ws "PacketWall$Headers" xF_5 8, w ∈ xTs) ∧ (∀ k, k < 8 → parseFieldDescriptor (xF_5 k).2.2.1 = some ((xD_5).2 k).1) ∧ (∀ k, k < 8 → (xF_5 k).2.2.2 = ((xD_5).2 k).2 ∧ (xF_5 k).1 = "PacketWall$Headers") ∧ (∀ a, a < 8 → ∀ b, b < 8 → a ≠ b → (xF_5 a).2.1 ≠ (xF_5 b).2.1) ∧ Cond.instantiable "PacketWall$Headers" 8 ∈ xTs ∧ Cond.initialized "PacketWall$Headers" ∈ xTs := by
  refine ⟨rfl, rfl, fun w hw => ?_, by decide +kernel, by decide +kernel, ?_, xat_ok (q := some (1, 32)) (by decide +kernel) rfl, xat_ok (q := some (1, 2)) (by decide +kernel) rfl⟩
  · obtain ⟨k, hk, rfl⟩ := List.mem_map.mp hw
    have h1 : (List.range 8).all (fun k => xat (xpL_5 k) (u_lay "PacketWall$Headers" xF_5 k) && goodWord (u_lay "PacketWall$Headers" xF_5 k)) = true := by decide +kernel
    have h2 := List.all_eq_true.mp h1 k hk
    rw [Bool.and_eq_true] at h2
    exact xat_ok h2.1 h2.2
  · have h1 : ((List.range 8).map (fun k => (xF_5 k).2.1)).Pairwise (· ≠ ·) := by decide +kernel
    have h2 := List.pairwise_iff_getElem.mp h1
    intro a ha b hb hab he
    rcases Nat.lt_or_gt_of_ne hab with q | q
    · have h3 := h2 a b (by simpa using ha) (by simpa using hb) q
      simp only [List.getElem_map, List.getElem_range] at h3
      exact h3 he
    · have h3 := h2 b a (by simpa using hb) (by simpa using ha) q
      simp only [List.getElem_map, List.getElem_range] at h3
      exact h3 he.symm
noncomputable def xpL_6_0 (k : Nat) : Option (Nat × Nat) := bif Nat.blt k 5 then (bif Nat.blt k 2 then (bif Nat.blt k 1 then (bif Nat.beq k 0 then some ((2, 219)) else none) else (bif Nat.beq k 1 then some ((2, 221)) else none)) else (bif Nat.blt k 3 then (bif Nat.beq k 2 then some ((2, 223)) else none) else (bif Nat.blt k 4 then (bif Nat.beq k 3 then some ((2, 225)) else none) else (bif Nat.beq k 4 then some ((2, 227)) else none)))) else (bif Nat.blt k 7 then (bif Nat.blt k 6 then (bif Nat.beq k 5 then some ((2, 229)) else none) else (bif Nat.beq k 6 then some ((2, 231)) else none)) else (bif Nat.blt k 8 then (bif Nat.beq k 7 then some ((2, 233)) else none) else (bif Nat.blt k 9 then (bif Nat.beq k 8 then some ((2, 235)) else none) else (bif Nat.beq k 9 then some ((2, 237)) else none))))
noncomputable def xpL_6_1 (k : Nat) : Option (Nat × Nat) := bif Nat.blt k 15 then (bif Nat.blt k 12 then (bif Nat.blt k 11 then (bif Nat.beq k 10 then some ((2, 239)) else none) else (bif Nat.beq k 11 then some ((3, 1)) else none)) else (bif Nat.blt k 13 then (bif Nat.beq k 12 then some ((3, 3)) else none) else (bif Nat.blt k 14 then (bif Nat.beq k 13 then some ((3, 5)) else none) else (bif Nat.beq k 14 then some ((3, 7)) else none)))) else (bif Nat.blt k 17 then (bif Nat.blt k 16 then (bif Nat.beq k 15 then some ((3, 9)) else none) else (bif Nat.beq k 16 then some ((3, 11)) else none)) else (bif Nat.blt k 18 then (bif Nat.beq k 17 then some ((3, 13)) else none) else (bif Nat.blt k 19 then (bif Nat.beq k 18 then some ((3, 15)) else none) else (bif Nat.beq k 19 then some ((3, 17)) else none))))
noncomputable def xpL_6 (k : Nat) : Option (Nat × Nat) := bif Nat.blt k 10 then (xpL_6_0 k) else (xpL_6_1 k)
theorem xcl_6 : (xD_6).1 = 20 ∧ xon 6 = "PacketWall$Machine" ∧ (∀ w ∈ u_ws "PacketWall$Machine" xF_6 20, w ∈ xTs) ∧ (∀ k, k < 20 → parseFieldDescriptor (xF_6 k).2.2.1 = some ((xD_6).2 k).1) ∧ (∀ k, k < 20 → (xF_6 k).2.2.2 = ((xD_6).2 k).2 ∧ (xF_6 k).1 = "PacketWall$Machine") ∧ (∀ a, a < 20 → ∀ b, b < 20 → a ≠ b → (xF_6 a).2.1 ≠ (xF_6 b).2.1) ∧ Cond.instantiable "PacketWall$Machine" 20 ∈ xTs ∧ Cond.initialized "PacketWall$Machine" ∈ xTs := by
  refine ⟨rfl, rfl, fun w hw => ?_, by decide +kernel, by decide +kernel, ?_, xat_ok (q := some (2, 102)) (by decide +kernel) rfl, xat_ok (q := some (1, 9)) (by decide +kernel) rfl⟩
  · obtain ⟨k, hk, rfl⟩ := List.mem_map.mp hw
    have h1 : (List.range 20).all (fun k => xat (xpL_6 k) (u_lay "PacketWall$Machine" xF_6 k) && goodWord (u_lay "PacketWall$Machine" xF_6 k)) = true := by decide +kernel
    have h2 := List.all_eq_true.mp h1 k hk
    rw [Bool.and_eq_true] at h2
    exact xat_ok h2.1 h2.2
  · have h1 : ((List.range 20).map (fun k => (xF_6 k).2.1)).Pairwise (· ≠ ·) := by decide +kernel
    have h2 := List.pairwise_iff_getElem.mp h1
    intro a ha b hb hab he
    rcases Nat.lt_or_gt_of_ne hab with q | q
    · have h3 := h2 a b (by simpa using ha) (by simpa using hb) q
      simp only [List.getElem_map, List.getElem_range] at h3
      exact h3 he
    · have h3 := h2 b a (by simpa using hb) (by simpa using ha) q
      simp only [List.getElem_map, List.getElem_range] at h3
      exact h3 he.symm
noncomputable def xpL_7 (k : Nat) : Option (Nat × Nat) := bif Nat.blt k 3 then (bif Nat.blt k 1 then (bif Nat.beq k 0 then some ((2, 129)) else none) else (bif Nat.blt k 2 then (bif Nat.beq k 1 then some ((2, 131)) else none) else (bif Nat.beq k 2 then some ((2, 133)) else none))) else (bif Nat.blt k 5 then (bif Nat.blt k 4 then (bif Nat.beq k 3 then some ((2, 135)) else none) else (bif Nat.beq k 4 then some ((2, 137)) else none)) else (bif Nat.blt k 6 then (bif Nat.beq k 5 then some ((2, 139)) else none) else (bif Nat.beq k 6 then some ((2, 141)) else none)))
theorem xcl_7 : (xD_7).1 = 7 ∧ xon 7 = "PacketWall$Memory" ∧ (∀ w ∈ u_ws "PacketWall$Memory" xF_7 7, w ∈ xTs) ∧ (∀ k, k < 7 → parseFieldDescriptor (xF_7 k).2.2.1 = some ((xD_7).2 k).1) ∧ (∀ k, k < 7 → (xF_7 k).2.2.2 = ((xD_7).2 k).2 ∧ (xF_7 k).1 = "PacketWall$Memory") ∧ (∀ a, a < 7 → ∀ b, b < 7 → a ≠ b → (xF_7 a).2.1 ≠ (xF_7 b).2.1) ∧ Cond.instantiable "PacketWall$Memory" 7 ∈ xTs ∧ Cond.initialized "PacketWall$Memory" ∈ xTs := by
  refine ⟨rfl, rfl, fun w hw => ?_, by decide +kernel, by decide +kernel, ?_, xat_ok (q := some (2, 110)) (by decide +kernel) rfl, xat_ok (q := some (1, 10)) (by decide +kernel) rfl⟩
  · obtain ⟨k, hk, rfl⟩ := List.mem_map.mp hw
    have h1 : (List.range 7).all (fun k => xat (xpL_7 k) (u_lay "PacketWall$Memory" xF_7 k) && goodWord (u_lay "PacketWall$Memory" xF_7 k)) = true := by decide +kernel
    have h2 := List.all_eq_true.mp h1 k hk
    rw [Bool.and_eq_true] at h2
    exact xat_ok h2.1 h2.2
  · have h1 : ((List.range 7).map (fun k => (xF_7 k).2.1)).Pairwise (· ≠ ·) := by decide +kernel
    have h2 := List.pairwise_iff_getElem.mp h1
    intro a ha b hb hab he
    rcases Nat.lt_or_gt_of_ne hab with q | q
    · have h3 := h2 a b (by simpa using ha) (by simpa using hb) q
      simp only [List.getElem_map, List.getElem_range] at h3
      exact h3 he
    · have h3 := h2 b a (by simpa using hb) (by simpa using ha) q
      simp only [List.getElem_map, List.getElem_range] at h3
      exact h3 he.symm
noncomputable def xpL_8 (k : Nat) : Option (Nat × Nat) := bif Nat.blt k 1 then (bif Nat.beq k 0 then some ((1, 57)) else none) else (bif Nat.blt k 2 then (bif Nat.beq k 1 then some ((1, 59)) else none) else (bif Nat.beq k 2 then some ((1, 61)) else none))
theorem xcl_8 : (xD_8).1 = 3 ∧ xon 8 = "PacketWall$Packet" ∧ (∀ w ∈ u_ws "PacketWall$Packet" xF_8 3, w ∈ xTs) ∧ (∀ k, k < 3 → parseFieldDescriptor (xF_8 k).2.2.1 = some ((xD_8).2 k).1) ∧ (∀ k, k < 3 → (xF_8 k).2.2.2 = ((xD_8).2 k).2 ∧ (xF_8 k).1 = "PacketWall$Packet") ∧ (∀ a, a < 3 → ∀ b, b < 3 → a ≠ b → (xF_8 a).2.1 ≠ (xF_8 b).2.1) ∧ Cond.instantiable "PacketWall$Packet" 3 ∈ xTs ∧ Cond.initialized "PacketWall$Packet" ∈ xTs := by
  refine ⟨rfl, rfl, fun w hw => ?_, by decide +kernel, by decide +kernel, ?_, xat_ok (q := some (1, 38)) (by decide +kernel) rfl, xat_ok (q := some (1, 3)) (by decide +kernel) rfl⟩
  · obtain ⟨k, hk, rfl⟩ := List.mem_map.mp hw
    have h1 : (List.range 3).all (fun k => xat (xpL_8 k) (u_lay "PacketWall$Packet" xF_8 k) && goodWord (u_lay "PacketWall$Packet" xF_8 k)) = true := by decide +kernel
    have h2 := List.all_eq_true.mp h1 k hk
    rw [Bool.and_eq_true] at h2
    exact xat_ok h2.1 h2.2
  · have h1 : ((List.range 3).map (fun k => (xF_8 k).2.1)).Pairwise (· ≠ ·) := by decide +kernel
    have h2 := List.pairwise_iff_getElem.mp h1
    intro a ha b hb hab he
    rcases Nat.lt_or_gt_of_ne hab with q | q
    · have h3 := h2 a b (by simpa using ha) (by simpa using hb) q
      simp only [List.getElem_map, List.getElem_range] at h3
      exact h3 he
    · have h3 := h2 b a (by simpa using hb) (by simpa using ha) q
      simp only [List.getElem_map, List.getElem_range] at h3
      exact h3 he.symm
noncomputable def xpL_9_0 (k : Nat) : Option (Nat × Nat) := bif Nat.blt k 3 then (bif Nat.blt k 1 then (bif Nat.beq k 0 then some ((2, 76)) else none) else (bif Nat.blt k 2 then (bif Nat.beq k 1 then some ((2, 78)) else none) else (bif Nat.beq k 2 then some ((2, 80)) else none))) else (bif Nat.blt k 4 then (bif Nat.beq k 3 then some ((2, 82)) else none) else (bif Nat.blt k 5 then (bif Nat.beq k 4 then some ((2, 84)) else none) else (bif Nat.beq k 5 then some ((2, 86)) else none)))
noncomputable def xpL_9_1 (k : Nat) : Option (Nat × Nat) := bif Nat.blt k 9 then (bif Nat.blt k 7 then (bif Nat.beq k 6 then some ((2, 88)) else none) else (bif Nat.blt k 8 then (bif Nat.beq k 7 then some ((2, 90)) else none) else (bif Nat.beq k 8 then some ((2, 92)) else none))) else (bif Nat.blt k 10 then (bif Nat.beq k 9 then some ((2, 94)) else none) else (bif Nat.blt k 11 then (bif Nat.beq k 10 then some ((2, 96)) else none) else (bif Nat.beq k 11 then some ((2, 98)) else none)))
noncomputable def xpL_9 (k : Nat) : Option (Nat × Nat) := bif Nat.blt k 6 then (xpL_9_0 k) else (xpL_9_1 k)
