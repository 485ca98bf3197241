noncomputable def xpL_12_4 (k : Nat) : Option (Nat × Nat) := bif Nat.blt k 68 then (xpL_12_4_0 k) else (xpL_12_4_1 k)
noncomputable def xpL_12_5_0 (k : Nat) : Option (Nat × Nat) := bif Nat.blt k 79 then (bif Nat.blt k 77 then (bif Nat.blt k 76 then (bif Nat.beq k 75 then some ((9, 71)) else none) else (bif Nat.beq k 76 then some ((9, 73)) else none)) else (bif Nat.blt k 78 then (bif Nat.beq k 77 then some ((9, 75)) else none) else (bif Nat.beq k 78 then some ((9, 77)) else none))) else (bif Nat.blt k 81 then (bif Nat.blt k 80 then (bif Nat.beq k 79 then some ((9, 79)) else none) else (bif Nat.beq k 80 then some ((9, 81)) else none)) else (bif Nat.blt k 82 then (bif Nat.beq k 81 then some ((9, 83)) else none) else (bif Nat.beq k 82 then some ((9, 85)) else none)))
noncomputable def xpL_12_5_1 (k : Nat) : Option (Nat × Nat) := bif Nat.blt k 86 then (bif Nat.blt k 84 then (bif Nat.beq k 83 then some ((9, 87)) else none) else (bif Nat.blt k 85 then (bif Nat.beq k 84 then some ((9, 89)) else none) else (bif Nat.beq k 85 then some ((9, 91)) else none))) else (bif Nat.blt k 88 then (bif Nat.blt k 87 then (bif Nat.beq k 86 then some ((9, 93)) else none) else (bif Nat.beq k 87 then some ((9, 95)) else none)) else (bif Nat.blt k 89 then (bif Nat.beq k 88 then some ((9, 97)) else none) else (bif Nat.beq k 89 then some ((9, 99)) else none)))
noncomputable def xpL_12_5 (k : Nat) : Option (Nat × Nat) := bif Nat.blt k 83 then (xpL_12_5_0 k) else (xpL_12_5_1 k)
noncomputable def xpL_12_6_0 (k : Nat) : Option (Nat × Nat) := bif Nat.blt k 94 then (bif Nat.blt k 92 then (bif Nat.blt k 91 then (bif Nat.beq k 90 then some ((9, 101)) else none) else (bif Nat.beq k 91 then some ((9, 103)) else none)) else (bif Nat.blt k 93 then (bif Nat.beq k 92 then some ((9, 105)) else none) else (bif Nat.beq k 93 then some ((9, 107)) else none))) else (bif Nat.blt k 96 then (bif Nat.blt k 95 then (bif Nat.beq k 94 then some ((9, 109)) else none) else (bif Nat.beq k 95 then some ((9, 111)) else none)) else (bif Nat.blt k 97 then (bif Nat.beq k 96 then some ((9, 113)) else none) else (bif Nat.beq k 97 then some ((9, 115)) else none)))
noncomputable def xpL_12_6_1 (k : Nat) : Option (Nat × Nat) := bif Nat.blt k 101 then (bif Nat.blt k 99 then (bif Nat.beq k 98 then some ((9, 117)) else none) else (bif Nat.blt k 100 then (bif Nat.beq k 99 then some ((9, 119)) else none) else (bif Nat.beq k 100 then some ((9, 121)) else none))) else (bif Nat.blt k 103 then (bif Nat.blt k 102 then (bif Nat.beq k 101 then some ((9, 123)) else none) else (bif Nat.beq k 102 then some ((9, 125)) else none)) else (bif Nat.blt k 104 then (bif Nat.beq k 103 then some ((9, 127)) else none) else (bif Nat.beq k 104 then some ((9, 129)) else none)))
noncomputable def xpL_12_6 (k : Nat) : Option (Nat × Nat) := bif Nat.blt k 98 then (xpL_12_6_0 k) else (xpL_12_6_1 k)
noncomputable def xpL_12_7_0 (k : Nat) : Option (Nat × Nat) := bif Nat.blt k 109 then (bif Nat.blt k 107 then (bif Nat.blt k 106 then (bif Nat.beq k 105 then some ((9, 131)) else none) else (bif Nat.beq k 106 then some ((9, 133)) else none)) else (bif Nat.blt k 108 then (bif Nat.beq k 107 then some ((9, 135)) else none) else (bif Nat.beq k 108 then some ((9, 137)) else none))) else (bif Nat.blt k 111 then (bif Nat.blt k 110 then (bif Nat.beq k 109 then some ((9, 139)) else none) else (bif Nat.beq k 110 then some ((9, 141)) else none)) else (bif Nat.blt k 112 then (bif Nat.beq k 111 then some ((9, 143)) else none) else (bif Nat.beq k 112 then some ((9, 145)) else none)))
noncomputable def xpL_12_7_1 (k : Nat) : Option (Nat × Nat) := bif Nat.blt k 116 then (bif Nat.blt k 114 then (bif Nat.beq k 113 then some ((9, 147)) else none) else (bif Nat.blt k 115 then (bif Nat.beq k 114 then some ((9, 149)) else none) else (bif Nat.beq k 115 then some ((9, 151)) else none))) else (bif Nat.blt k 118 then (bif Nat.blt k 117 then (bif Nat.beq k 116 then some ((9, 153)) else none) else (bif Nat.beq k 117 then some ((9, 155)) else none)) else (bif Nat.blt k 119 then (bif Nat.beq k 118 then some ((9, 157)) else none) else (bif Nat.beq k 119 then some ((9, 159)) else none)))
noncomputable def xpL_12_7 (k : Nat) : Option (Nat × Nat) := bif Nat.blt k 113 then (xpL_12_7_0 k) else (xpL_12_7_1 k)
noncomputable def xpL_12_8_0 (k : Nat) : Option (Nat × Nat) := bif Nat.blt k 124 then (bif Nat.blt k 122 then (bif Nat.blt k 121 then (bif Nat.beq k 120 then some ((9, 161)) else none) else (bif Nat.beq k 121 then some ((9, 163)) else none)) else (bif Nat.blt k 123 then (bif Nat.beq k 122 then some ((9, 165)) else none) else (bif Nat.beq k 123 then some ((9, 167)) else none))) else (bif Nat.blt k 126 then (bif Nat.blt k 125 then (bif Nat.beq k 124 then some ((9, 169)) else none) else (bif Nat.beq k 125 then some ((9, 171)) else none)) else (bif Nat.blt k 127 then (bif Nat.beq k 126 then some ((9, 173)) else none) else (bif Nat.beq k 127 then some ((9, 175)) else none)))
noncomputable def xpL_12_8_1 (k : Nat) : Option (Nat × Nat) := bif Nat.blt k 131 then (bif Nat.blt k 129 then (bif Nat.beq k 128 then some ((9, 177)) else none) else (bif Nat.blt k 130 then (bif Nat.beq k 129 then some ((9, 179)) else none) else (bif Nat.beq k 130 then some ((9, 181)) else none))) else (bif Nat.blt k 133 then (bif Nat.blt k 132 then (bif Nat.beq k 131 then some ((9, 183)) else none) else (bif Nat.beq k 132 then some ((9, 185)) else none)) else (bif Nat.blt k 134 then (bif Nat.beq k 133 then some ((9, 187)) else none) else (bif Nat.beq k 134 then some ((9, 189)) else none)))
noncomputable def xpL_12_8 (k : Nat) : Option (Nat × Nat) := bif Nat.blt k 128 then (xpL_12_8_0 k) else (xpL_12_8_1 k)
noncomputable def xpL_12_9_0 (k : Nat) : Option (Nat × Nat) := bif Nat.blt k 138 then (bif Nat.blt k 136 then (bif Nat.beq k 135 then some ((9, 191)) else none) else (bif Nat.blt k 137 then (bif Nat.beq k 136 then some ((9, 193)) else none) else (bif Nat.beq k 137 then some ((9, 195)) else none))) else (bif Nat.blt k 140 then (bif Nat.blt k 139 then (bif Nat.beq k 138 then some ((9, 197)) else none) else (bif Nat.beq k 139 then some ((9, 199)) else none)) else (bif Nat.blt k 141 then (bif Nat.beq k 140 then some ((9, 201)) else none) else (bif Nat.beq k 141 then some ((9, 203)) else none)))
noncomputable def xpL_12_9_1 (k : Nat) : Option (Nat × Nat) := bif Nat.blt k 145 then (bif Nat.blt k 143 then (bif Nat.beq k 142 then some ((9, 205)) else none) else (bif Nat.blt k 144 then (bif Nat.beq k 143 then some ((9, 207)) else none) else (bif Nat.beq k 144 then some ((9, 209)) else none))) else (bif Nat.blt k 146 then (bif Nat.beq k 145 then some ((9, 211)) else none) else (bif Nat.blt k 147 then (bif Nat.beq k 146 then some ((9, 213)) else none) else (bif Nat.beq k 147 then some ((9, 215)) else none)))
noncomputable def xpL_12_9 (k : Nat) : Option (Nat × Nat) := bif Nat.blt k 142 then (xpL_12_9_0 k) else (xpL_12_9_1 k)
noncomputable def xpL_12 (k : Nat) : Option (Nat × Nat) := bif Nat.blt k 75 then (bif Nat.blt k 30 then (bif Nat.blt k 15 then (xpL_12_0 k) else (xpL_12_1 k)) else (bif Nat.blt k 45 then (xpL_12_2 k) else (bif Nat.blt k 60 then (xpL_12_3 k) else (xpL_12_4 k)))) else (bif Nat.blt k 105 then (bif Nat.blt k 90 then (xpL_12_5 k) else (xpL_12_6 k)) else (bif Nat.blt k 120 then (xpL_12_7 k) else (bif Nat.blt k 135 then (xpL_12_8 k) else (xpL_12_9 k))))
theorem xcl_12 : (xD_12).1 = 148 ∧ xon 12 = "PacketWallModel" ∧ (∀ w ∈ u_ws "PacketWallModel" xF_12 148, w ∈ xTs) ∧ (∀ k, k < 148 → parseFieldDescriptor (xF_12 k).2.2.1 = some ((xD_12).2 k).1) ∧ (∀ k, k < 148 → (xF_12 k).2.2.2 = ((xD_12).2 k).2 ∧ (xF_12 k).1 = "PacketWallModel") ∧ (∀ a, a < 148 → ∀ b, b < 148 → a ≠ b → (xF_12 a).2.1 ≠ (xF_12 b).2.1) ∧ Cond.instantiable "PacketWallModel" 148 ∈ xTs ∧ Cond.initialized "PacketWallModel" ∈ xTs := by
  refine ⟨rfl, rfl, fun w hw => ?_, by decide +kernel, by decide +kernel, ?_, xat_ok (q := some (8, 4)) (by decide +kernel) rfl, xat_ok (q := some (1, 13)) (by decide +kernel) rfl⟩
  · obtain ⟨k, hk, rfl⟩ := List.mem_map.mp hw
    have h1 : (List.range 148).all (fun k => xat (xpL_12 k) (u_lay "PacketWallModel" xF_12 k) && goodWord (u_lay "PacketWallModel" xF_12 k)) = true := by decide +kernel
    have h2 := List.all_eq_true.mp h1 k hk
    rw [Bool.and_eq_true] at h2
    exact xat_ok h2.1 h2.2
  · have h1 : ((List.range 148).map (fun k => (xF_12 k).2.1)).Pairwise (· ≠ ·) := by decide +kernel
    have h2 := List.pairwise_iff_getElem.mp h1
    intro a ha b hb hab he
    rcases Nat.lt_or_gt_of_ne hab with q | q
    · have h3 := h2 a b (by simpa using ha) (by simpa using hb) q
      simp only [List.getElem_map, List.getElem_range] at h3
      exact h3 he
    · have h3 := h2 b a (by simpa using hb) (by simpa using ha) q
      simp only [List.getElem_map, List.getElem_range] at h3
      exact h3 he.symm
theorem xok_D (A : Nat → Option (Nat × (Nat → Int32))) : ix_okD (xT A) xcl xon xTs := by
  intro ci r h
  match ci, h with
  | 0, h => cases h; exact xcl_0
  | 1, h => cases h; exact xcl_1
  | 2, h => cases h; exact xcl_2
  | 3, h => cases h; exact xcl_3
  | 4, h => cases h; exact xcl_4
  | 5, h => cases h; exact xcl_5
  | 6, h => cases h; exact xcl_6
  | 7, h => cases h; exact xcl_7
  | 8, h => cases h; exact xcl_8
  | 9, h => cases h; exact xcl_9
  | 10, h => cases h; exact xcl_10
  | 11, h => cases h; exact xcl_11
  | 12, h => cases h; exact xcl_12
  | n + 13, h => cases h

