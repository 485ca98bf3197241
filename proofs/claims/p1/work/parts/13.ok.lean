/-! ===== the tables are right ===== -/
def xW (k : Nat) : List Cond := match k with
  | 0 => k2_sels lw_privs
  | 1 => tables_1_1
  | 2 => tables_1_2
  | 3 => tables_1_3
  | 4 => tables_1_4
  | 5 => tables_1_5
  | 6 => tables_1_6
  | 7 => tables_1_7
  | 8 => tables_1_8
  | 9 => tables_1_9
  | 10 => tables_1_10
  | 11 => tables_1_11
  | 12 => tables_1_12
  | _ => []
theorem xW_in : ∀ (k : Nat) (w : Cond), w ∈ xW k → w ∈ lw_tbl
  | 0, w, h => List.mem_append_left _ h
  | 1, w, h => List.mem_append_right _ (List.mem_append_left _ h)
  | 2, w, h => List.mem_append_right _ (List.mem_append_right _ (List.mem_append_left _ h))
  | 3, w, h => List.mem_append_right _ (List.mem_append_right _ (List.mem_append_right _ (List.mem_append_left _ h)))
  | 4, w, h => List.mem_append_right _ (List.mem_append_right _ (List.mem_append_right _ (List.mem_append_right _ (List.mem_append_left _ h))))
  | 5, w, h => List.mem_append_right _ (List.mem_append_right _ (List.mem_append_right _ (List.mem_append_right _ (List.mem_append_right _ (List.mem_append_left _ h)))))
  | 6, w, h => List.mem_append_right _ (List.mem_append_right _ (List.mem_append_right _ (List.mem_append_right _ (List.mem_append_right _ (List.mem_append_right _ (List.mem_append_left _ h))))))
  | 7, w, h => List.mem_append_right _ (List.mem_append_right _ (List.mem_append_right _ (List.mem_append_right _ (List.mem_append_right _ (List.mem_append_right _ (List.mem_append_right _ (List.mem_append_left _ h)))))))
  | 8, w, h => List.mem_append_right _ (List.mem_append_right _ (List.mem_append_right _ (List.mem_append_right _ (List.mem_append_right _ (List.mem_append_right _ (List.mem_append_right _ (List.mem_append_right _ (List.mem_append_left _ h))))))))
  | 9, w, h => List.mem_append_right _ (List.mem_append_right _ (List.mem_append_right _ (List.mem_append_right _ (List.mem_append_right _ (List.mem_append_right _ (List.mem_append_right _ (List.mem_append_right _ (List.mem_append_right _ (List.mem_append_left _ h)))))))))
  | 10, w, h => List.mem_append_right _ (List.mem_append_right _ (List.mem_append_right _ (List.mem_append_right _ (List.mem_append_right _ (List.mem_append_right _ (List.mem_append_right _ (List.mem_append_right _ (List.mem_append_right _ (List.mem_append_right _ (List.mem_append_left _ h))))))))))
  | 11, w, h => List.mem_append_right _ (List.mem_append_right _ (List.mem_append_right _ (List.mem_append_right _ (List.mem_append_right _ (List.mem_append_right _ (List.mem_append_right _ (List.mem_append_right _ (List.mem_append_right _ (List.mem_append_right _ (List.mem_append_right _ (List.mem_append_left _ h)))))))))))
  | 12, w, h => List.mem_append_right _ (List.mem_append_right _ (List.mem_append_right _ (List.mem_append_right _ (List.mem_append_right _ (List.mem_append_right _ (List.mem_append_right _ (List.mem_append_right _ (List.mem_append_right _ (List.mem_append_right _ (List.mem_append_right _ (List.mem_append_right _ (h))))))))))))
  | k + 13, w, h => by cases h
def xTs : List Cond := lw_tbl.filter goodWord
theorem xTs_good : ∀ w ∈ xTs, goodWord w = true := fun _ h => (List.mem_filter.mp h).2
theorem xTs_at {k i : Nat} {w : Cond} (h : (xW k)[i]? = some w) (hg : goodWord w = true) : w ∈ xTs := List.mem_filter.mpr ⟨xW_in k w (List.mem_of_getElem? h), hg⟩
/-- the word at a place -/
def xat (q : Option (Nat × Nat)) (w : Cond) : Bool := match q with
  | none => false
  | some (k, i) => decide ((xW k)[i]? = some w)
theorem xat_ok {q : Option (Nat × Nat)} {w : Cond} (h : xat q w = true) (hg : goodWord w = true) : w ∈ xTs := by
  unfold xat at h
  split at h
  · cases h
  · exact xTs_at (of_decide_eq_true h) hg
def xpF_0_0 (idx : Nat) : Option (Nat × Nat) := bif Nat.blt idx 31 then (bif Nat.blt idx 22 then (bif Nat.blt idx 15 then (bif Nat.beq idx 9 then some ((3, 21)) else none) else (bif Nat.beq idx 15 then some ((3, 23)) else none)) else (bif Nat.blt idx 26 then (bif Nat.beq idx 22 then some ((3, 24)) else none) else (bif Nat.beq idx 26 then some ((3, 25)) else none))) else (bif Nat.blt idx 40 then (bif Nat.blt idx 36 then (bif Nat.beq idx 31 then some ((3, 26)) else none) else (bif Nat.beq idx 36 then some ((3, 27)) else none)) else (bif Nat.blt idx 46 then (bif Nat.beq idx 40 then some ((3, 28)) else none) else (bif Nat.blt idx 53 then (bif Nat.beq idx 46 then some ((3, 30)) else none) else (bif Nat.beq idx 53 then some ((3, 31)) else none))))
def xpF_0_1 (idx : Nat) : Option (Nat × Nat) := bif Nat.blt idx 74 then (bif Nat.blt idx 67 then (bif Nat.blt idx 64 then (bif Nat.beq idx 60 then some ((3, 32)) else none) else (bif Nat.beq idx 64 then some ((3, 33)) else none)) else (bif Nat.blt idx 70 then (bif Nat.beq idx 67 then some ((3, 34)) else none) else (bif Nat.beq idx 70 then some ((3, 35)) else none))) else (bif Nat.blt idx 91 then (bif Nat.blt idx 82 then (bif Nat.beq idx 74 then some ((3, 22)) else none) else (bif Nat.beq idx 82 then some ((1, 44)) else none)) else (bif Nat.blt idx 94 then (bif Nat.beq idx 91 then some ((1, 49)) else none) else (bif Nat.blt idx 118 then (bif Nat.beq idx 94 then some ((1, 55)) else none) else (bif Nat.beq idx 118 then some ((1, 72)) else none))))
def xpF_0_2 (idx : Nat) : Option (Nat × Nat) := bif Nat.blt idx 176 then (bif Nat.blt idx 127 then (bif Nat.blt idx 124 then (bif Nat.beq idx 121 then some ((1, 70)) else none) else (bif Nat.beq idx 124 then some ((1, 75)) else none)) else (bif Nat.blt idx 166 then (bif Nat.beq idx 127 then some ((1, 77)) else none) else (bif Nat.beq idx 166 then some ((1, 117)) else none))) else (bif Nat.blt idx 197 then (bif Nat.blt idx 194 then (bif Nat.beq idx 176 then some ((3, 29)) else none) else (bif Nat.beq idx 194 then some ((1, 115)) else none)) else (bif Nat.blt idx 215 then (bif Nat.beq idx 197 then some ((1, 108)) else none) else (bif Nat.blt idx 231 then (bif Nat.beq idx 215 then some ((1, 229)) else none) else (bif Nat.beq idx 231 then some ((1, 168)) else none))))
def xpF_0_3 (idx : Nat) : Option (Nat × Nat) := bif Nat.blt idx 272 then (bif Nat.blt idx 268 then (bif Nat.blt idx 264 then (bif Nat.beq idx 261 then some ((2, 62)) else none) else (bif Nat.beq idx 264 then some ((2, 200)) else none)) else (bif Nat.blt idx 269 then (bif Nat.beq idx 268 then some ((2, 66)) else none) else (bif Nat.beq idx 269 then some ((2, 36)) else none))) else (bif Nat.blt idx 295 then (bif Nat.blt idx 291 then (bif Nat.beq idx 272 then some ((2, 64)) else none) else (bif Nat.beq idx 291 then some ((2, 198)) else none)) else (bif Nat.blt idx 304 then (bif Nat.beq idx 295 then some ((2, 116)) else none) else (bif Nat.blt idx 310 then (bif Nat.beq idx 304 then some ((2, 123)) else none) else (bif Nat.beq idx 310 then some ((2, 120)) else none))))
def xpF_0_4 (idx : Nat) : Option (Nat × Nat) := bif Nat.blt idx 347 then (bif Nat.blt idx 319 then (bif Nat.beq idx 315 then some ((2, 196)) else none) else (bif Nat.blt idx 327 then (bif Nat.beq idx 319 then some ((2, 157)) else none) else (bif Nat.beq idx 327 then some ((2, 162)) else none))) else (bif Nat.blt idx 350 then (bif Nat.beq idx 347 then some ((2, 39)) else none) else (bif Nat.blt idx 353 then (bif Nat.beq idx 350 then some ((2, 202)) else none) else (bif Nat.beq idx 353 then some ((2, 126)) else none)))
def xpF_0 (idx : Nat) : Option (Nat × Nat) := bif Nat.blt idx 121 then (bif Nat.blt idx 60 then (xpF_0_0 idx) else (xpF_0_1 idx)) else (bif Nat.blt idx 261 then (xpF_0_2 idx) else (bif Nat.blt idx 315 then (xpF_0_3 idx) else (xpF_0_4 idx)))
def xpF_1_0 (idx : Nat) : Option (Nat × Nat) := bif Nat.blt idx 26 then (bif Nat.blt idx 19 then (bif Nat.blt idx 15 then (bif Nat.beq idx 9 then some ((1, 173)) else none) else (bif Nat.beq idx 15 then some ((1, 175)) else none)) else (bif Nat.blt idx 22 then (bif Nat.beq idx 19 then some ((1, 181)) else none) else (bif Nat.beq idx 22 then some ((1, 182)) else none))) else (bif Nat.blt idx 32 then (bif Nat.blt idx 29 then (bif Nat.beq idx 26 then some ((1, 183)) else none) else (bif Nat.beq idx 29 then some ((1, 184)) else none)) else (bif Nat.blt idx 35 then (bif Nat.beq idx 32 then some ((1, 185)) else none) else (bif Nat.blt idx 39 then (bif Nat.beq idx 35 then some ((1, 187)) else none) else (bif Nat.beq idx 39 then some ((1, 191)) else none))))
def xpF_1_1 (idx : Nat) : Option (Nat × Nat) := bif Nat.blt idx 71 then (bif Nat.blt idx 62 then (bif Nat.blt idx 52 then (bif Nat.beq idx 48 then some ((1, 169)) else none) else (bif Nat.beq idx 52 then some ((1, 171)) else none)) else (bif Nat.blt idx 65 then (bif Nat.beq idx 62 then some ((1, 167)) else none) else (bif Nat.beq idx 65 then some ((1, 177)) else none))) else (bif Nat.blt idx 86 then (bif Nat.blt idx 78 then (bif Nat.beq idx 71 then some ((1, 186)) else none) else (bif Nat.beq idx 78 then some ((1, 189)) else none)) else (bif Nat.blt idx 90 then (bif Nat.beq idx 86 then some ((1, 81)) else none) else (bif Nat.blt idx 99 then (bif Nat.beq idx 90 then some ((1, 50)) else none) else (bif Nat.beq idx 99 then some ((1, 180)) else none))))
def xpF_1 (idx : Nat) : Option (Nat × Nat) := bif Nat.blt idx 48 then (xpF_1_0 idx) else (xpF_1_1 idx)
def xpF_2_0 (idx : Nat) : Option (Nat × Nat) := bif Nat.blt idx 29 then (bif Nat.blt idx 21 then (bif Nat.blt idx 17 then (bif Nat.beq idx 13 then some ((1, 228)) else none) else (bif Nat.beq idx 17 then some ((1, 230)) else none)) else (bif Nat.blt idx 25 then (bif Nat.beq idx 21 then some ((1, 231)) else none) else (bif Nat.beq idx 25 then some ((1, 235)) else none))) else (bif Nat.blt idx 36 then (bif Nat.blt idx 33 then (bif Nat.beq idx 29 then some ((1, 236)) else none) else (bif Nat.beq idx 33 then some ((1, 237)) else none)) else (bif Nat.blt idx 40 then (bif Nat.beq idx 36 then some ((1, 166)) else none) else (bif Nat.beq idx 40 then some ((1, 179)) else none)))
def xpF_2_1 (idx : Nat) : Option (Nat × Nat) := bif Nat.blt idx 81 then (bif Nat.blt idx 66 then (bif Nat.blt idx 59 then (bif Nat.beq idx 48 then some ((1, 178)) else none) else (bif Nat.beq idx 59 then some ((1, 234)) else none)) else (bif Nat.blt idx 78 then (bif Nat.beq idx 66 then some ((1, 233)) else none) else (bif Nat.beq idx 78 then some ((1, 188)) else none))) else (bif Nat.blt idx 91 then (bif Nat.blt idx 84 then (bif Nat.beq idx 81 then some ((1, 170)) else none) else (bif Nat.beq idx 84 then some ((1, 172)) else none)) else (bif Nat.blt idx 95 then (bif Nat.beq idx 91 then some ((1, 190)) else none) else (bif Nat.beq idx 95 then some ((1, 192)) else none)))
def xpF_2_2 (idx : Nat) : Option (Nat × Nat) := bif Nat.blt idx 116 then (bif Nat.blt idx 104 then (bif Nat.beq idx 98 then some ((1, 82)) else none) else (bif Nat.blt idx 109 then (bif Nat.beq idx 104 then some ((1, 47)) else none) else (bif Nat.beq idx 109 then some ((1, 232)) else none))) else (bif Nat.blt idx 123 then (bif Nat.beq idx 116 then some ((1, 174)) else none) else (bif Nat.blt idx 156 then (bif Nat.beq idx 123 then some ((1, 176)) else none) else (bif Nat.beq idx 156 then some ((1, 73)) else none)))
def xpF_2 (idx : Nat) : Option (Nat × Nat) := bif Nat.blt idx 48 then (xpF_2_0 idx) else (bif Nat.blt idx 98 then (xpF_2_1 idx) else (xpF_2_2 idx))
def xpF_3 (idx : Nat) : Option (Nat × Nat) := bif Nat.beq idx 10 then some ((2, 184)) else none
def xpF_4_0 (idx : Nat) : Option (Nat × Nat) := bif Nat.blt idx 34 then (bif Nat.blt idx 19 then (bif Nat.blt idx 15 then (bif Nat.beq idx 9 then some ((1, 116)) else none) else (bif Nat.beq idx 15 then some ((1, 119)) else none)) else (bif Nat.blt idx 22 then (bif Nat.beq idx 19 then some ((1, 120)) else none) else (bif Nat.beq idx 22 then some ((1, 121)) else none))) else (bif Nat.blt idx 45 then (bif Nat.blt idx 41 then (bif Nat.beq idx 34 then some ((1, 109)) else none) else (bif Nat.beq idx 41 then some ((1, 110)) else none)) else (bif Nat.blt idx 51 then (bif Nat.beq idx 45 then some ((1, 111)) else none) else (bif Nat.blt idx 54 then (bif Nat.beq idx 51 then some ((1, 112)) else none) else (bif Nat.beq idx 54 then some ((1, 113)) else none))))
def xpF_4_1 (idx : Nat) : Option (Nat × Nat) := bif Nat.blt idx 109 then (bif Nat.blt idx 64 then (bif Nat.blt idx 61 then (bif Nat.beq idx 57 then some ((1, 107)) else none) else (bif Nat.beq idx 61 then some ((1, 114)) else none)) else (bif Nat.blt idx 91 then (bif Nat.beq idx 64 then some ((1, 118)) else none) else (bif Nat.beq idx 91 then some ((1, 80)) else none))) else (bif Nat.blt idx 124 then (bif Nat.blt idx 121 then (bif Nat.beq idx 109 then some ((1, 46)) else none) else (bif Nat.beq idx 121 then some ((1, 51)) else none)) else (bif Nat.blt idx 127 then (bif Nat.beq idx 124 then some ((1, 56)) else none) else (bif Nat.blt idx 142 then (bif Nat.beq idx 127 then some ((1, 122)) else none) else (bif Nat.beq idx 142 then some ((1, 123)) else none))))
def xpF_4 (idx : Nat) : Option (Nat × Nat) := bif Nat.blt idx 57 then (xpF_4_0 idx) else (xpF_4_1 idx)
def xpF_5 (idx : Nat) : Option (Nat × Nat) := bif Nat.blt idx 32 then (bif Nat.blt idx 18 then (bif Nat.blt idx 15 then (bif Nat.beq idx 11 then some ((1, 65)) else none) else (bif Nat.beq idx 15 then some ((1, 66)) else none)) else (bif Nat.blt idx 24 then (bif Nat.beq idx 18 then some ((1, 67)) else none) else (bif Nat.blt idx 28 then (bif Nat.beq idx 24 then some ((1, 78)) else none) else (bif Nat.beq idx 28 then some ((1, 68)) else none)))) else (bif Nat.blt idx 38 then (bif Nat.blt idx 35 then (bif Nat.beq idx 32 then some ((1, 71)) else none) else (bif Nat.beq idx 35 then some ((1, 74)) else none)) else (bif Nat.blt idx 68 then (bif Nat.beq idx 38 then some ((1, 76)) else none) else (bif Nat.blt idx 116 then (bif Nat.beq idx 68 then some ((1, 45)) else none) else (bif Nat.beq idx 116 then some ((1, 52)) else none))))
def xpF_6_0 (idx : Nat) : Option (Nat × Nat) := bif Nat.blt idx 37 then (bif Nat.blt idx 27 then (bif Nat.blt idx 20 then (bif Nat.beq idx 11 then some ((2, 195)) else none) else (bif Nat.beq idx 20 then some ((2, 197)) else none)) else (bif Nat.blt idx 33 then (bif Nat.beq idx 27 then some ((2, 199)) else none) else (bif Nat.beq idx 33 then some ((2, 205)) else none))) else (bif Nat.blt idx 48 then (bif Nat.blt idx 41 then (bif Nat.beq idx 37 then some ((2, 207)) else none) else (bif Nat.beq idx 41 then some ((2, 209)) else none)) else (bif Nat.blt idx 54 then (bif Nat.beq idx 48 then some ((2, 211)) else none) else (bif Nat.blt idx 58 then (bif Nat.beq idx 54 then some ((2, 201)) else none) else (bif Nat.beq idx 58 then some ((2, 210)) else none))))
def xpF_6_1 (idx : Nat) : Option (Nat × Nat) := bif Nat.blt idx 78 then (bif Nat.blt idx 68 then (bif Nat.blt idx 65 then (bif Nat.beq idx 62 then some ((2, 212)) else none) else (bif Nat.beq idx 65 then some ((2, 213)) else none)) else (bif Nat.blt idx 74 then (bif Nat.beq idx 68 then some ((2, 214)) else none) else (bif Nat.beq idx 74 then some ((1, 79)) else none))) else (bif Nat.blt idx 85 then (bif Nat.blt idx 84 then (bif Nat.beq idx 78 then some ((1, 54)) else none) else (bif Nat.beq idx 84 then some ((2, 128)) else none)) else (bif Nat.blt idx 88 then (bif Nat.beq idx 85 then some ((2, 206)) else none) else (bif Nat.blt idx 91 then (bif Nat.beq idx 88 then some ((2, 208)) else none) else (bif Nat.beq idx 91 then some ((2, 218)) else none))))
def xpF_6_2 (idx : Nat) : Option (Nat × Nat) := bif Nat.blt idx 147 then (bif Nat.blt idx 114 then (bif Nat.blt idx 108 then (bif Nat.beq idx 102 then some ((2, 203)) else none) else (bif Nat.beq idx 108 then some ((2, 217)) else none)) else (bif Nat.blt idx 141 then (bif Nat.beq idx 114 then some ((2, 215)) else none) else (bif Nat.beq idx 141 then some ((2, 181)) else none))) else (bif Nat.blt idx 153 then (bif Nat.blt idx 150 then (bif Nat.beq idx 147 then some ((2, 182)) else none) else (bif Nat.beq idx 150 then some ((2, 183)) else none)) else (bif Nat.blt idx 160 then (bif Nat.beq idx 153 then some ((2, 185)) else none) else (bif Nat.blt idx 163 then (bif Nat.beq idx 160 then some ((2, 42)) else none) else (bif Nat.beq idx 163 then some ((2, 216)) else none))))
def xpF_6_3 (idx : Nat) : Option (Nat × Nat) := bif Nat.blt idx 265 then (bif Nat.blt idx 250 then (bif Nat.blt idx 212 then (bif Nat.beq idx 166 then some ((2, 45)) else none) else (bif Nat.beq idx 212 then some ((1, 53)) else none)) else (bif Nat.blt idx 256 then (bif Nat.beq idx 250 then some ((2, 119)) else none) else (bif Nat.beq idx 256 then some ((2, 159)) else none))) else (bif Nat.blt idx 282 then (bif Nat.blt idx 279 then (bif Nat.beq idx 265 then some ((2, 161)) else none) else (bif Nat.beq idx 279 then some ((2, 164)) else none)) else (bif Nat.blt idx 320 then (bif Nat.beq idx 282 then some ((2, 156)) else none) else (bif Nat.blt idx 342 then (bif Nat.beq idx 320 then some ((2, 117)) else none) else (bif Nat.beq idx 342 then some ((2, 204)) else none))))
def xpF_6 (idx : Nat) : Option (Nat × Nat) := bif Nat.blt idx 102 then (bif Nat.blt idx 62 then (xpF_6_0 idx) else (xpF_6_1 idx)) else (bif Nat.blt idx 166 then (xpF_6_2 idx) else (xpF_6_3 idx))
def xpF_7 (idx : Nat) : Option (Nat × Nat) := bif Nat.blt idx 22 then (bif Nat.blt idx 15 then (bif Nat.beq idx 9 then some ((2, 115)) else none) else (bif Nat.blt idx 19 then (bif Nat.beq idx 15 then some ((2, 118)) else none) else (bif Nat.beq idx 19 then some ((2, 121)) else none))) else (bif Nat.blt idx 34 then (bif Nat.blt idx 25 then (bif Nat.beq idx 22 then some ((2, 122)) else none) else (bif Nat.beq idx 25 then some ((2, 124)) else none)) else (bif Nat.blt idx 38 then (bif Nat.beq idx 34 then some ((2, 125)) else none) else (bif Nat.beq idx 38 then some ((2, 127)) else none)))
def xpF_8 (idx : Nat) : Option (Nat × Nat) := bif Nat.blt idx 15 then (bif Nat.beq idx 9 then some ((1, 43)) else none) else (bif Nat.beq idx 15 then some ((1, 48)) else none)
def xpF_9_0 (idx : Nat) : Option (Nat × Nat) := bif Nat.blt idx 29 then (bif Nat.blt idx 22 then (bif Nat.blt idx 18 then (bif Nat.beq idx 9 then some ((2, 63)) else none) else (bif Nat.beq idx 18 then some ((2, 65)) else none)) else (bif Nat.blt idx 26 then (bif Nat.beq idx 22 then some ((2, 67)) else none) else (bif Nat.beq idx 26 then some ((2, 69)) else none))) else (bif Nat.blt idx 38 then (bif Nat.blt idx 35 then (bif Nat.beq idx 29 then some ((2, 68)) else none) else (bif Nat.beq idx 35 then some ((2, 61)) else none)) else (bif Nat.blt idx 44 then (bif Nat.beq idx 38 then some ((2, 72)) else none) else (bif Nat.blt idx 54 then (bif Nat.beq idx 44 then some ((2, 70)) else none) else (bif Nat.beq idx 54 then some ((2, 35)) else none))))
def xpF_9_1 (idx : Nat) : Option (Nat × Nat) := bif Nat.blt idx 104 then (bif Nat.blt idx 75 then (bif Nat.blt idx 72 then (bif Nat.beq idx 65 then some ((2, 71)) else none) else (bif Nat.beq idx 72 then some ((2, 41)) else none)) else (bif Nat.blt idx 86 then (bif Nat.beq idx 75 then some ((2, 33)) else none) else (bif Nat.beq idx 86 then some ((2, 44)) else none))) else (bif Nat.blt idx 140 then (bif Nat.blt idx 136 then (bif Nat.beq idx 104 then some ((2, 74)) else none) else (bif Nat.beq idx 136 then some ((2, 75)) else none)) else (bif Nat.blt idx 163 then (bif Nat.beq idx 140 then some ((2, 73)) else none) else (bif Nat.blt idx 224 then (bif Nat.beq idx 163 then some ((2, 31)) else none) else (bif Nat.beq idx 224 then some ((2, 38)) else none))))
def xpF_9 (idx : Nat) : Option (Nat × Nat) := bif Nat.blt idx 65 then (xpF_9_0 idx) else (xpF_9_1 idx)
def xpF_10 (idx : Nat) : Option (Nat × Nat) := bif Nat.blt idx 19 then (bif Nat.blt idx 13 then (bif Nat.beq idx 9 then some ((2, 29)) else none) else (bif Nat.blt idx 16 then (bif Nat.beq idx 13 then some ((2, 30)) else none) else (bif Nat.beq idx 16 then some ((2, 40)) else none))) else (bif Nat.blt idx 26 then (bif Nat.blt idx 22 then (bif Nat.beq idx 19 then some ((2, 43)) else none) else (bif Nat.beq idx 22 then some ((2, 32)) else none)) else (bif Nat.blt idx 29 then (bif Nat.beq idx 26 then some ((2, 34)) else none) else (bif Nat.beq idx 29 then some ((2, 37)) else none)))
def xpF_11 (idx : Nat) : Option (Nat × Nat) := bif Nat.blt idx 21 then (bif Nat.blt idx 15 then (bif Nat.beq idx 9 then some ((2, 155)) else none) else (bif Nat.beq idx 15 then some ((2, 160)) else none)) else (bif Nat.blt idx 24 then (bif Nat.beq idx 21 then some ((2, 163)) else none) else (bif Nat.blt idx 33 then (bif Nat.beq idx 24 then some ((2, 158)) else none) else (bif Nat.beq idx 33 then some ((1, 69)) else none)))
def xpF_12_0_0 (idx : Nat) : Option (Nat × Nat) := bif Nat.blt idx 23 then (bif Nat.blt idx 16 then (bif Nat.blt idx 13 then (bif Nat.beq idx 7 then some ((8, 13)) else none) else (bif Nat.beq idx 13 then some ((8, 16)) else none)) else (bif Nat.blt idx 19 then (bif Nat.beq idx 16 then some ((8, 17)) else none) else (bif Nat.beq idx 19 then some ((8, 18)) else none))) else (bif Nat.blt idx 29 then (bif Nat.blt idx 26 then (bif Nat.beq idx 23 then some ((8, 20)) else none) else (bif Nat.beq idx 26 then some ((8, 21)) else none)) else (bif Nat.blt idx 32 then (bif Nat.beq idx 29 then some ((8, 22)) else none) else (bif Nat.beq idx 32 then some ((8, 26)) else none)))
def xpF_12_0_1 (idx : Nat) : Option (Nat × Nat) := bif Nat.blt idx 45 then (bif Nat.blt idx 39 then (bif Nat.beq idx 36 then some ((8, 27)) else none) else (bif Nat.blt idx 42 then (bif Nat.beq idx 39 then some ((8, 28)) else none) else (bif Nat.beq idx 42 then some ((8, 29)) else none))) else (bif Nat.blt idx 52 then (bif Nat.blt idx 49 then (bif Nat.beq idx 45 then some ((8, 30)) else none) else (bif Nat.beq idx 49 then some ((8, 31)) else none)) else (bif Nat.blt idx 55 then (bif Nat.beq idx 52 then some ((8, 32)) else none) else (bif Nat.beq idx 55 then some ((8, 33)) else none)))
def xpF_12_0 (idx : Nat) : Option (Nat × Nat) := bif Nat.blt idx 36 then (xpF_12_0_0 idx) else (xpF_12_0_1 idx)
def xpF_12_1_0 (idx : Nat) : Option (Nat × Nat) := bif Nat.blt idx 70 then (bif Nat.blt idx 64 then (bif Nat.blt idx 61 then (bif Nat.beq idx 58 then some ((8, 34)) else none) else (bif Nat.beq idx 61 then some ((8, 35)) else none)) else (bif Nat.blt idx 67 then (bif Nat.beq idx 64 then some ((8, 36)) else none) else (bif Nat.beq idx 67 then some ((8, 37)) else none))) else (bif Nat.blt idx 76 then (bif Nat.blt idx 73 then (bif Nat.beq idx 70 then some ((8, 38)) else none) else (bif Nat.beq idx 73 then some ((8, 39)) else none)) else (bif Nat.blt idx 79 then (bif Nat.beq idx 76 then some ((8, 40)) else none) else (bif Nat.beq idx 79 then some ((8, 41)) else none)))
def xpF_12_1_1 (idx : Nat) : Option (Nat × Nat) := bif Nat.blt idx 91 then (bif Nat.blt idx 85 then (bif Nat.beq idx 82 then some ((8, 42)) else none) else (bif Nat.blt idx 88 then (bif Nat.beq idx 85 then some ((8, 43)) else none) else (bif Nat.beq idx 88 then some ((8, 44)) else none))) else (bif Nat.blt idx 97 then (bif Nat.blt idx 94 then (bif Nat.beq idx 91 then some ((8, 45)) else none) else (bif Nat.beq idx 94 then some ((8, 46)) else none)) else (bif Nat.blt idx 100 then (bif Nat.beq idx 97 then some ((8, 48)) else none) else (bif Nat.beq idx 100 then some ((8, 49)) else none)))
def xpF_12_1 (idx : Nat) : Option (Nat × Nat) := bif Nat.blt idx 82 then (xpF_12_1_0 idx) else (xpF_12_1_1 idx)
def xpF_12_2_0 (idx : Nat) : Option (Nat × Nat) := bif Nat.blt idx 115 then (bif Nat.blt idx 109 then (bif Nat.blt idx 106 then (bif Nat.beq idx 103 then some ((8, 50)) else none) else (bif Nat.beq idx 106 then some ((8, 51)) else none)) else (bif Nat.blt idx 112 then (bif Nat.beq idx 109 then some ((8, 52)) else none) else (bif Nat.beq idx 112 then some ((8, 53)) else none))) else (bif Nat.blt idx 121 then (bif Nat.blt idx 118 then (bif Nat.beq idx 115 then some ((8, 54)) else none) else (bif Nat.beq idx 118 then some ((8, 55)) else none)) else (bif Nat.blt idx 124 then (bif Nat.beq idx 121 then some ((8, 56)) else none) else (bif Nat.beq idx 124 then some ((8, 57)) else none)))
def xpF_12_2_1 (idx : Nat) : Option (Nat × Nat) := bif Nat.blt idx 136 then (bif Nat.blt idx 130 then (bif Nat.beq idx 127 then some ((8, 58)) else none) else (bif Nat.blt idx 133 then (bif Nat.beq idx 130 then some ((8, 59)) else none) else (bif Nat.beq idx 133 then some ((8, 60)) else none))) else (bif Nat.blt idx 142 then (bif Nat.blt idx 139 then (bif Nat.beq idx 136 then some ((8, 61)) else none) else (bif Nat.beq idx 139 then some ((8, 62)) else none)) else (bif Nat.blt idx 145 then (bif Nat.beq idx 142 then some ((8, 63)) else none) else (bif Nat.beq idx 145 then some ((8, 64)) else none)))
def xpF_12_2 (idx : Nat) : Option (Nat × Nat) := bif Nat.blt idx 127 then (xpF_12_2_0 idx) else (xpF_12_2_1 idx)
def xpF_12_3_0 (idx : Nat) : Option (Nat × Nat) := bif Nat.blt idx 160 then (bif Nat.blt idx 154 then (bif Nat.blt idx 151 then (bif Nat.beq idx 148 then some ((8, 65)) else none) else (bif Nat.beq idx 151 then some ((8, 66)) else none)) else (bif Nat.blt idx 157 then (bif Nat.beq idx 154 then some ((8, 67)) else none) else (bif Nat.beq idx 157 then some ((8, 68)) else none))) else (bif Nat.blt idx 166 then (bif Nat.blt idx 163 then (bif Nat.beq idx 160 then some ((8, 69)) else none) else (bif Nat.beq idx 163 then some ((8, 70)) else none)) else (bif Nat.blt idx 169 then (bif Nat.beq idx 166 then some ((8, 71)) else none) else (bif Nat.beq idx 169 then some ((8, 80)) else none)))
def xpF_12_3_1 (idx : Nat) : Option (Nat × Nat) := bif Nat.blt idx 181 then (bif Nat.blt idx 175 then (bif Nat.beq idx 172 then some ((8, 81)) else none) else (bif Nat.blt idx 178 then (bif Nat.beq idx 175 then some ((8, 82)) else none) else (bif Nat.beq idx 178 then some ((8, 83)) else none))) else (bif Nat.blt idx 187 then (bif Nat.blt idx 184 then (bif Nat.beq idx 181 then some ((8, 84)) else none) else (bif Nat.beq idx 184 then some ((8, 94)) else none)) else (bif Nat.blt idx 190 then (bif Nat.beq idx 187 then some ((8, 97)) else none) else (bif Nat.beq idx 190 then some ((8, 98)) else none)))
def xpF_12_3 (idx : Nat) : Option (Nat × Nat) := bif Nat.blt idx 172 then (xpF_12_3_0 idx) else (xpF_12_3_1 idx)
def xpF_12_4_0 (idx : Nat) : Option (Nat × Nat) := bif Nat.blt idx 205 then (bif Nat.blt idx 199 then (bif Nat.blt idx 196 then (bif Nat.beq idx 193 then some ((8, 99)) else none) else (bif Nat.beq idx 196 then some ((8, 100)) else none)) else (bif Nat.blt idx 202 then (bif Nat.beq idx 199 then some ((8, 104)) else none) else (bif Nat.beq idx 202 then some ((8, 105)) else none))) else (bif Nat.blt idx 211 then (bif Nat.blt idx 208 then (bif Nat.beq idx 205 then some ((8, 106)) else none) else (bif Nat.beq idx 208 then some ((8, 107)) else none)) else (bif Nat.blt idx 214 then (bif Nat.beq idx 211 then some ((8, 108)) else none) else (bif Nat.beq idx 214 then some ((8, 110)) else none)))
def xpF_12_4_1 (idx : Nat) : Option (Nat × Nat) := bif Nat.blt idx 226 then (bif Nat.blt idx 220 then (bif Nat.beq idx 217 then some ((8, 111)) else none) else (bif Nat.blt idx 223 then (bif Nat.beq idx 220 then some ((8, 112)) else none) else (bif Nat.beq idx 223 then some ((8, 116)) else none))) else (bif Nat.blt idx 232 then (bif Nat.blt idx 229 then (bif Nat.beq idx 226 then some ((8, 117)) else none) else (bif Nat.beq idx 229 then some ((8, 118)) else none)) else (bif Nat.blt idx 235 then (bif Nat.beq idx 232 then some ((8, 119)) else none) else (bif Nat.beq idx 235 then some ((8, 121)) else none)))
def xpF_12_4 (idx : Nat) : Option (Nat × Nat) := bif Nat.blt idx 217 then (xpF_12_4_0 idx) else (xpF_12_4_1 idx)
def xpF_12_5_0 (idx : Nat) : Option (Nat × Nat) := bif Nat.blt idx 250 then (bif Nat.blt idx 244 then (bif Nat.blt idx 241 then (bif Nat.beq idx 238 then some ((8, 122)) else none) else (bif Nat.beq idx 241 then some ((8, 126)) else none)) else (bif Nat.blt idx 247 then (bif Nat.beq idx 244 then some ((8, 127)) else none) else (bif Nat.beq idx 247 then some ((8, 128)) else none))) else (bif Nat.blt idx 256 then (bif Nat.blt idx 253 then (bif Nat.beq idx 250 then some ((8, 129)) else none) else (bif Nat.beq idx 253 then some ((8, 130)) else none)) else (bif Nat.blt idx 259 then (bif Nat.beq idx 256 then some ((8, 131)) else none) else (bif Nat.beq idx 259 then some ((8, 132)) else none)))
def xpF_12_5_1 (idx : Nat) : Option (Nat × Nat) := bif Nat.blt idx 271 then (bif Nat.blt idx 265 then (bif Nat.beq idx 262 then some ((8, 133)) else none) else (bif Nat.blt idx 268 then (bif Nat.beq idx 265 then some ((8, 134)) else none) else (bif Nat.beq idx 268 then some ((8, 136)) else none))) else (bif Nat.blt idx 277 then (bif Nat.blt idx 274 then (bif Nat.beq idx 271 then some ((8, 137)) else none) else (bif Nat.beq idx 274 then some ((8, 138)) else none)) else (bif Nat.blt idx 280 then (bif Nat.beq idx 277 then some ((8, 139)) else none) else (bif Nat.beq idx 280 then some ((8, 140)) else none)))
def xpF_12_5 (idx : Nat) : Option (Nat × Nat) := bif Nat.blt idx 262 then (xpF_12_5_0 idx) else (xpF_12_5_1 idx)
def xpF_12_6_0 (idx : Nat) : Option (Nat × Nat) := bif Nat.blt idx 298 then (bif Nat.blt idx 289 then (bif Nat.blt idx 286 then (bif Nat.beq idx 283 then some ((8, 141)) else none) else (bif Nat.beq idx 286 then some ((8, 142)) else none)) else (bif Nat.blt idx 292 then (bif Nat.beq idx 289 then some ((8, 143)) else none) else (bif Nat.beq idx 292 then some ((8, 159)) else none))) else (bif Nat.blt idx 344 then (bif Nat.blt idx 341 then (bif Nat.beq idx 298 then some ((8, 14)) else none) else (bif Nat.beq idx 341 then some ((8, 23)) else none)) else (bif Nat.blt idx 347 then (bif Nat.beq idx 344 then some ((8, 24)) else none) else (bif Nat.beq idx 347 then some ((8, 25)) else none)))
def xpF_12_6_1 (idx : Nat) : Option (Nat × Nat) := bif Nat.blt idx 475 then (bif Nat.blt idx 462 then (bif Nat.beq idx 350 then some ((8, 19)) else none) else (bif Nat.blt idx 465 then (bif Nat.beq idx 462 then some ((8, 15)) else none) else (bif Nat.beq idx 465 then some ((8, 47)) else none))) else (bif Nat.blt idx 482 then (bif Nat.blt idx 478 then (bif Nat.beq idx 475 then some ((8, 72)) else none) else (bif Nat.beq idx 478 then some ((8, 74)) else none)) else (bif Nat.blt idx 485 then (bif Nat.beq idx 482 then some ((8, 75)) else none) else (bif Nat.beq idx 485 then some ((8, 78)) else none)))
def xpF_12_6 (idx : Nat) : Option (Nat × Nat) := bif Nat.blt idx 350 then (xpF_12_6_0 idx) else (xpF_12_6_1 idx)
def xpF_12_7_0 (idx : Nat) : Option (Nat × Nat) := bif Nat.blt idx 591 then (bif Nat.blt idx 494 then (bif Nat.blt idx 491 then (bif Nat.beq idx 488 then some ((8, 73)) else none) else (bif Nat.beq idx 491 then some ((8, 76)) else none)) else (bif Nat.blt idx 503 then (bif Nat.beq idx 494 then some ((8, 77)) else none) else (bif Nat.beq idx 503 then some ((8, 79)) else none))) else (bif Nat.blt idx 597 then (bif Nat.blt idx 594 then (bif Nat.beq idx 591 then some ((8, 95)) else none) else (bif Nat.beq idx 594 then some ((8, 96)) else none)) else (bif Nat.blt idx 600 then (bif Nat.beq idx 597 then some ((8, 124)) else none) else (bif Nat.beq idx 600 then some ((8, 125)) else none)))
def xpF_12_7_1 (idx : Nat) : Option (Nat × Nat) := bif Nat.blt idx 615 then (bif Nat.blt idx 606 then (bif Nat.beq idx 603 then some ((8, 93)) else none) else (bif Nat.blt idx 609 then (bif Nat.beq idx 606 then some ((8, 87)) else none) else (bif Nat.beq idx 609 then some ((8, 88)) else none))) else (bif Nat.blt idx 621 then (bif Nat.blt idx 618 then (bif Nat.beq idx 615 then some ((8, 86)) else none) else (bif Nat.beq idx 618 then some ((8, 85)) else none)) else (bif Nat.blt idx 627 then (bif Nat.beq idx 621 then some ((8, 89)) else none) else (bif Nat.beq idx 627 then some ((8, 90)) else none)))
def xpF_12_7 (idx : Nat) : Option (Nat × Nat) := bif Nat.blt idx 603 then (xpF_12_7_0 idx) else (xpF_12_7_1 idx)
def xpF_12_8_0 (idx : Nat) : Option (Nat × Nat) := bif Nat.blt idx 663 then (bif Nat.blt idx 657 then (bif Nat.blt idx 638 then (bif Nat.beq idx 633 then some ((8, 91)) else none) else (bif Nat.beq idx 638 then some ((8, 92)) else none)) else (bif Nat.blt idx 660 then (bif Nat.beq idx 657 then some ((8, 103)) else none) else (bif Nat.beq idx 660 then some ((8, 102)) else none))) else (bif Nat.blt idx 720 then (bif Nat.blt idx 669 then (bif Nat.beq idx 663 then some ((8, 113)) else none) else (bif Nat.beq idx 669 then some ((8, 115)) else none)) else (bif Nat.blt idx 723 then (bif Nat.beq idx 720 then some ((8, 120)) else none) else (bif Nat.beq idx 723 then some ((8, 114)) else none)))
def xpF_12_8_1 (idx : Nat) : Option (Nat × Nat) := bif Nat.blt idx 759 then (bif Nat.blt idx 741 then (bif Nat.beq idx 735 then some ((8, 109)) else none) else (bif Nat.blt idx 756 then (bif Nat.beq idx 741 then some ((8, 101)) else none) else (bif Nat.beq idx 756 then some ((8, 146)) else none))) else (bif Nat.blt idx 768 then (bif Nat.blt idx 762 then (bif Nat.beq idx 759 then some ((8, 135)) else none) else (bif Nat.beq idx 762 then some ((8, 145)) else none)) else (bif Nat.blt idx 774 then (bif Nat.beq idx 768 then some ((8, 158)) else none) else (bif Nat.beq idx 774 then some ((8, 149)) else none)))
def xpF_12_8 (idx : Nat) : Option (Nat × Nat) := bif Nat.blt idx 735 then (xpF_12_8_0 idx) else (xpF_12_8_1 idx)
def xpF_12_9_0 (idx : Nat) : Option (Nat × Nat) := bif Nat.blt idx 786 then (bif Nat.blt idx 780 then (bif Nat.beq idx 777 then some ((8, 150)) else none) else (bif Nat.blt idx 783 then (bif Nat.beq idx 780 then some ((8, 151)) else none) else (bif Nat.beq idx 783 then some ((8, 147)) else none))) else (bif Nat.blt idx 792 then (bif Nat.blt idx 789 then (bif Nat.beq idx 786 then some ((8, 160)) else none) else (bif Nat.beq idx 789 then some ((8, 152)) else none)) else (bif Nat.blt idx 795 then (bif Nat.beq idx 792 then some ((8, 155)) else none) else (bif Nat.beq idx 795 then some ((8, 144)) else none)))
def xpF_12_9_1 (idx : Nat) : Option (Nat × Nat) := bif Nat.blt idx 820 then (bif Nat.blt idx 804 then (bif Nat.beq idx 801 then some ((8, 156)) else none) else (bif Nat.blt idx 811 then (bif Nat.beq idx 804 then some ((8, 153)) else none) else (bif Nat.beq idx 811 then some ((8, 148)) else none))) else (bif Nat.blt idx 823 then (bif Nat.beq idx 820 then some ((8, 154)) else none) else (bif Nat.blt idx 908 then (bif Nat.beq idx 823 then some ((8, 157)) else none) else (bif Nat.beq idx 908 then some ((8, 123)) else none)))
def xpF_12_9 (idx : Nat) : Option (Nat × Nat) := bif Nat.blt idx 801 then (xpF_12_9_0 idx) else (xpF_12_9_1 idx)
def xpF_12 (idx : Nat) : Option (Nat × Nat) := bif Nat.blt idx 238 then (bif Nat.blt idx 103 then (bif Nat.blt idx 58 then (xpF_12_0 idx) else (xpF_12_1 idx)) else (bif Nat.blt idx 148 then (xpF_12_2 idx) else (bif Nat.blt idx 193 then (xpF_12_3 idx) else (xpF_12_4 idx)))) else (bif Nat.blt idx 488 then (bif Nat.blt idx 283 then (xpF_12_5 idx) else (xpF_12_6 idx)) else (bif Nat.blt idx 633 then (xpF_12_7 idx) else (bif Nat.blt idx 777 then (xpF_12_8 idx) else (xpF_12_9 idx))))
def xpF_13 (_ : Nat) : Option (Nat × Nat) := none
def xpF (oc idx : Nat) : Option (Nat × Nat) := match oc with
  | 0 => xpF_0 idx
  | 1 => xpF_1 idx
  | 2 => xpF_2 idx
  | 3 => xpF_3 idx
  | 4 => xpF_4 idx
  | 5 => xpF_5 idx
  | 6 => xpF_6 idx
  | 7 => xpF_7 idx
  | 8 => xpF_8 idx
  | 9 => xpF_9 idx
  | 10 => xpF_10 idx
  | 11 => xpF_11 idx
  | 12 => xpF_12 idx
  | 13 => xpF_13 idx
  | _ => none
def xpC_0 (idx : Nat) : Option (Nat × Nat) := bif Nat.blt idx 43 then (bif Nat.blt idx 19 then (bif Nat.beq idx 13 then some ((1, 29)) else none) else (bif Nat.blt idx 29 then (bif Nat.beq idx 19 then some ((1, 31)) else none) else (bif Nat.beq idx 29 then some ((1, 100)) else none))) else (bif Nat.blt idx 50 then (bif Nat.beq idx 43 then some ((1, 153)) else none) else (bif Nat.blt idx 57 then (bif Nat.beq idx 50 then some ((2, 17)) else none) else (bif Nat.beq idx 57 then some ((2, 101)) else none)))
def xpC_1 (_ : Nat) : Option (Nat × Nat) := none
def xpC_2 (idx : Nat) : Option (Nat × Nat) := bif Nat.beq idx 11 then some ((1, 159)) else none
def xpC_3 (idx : Nat) : Option (Nat × Nat) := bif Nat.beq idx 7 then some ((2, 179)) else none
def xpC_4 (_ : Nat) : Option (Nat × Nat) := none
def xpC_5 (idx : Nat) : Option (Nat × Nat) := bif Nat.beq idx 21 then some ((1, 37)) else none
def xpC_6 (idx : Nat) : Option (Nat × Nat) := bif Nat.blt idx 24 then (bif Nat.blt idx 17 then (bif Nat.beq idx 9 then some ((2, 107)) else none) else (bif Nat.beq idx 17 then some ((2, 109)) else none)) else (bif Nat.blt idx 31 then (bif Nat.beq idx 24 then some ((2, 144)) else none) else (bif Nat.blt idx 45 then (bif Nat.beq idx 31 then some ((2, 146)) else none) else (bif Nat.beq idx 45 then some ((2, 148)) else none)))
def xpC_7 (_ : Nat) : Option (Nat × Nat) := none
def xpC_8 (_ : Nat) : Option (Nat × Nat) := none
def xpC_9 (idx : Nat) : Option (Nat × Nat) := bif Nat.beq idx 15 then some ((2, 23)) else none
def xpC_10 (_ : Nat) : Option (Nat × Nat) := none
def xpC_11 (_ : Nat) : Option (Nat × Nat) := none
def xpC_12 (_ : Nat) : Option (Nat × Nat) := none
def xpC_13 (idx : Nat) : Option (Nat × Nat) := bif Nat.blt idx 10 then (bif Nat.beq idx 7 then some ((1, 21)) else none) else (bif Nat.beq idx 10 then some ((8, 3)) else none)
def xpC (oc idx : Nat) : Option (Nat × Nat) := match oc with
  | 0 => xpC_0 idx
  | 1 => xpC_1 idx
  | 2 => xpC_2 idx
  | 3 => xpC_3 idx
  | 4 => xpC_4 idx
  | 5 => xpC_5 idx
  | 6 => xpC_6 idx
  | 7 => xpC_7 idx
  | 8 => xpC_8 idx
  | 9 => xpC_9 idx
  | 10 => xpC_10 idx
  | 11 => xpC_11 idx
  | 12 => xpC_12 idx
  | 13 => xpC_13 idx
  | _ => none
def xpK_0 (idx : Nat) : Option (Nat × Nat) := bif Nat.blt idx 232 then (bif Nat.blt idx 153 then (bif Nat.blt idx 151 then (bif Nat.beq idx 133 then some ((3, 199)) else none) else (bif Nat.beq idx 151 then some ((4, 47)) else none)) else (bif Nat.blt idx 229 then (bif Nat.beq idx 153 then some ((4, 48)) else none) else (bif Nat.beq idx 229 then some ((4, 26)) else none))) else (bif Nat.blt idx 388 then (bif Nat.blt idx 313 then (bif Nat.beq idx 232 then some ((5, 52)) else none) else (bif Nat.beq idx 313 then some ((7, 173)) else none)) else (bif Nat.blt idx 390 then (bif Nat.beq idx 388 then some ((4, 25)) else none) else (bif Nat.beq idx 390 then some ((4, 27)) else none)))
def xpK_1 (idx : Nat) : Option (Nat × Nat) := bif Nat.blt idx 119 then (bif Nat.beq idx 102 then some ((5, 43)) else none) else (bif Nat.blt idx 150 then (bif Nat.beq idx 119 then some ((7, 207)) else none) else (bif Nat.beq idx 150 then some ((5, 16)) else none))
def xpK_2 (idx : Nat) : Option (Nat × Nat) := bif Nat.blt idx 181 then (bif Nat.blt idx 147 then (bif Nat.beq idx 77 then some ((5, 57)) else none) else (bif Nat.beq idx 147 then some ((4, 231)) else none)) else (bif Nat.blt idx 183 then (bif Nat.beq idx 181 then some ((4, 204)) else none) else (bif Nat.beq idx 183 then some ((4, 205)) else none))
def xpK_3 (_ : Nat) : Option (Nat × Nat) := none
def xpK_4 (_ : Nat) : Option (Nat × Nat) := none
def xpK_5 (idx : Nat) : Option (Nat × Nat) := bif Nat.blt idx 136 then (bif Nat.beq idx 63 then some ((3, 209)) else none) else (bif Nat.blt idx 177 then (bif Nat.beq idx 136 then some ((4, 28)) else none) else (bif Nat.beq idx 177 then some ((3, 178)) else none))
def xpK_6 (idx : Nat) : Option (Nat × Nat) := bif Nat.blt idx 274 then (bif Nat.blt idx 200 then (bif Nat.beq idx 98 then some ((6, 151)) else none) else (bif Nat.beq idx 200 then some ((6, 222)) else none)) else (bif Nat.blt idx 340 then (bif Nat.beq idx 274 then some ((7, 49)) else none) else (bif Nat.beq idx 340 then some ((7, 112)) else none))
def xpK_7 (idx : Nat) : Option (Nat × Nat) := bif Nat.beq idx 42 then some ((7, 152)) else none
def xpK_8 (_ : Nat) : Option (Nat × Nat) := none
def xpK_9 (idx : Nat) : Option (Nat × Nat) := bif Nat.blt idx 222 then (bif Nat.beq idx 144 then some ((6, 51)) else none) else (bif Nat.beq idx 222 then some ((5, 162)) else none)
def xpK_10 (_ : Nat) : Option (Nat × Nat) := none
def xpK_11 (idx : Nat) : Option (Nat × Nat) := bif Nat.beq idx 31 then some ((7, 106)) else none
def xpK_12_0 (idx : Nat) : Option (Nat × Nat) := bif Nat.blt idx 335 then (bif Nat.blt idx 320 then (bif Nat.blt idx 318 then (bif Nat.beq idx 309 then some ((10, 0)) else none) else (bif Nat.beq idx 318 then some ((10, 17)) else none)) else (bif Nat.blt idx 322 then (bif Nat.beq idx 320 then some ((10, 22)) else none) else (bif Nat.beq idx 322 then some ((10, 23)) else none))) else (bif Nat.blt idx 398 then (bif Nat.blt idx 393 then (bif Nat.beq idx 335 then some ((10, 136)) else none) else (bif Nat.beq idx 393 then some ((10, 81)) else none)) else (bif Nat.blt idx 418 then (bif Nat.beq idx 398 then some ((10, 85)) else none) else (bif Nat.beq idx 418 then some ((10, 137)) else none)))
def xpK_12_1 (idx : Nat) : Option (Nat × Nat) := bif Nat.blt idx 544 then (bif Nat.blt idx 473 then (bif Nat.blt idx 471 then (bif Nat.beq idx 469 then some ((10, 198)) else none) else (bif Nat.beq idx 471 then some ((10, 203)) else none)) else (bif Nat.blt idx 512 then (bif Nat.beq idx 473 then some ((10, 208)) else none) else (bif Nat.beq idx 512 then some ((11, 20)) else none))) else (bif Nat.blt idx 548 then (bif Nat.blt idx 546 then (bif Nat.beq idx 544 then some ((11, 40)) else none) else (bif Nat.beq idx 546 then some ((11, 49)) else none)) else (bif Nat.blt idx 578 then (bif Nat.beq idx 548 then some ((11, 50)) else none) else (bif Nat.beq idx 578 then some ((11, 95)) else none)))
def xpK_12_2 (idx : Nat) : Option (Nat × Nat) := bif Nat.blt idx 901 then (bif Nat.blt idx 636 then (bif Nat.beq idx 580 then some ((11, 104)) else none) else (bif Nat.blt idx 846 then (bif Nat.beq idx 636 then some ((11, 139)) else none) else (bif Nat.beq idx 846 then some ((12, 84)) else none))) else (bif Nat.blt idx 906 then (bif Nat.beq idx 901 then some ((12, 121)) else none) else (bif Nat.blt idx 911 then (bif Nat.beq idx 906 then some ((12, 130)) else none) else (bif Nat.beq idx 911 then some ((12, 159)) else none)))
def xpK_12 (idx : Nat) : Option (Nat × Nat) := bif Nat.blt idx 469 then (xpK_12_0 idx) else (bif Nat.blt idx 580 then (xpK_12_1 idx) else (xpK_12_2 idx))
def xpK_13 (_ : Nat) : Option (Nat × Nat) := none
def xpK (oc idx : Nat) : Option (Nat × Nat) := match oc with
  | 0 => xpK_0 idx
  | 1 => xpK_1 idx
  | 2 => xpK_2 idx
  | 3 => xpK_3 idx
  | 4 => xpK_4 idx
  | 5 => xpK_5 idx
  | 6 => xpK_6 idx
  | 7 => xpK_7 idx
  | 8 => xpK_8 idx
  | 9 => xpK_9 idx
  | 10 => xpK_10 idx
  | 11 => xpK_11 idx
  | 12 => xpK_12 idx
  | 13 => xpK_13 idx
  | _ => none
def xpI_0_0 (idx : Nat) : Option (Nat × Nat) := bif Nat.blt idx 59 then (bif Nat.blt idx 35 then (bif Nat.blt idx 21 then (bif Nat.beq idx 1 then some ((1, 26)) else none) else (bif Nat.beq idx 21 then some ((99, 0)) else none)) else (bif Nat.blt idx 45 then (bif Nat.beq idx 35 then some ((99, 2)) else none) else (bif Nat.blt idx 52 then (bif Nat.beq idx 45 then some ((1, 155)) else none) else (bif Nat.beq idx 52 then some ((99, 4)) else none)))) else (bif Nat.blt idx 78 then (bif Nat.blt idx 73 then (bif Nat.beq idx 59 then some ((2, 103)) else none) else (bif Nat.beq idx 73 then some ((99, 12)) else none)) else (bif Nat.blt idx 85 then (bif Nat.beq idx 78 then some ((3, 71)) else none) else (bif Nat.blt idx 98 then (bif Nat.beq idx 85 then some ((3, 86)) else none) else (bif Nat.beq idx 98 then some ((3, 93)) else none))))
def xpI_0_1 (idx : Nat) : Option (Nat × Nat) := bif Nat.blt idx 234 then (bif Nat.blt idx 201 then (bif Nat.blt idx 114 then (bif Nat.beq idx 102 then some ((3, 101)) else none) else (bif Nat.beq idx 114 then some ((3, 117)) else none)) else (bif Nat.blt idx 204 then (bif Nat.beq idx 201 then some ((4, 172)) else none) else (bif Nat.blt idx 212 then (bif Nat.beq idx 204 then some ((4, 176)) else none) else (bif Nat.beq idx 212 then some ((5, 27)) else none)))) else (bif Nat.blt idx 252 then (bif Nat.blt idx 246 then (bif Nat.beq idx 234 then some ((5, 53)) else none) else (bif Nat.beq idx 246 then some ((5, 85)) else none)) else (bif Nat.blt idx 255 then (bif Nat.beq idx 252 then some ((5, 219)) else none) else (bif Nat.blt idx 258 then (bif Nat.beq idx 255 then some ((5, 223)) else none) else (bif Nat.beq idx 258 then some ((6, 96)) else none))))
def xpI_0_2 (idx : Nat) : Option (Nat × Nat) := bif Nat.blt idx 334 then (bif Nat.blt idx 307 then (bif Nat.blt idx 301 then (bif Nat.beq idx 288 then some ((7, 136)) else none) else (bif Nat.beq idx 301 then some ((7, 148)) else none)) else (bif Nat.blt idx 324 then (bif Nat.beq idx 307 then some ((7, 157)) else none) else (bif Nat.blt idx 330 then (bif Nat.beq idx 324 then some ((7, 174)) else none) else (bif Nat.beq idx 330 then some ((7, 183)) else none)))) else (bif Nat.blt idx 341 then (bif Nat.blt idx 338 then (bif Nat.beq idx 334 then some ((7, 198)) else none) else (bif Nat.beq idx 338 then some ((7, 231)) else none)) else (bif Nat.blt idx 344 then (bif Nat.beq idx 341 then some ((7, 235)) else none) else (bif Nat.blt idx 356 then (bif Nat.beq idx 344 then some ((7, 239)) else none) else (bif Nat.beq idx 356 then some ((3, 75)) else none))))
def xpI_0 (idx : Nat) : Option (Nat × Nat) := bif Nat.blt idx 102 then (xpI_0_0 idx) else (bif Nat.blt idx 288 then (xpI_0_1 idx) else (xpI_0_2 idx))
def xpI_1 (idx : Nat) : Option (Nat × Nat) := bif Nat.blt idx 104 then (bif Nat.beq idx 3 then some ((1, 165)) else none) else (bif Nat.beq idx 104 then some ((99, 16)) else none)
def xpI_2 (idx : Nat) : Option (Nat × Nat) := bif Nat.blt idx 44 then (bif Nat.blt idx 20 then (bif Nat.beq idx 3 then some ((1, 158)) else none) else (bif Nat.beq idx 20 then some ((99, 3)) else none)) else (bif Nat.blt idx 119 then (bif Nat.beq idx 44 then some ((6, 125)) else none) else (bif Nat.beq idx 119 then some ((99, 15)) else none))
def xpI_3 (idx : Nat) : Option (Nat × Nat) := bif Nat.blt idx 9 then (bif Nat.beq idx 1 then some ((2, 178)) else none) else (bif Nat.beq idx 9 then some ((99, 11)) else none)
def xpI_4 (idx : Nat) : Option (Nat × Nat) := bif Nat.blt idx 112 then (bif Nat.beq idx 3 then some ((1, 106)) else none) else (bif Nat.blt idx 130 then (bif Nat.beq idx 112 then some ((4, 126)) else none) else (bif Nat.beq idx 130 then some ((99, 14)) else none))
def xpI_5 (idx : Nat) : Option (Nat × Nat) := bif Nat.blt idx 41 then (bif Nat.blt idx 23 then (bif Nat.beq idx 3 then some ((1, 36)) else none) else (bif Nat.beq idx 23 then some ((99, 1)) else none)) else (bif Nat.blt idx 140 then (bif Nat.beq idx 41 then some ((3, 121)) else none) else (bif Nat.beq idx 140 then some ((99, 13)) else none))
def xpI_6 (idx : Nat) : Option (Nat × Nat) := bif Nat.blt idx 52 then (bif Nat.blt idx 26 then (bif Nat.blt idx 19 then (bif Nat.beq idx 3 then some ((2, 106)) else none) else (bif Nat.beq idx 19 then some ((99, 6)) else none)) else (bif Nat.blt idx 47 then (bif Nat.beq idx 26 then some ((99, 7)) else none) else (bif Nat.beq idx 47 then some ((99, 8)) else none))) else (bif Nat.blt idx 196 then (bif Nat.blt idx 53 then (bif Nat.beq idx 52 then some ((99, 9)) else none) else (bif Nat.beq idx 53 then some ((99, 10)) else none)) else (bif Nat.blt idx 271 then (bif Nat.beq idx 196 then some ((6, 221)) else none) else (bif Nat.beq idx 271 then some ((7, 41)) else none)))
def xpI_7 (idx : Nat) : Option (Nat × Nat) := bif Nat.blt idx 28 then (bif Nat.beq idx 3 then some ((2, 114)) else none) else (bif Nat.beq idx 28 then some ((6, 150)) else none)
def xpI_8 (idx : Nat) : Option (Nat × Nat) := bif Nat.beq idx 3 then some ((1, 42)) else none
def xpI_9 (idx : Nat) : Option (Nat × Nat) := bif Nat.blt idx 41 then (bif Nat.blt idx 17 then (bif Nat.beq idx 3 then some ((2, 22)) else none) else (bif Nat.blt idx 32 then (bif Nat.beq idx 17 then some ((99, 5)) else none) else (bif Nat.beq idx 32 then some ((5, 89)) else none))) else (bif Nat.blt idx 51 then (bif Nat.blt idx 47 then (bif Nat.beq idx 41 then some ((5, 93)) else none) else (bif Nat.beq idx 47 then some ((5, 227)) else none)) else (bif Nat.blt idx 57 then (bif Nat.beq idx 51 then some ((5, 231)) else none) else (bif Nat.beq idx 57 then some ((5, 235)) else none)))
def xpI_10 (idx : Nat) : Option (Nat × Nat) := bif Nat.beq idx 3 then some ((2, 28)) else none
def xpI_11 (idx : Nat) : Option (Nat × Nat) := bif Nat.blt idx 48 then (bif Nat.beq idx 3 then some ((2, 154)) else none) else (bif Nat.blt idx 60 then (bif Nat.beq idx 48 then some ((7, 84)) else none) else (bif Nat.beq idx 60 then some ((7, 105)) else none))
def xpI_12_0 (idx : Nat) : Option (Nat × Nat) := bif Nat.blt idx 305 then (bif Nat.blt idx 295 then (bif Nat.beq idx 1 then some ((8, 8)) else none) else (bif Nat.blt idx 301 then (bif Nat.beq idx 295 then some ((8, 9)) else none) else (bif Nat.beq idx 301 then some ((9, 222)) else none))) else (bif Nat.blt idx 315 then (bif Nat.blt idx 311 then (bif Nat.beq idx 305 then some ((9, 230)) else none) else (bif Nat.beq idx 311 then some ((9, 237)) else none)) else (bif Nat.blt idx 353 then (bif Nat.beq idx 315 then some ((10, 9)) else none) else (bif Nat.beq idx 353 then some ((10, 28)) else none)))
def xpI_12_1 (idx : Nat) : Option (Nat × Nat) := bif Nat.blt idx 651 then (bif Nat.blt idx 612 then (bif Nat.beq idx 541 then some ((11, 32)) else none) else (bif Nat.blt idx 644 then (bif Nat.beq idx 612 then some ((11, 151)) else none) else (bif Nat.beq idx 644 then some ((11, 163)) else none))) else (bif Nat.blt idx 693 then (bif Nat.blt idx 654 then (bif Nat.beq idx 651 then some ((11, 129)) else none) else (bif Nat.beq idx 654 then some ((11, 159)) else none)) else (bif Nat.blt idx 854 then (bif Nat.beq idx 693 then some ((11, 143)) else none) else (bif Nat.beq idx 854 then some ((12, 67)) else none)))
def xpI_12 (idx : Nat) : Option (Nat × Nat) := bif Nat.blt idx 541 then (xpI_12_0 idx) else (xpI_12_1 idx)
def xpI_13_0 (idx : Nat) : Option (Nat × Nat) := bif Nat.blt idx 22 then (bif Nat.blt idx 13 then (bif Nat.blt idx 12 then (bif Nat.beq idx 9 then some ((1, 23)) else none) else (bif Nat.beq idx 12 then some ((8, 5)) else none)) else (bif Nat.blt idx 17 then (bif Nat.beq idx 13 then some ((3, 67)) else none) else (bif Nat.blt idx 18 then (bif Nat.beq idx 17 then some ((9, 218)) else none) else (bif Nat.beq idx 18 then some ((3, 78)) else none)))) else (bif Nat.blt idx 26 then (bif Nat.blt idx 23 then (bif Nat.beq idx 22 then some ((9, 226)) else none) else (bif Nat.beq idx 23 then some ((3, 82)) else none)) else (bif Nat.blt idx 27 then (bif Nat.beq idx 26 then some ((9, 233)) else none) else (bif Nat.blt idx 30 then (bif Nat.beq idx 27 then some ((3, 89)) else none) else (bif Nat.beq idx 30 then some ((10, 1)) else none))))
def xpI_13_1 (idx : Nat) : Option (Nat × Nat) := bif Nat.blt idx 43 then (bif Nat.blt idx 36 then (bif Nat.blt idx 35 then (bif Nat.beq idx 31 then some ((3, 97)) else none) else (bif Nat.beq idx 35 then some ((10, 5)) else none)) else (bif Nat.blt idx 39 then (bif Nat.beq idx 36 then some ((3, 113)) else none) else (bif Nat.blt idx 40 then (bif Nat.beq idx 39 then some ((10, 24)) else none) else (bif Nat.beq idx 40 then some ((3, 186)) else none)))) else (bif Nat.blt idx 47 then (bif Nat.blt idx 44 then (bif Nat.beq idx 43 then some ((10, 65)) else none) else (bif Nat.beq idx 44 then some ((3, 190)) else none)) else (bif Nat.blt idx 48 then (bif Nat.beq idx 47 then some ((10, 69)) else none) else (bif Nat.blt idx 52 then (bif Nat.beq idx 48 then some ((3, 195)) else none) else (bif Nat.beq idx 52 then some ((10, 77)) else none))))
def xpI_13_2 (idx : Nat) : Option (Nat × Nat) := bif Nat.blt idx 65 then (bif Nat.blt idx 57 then (bif Nat.blt idx 56 then (bif Nat.beq idx 53 then some ((3, 215)) else none) else (bif Nat.beq idx 56 then some ((10, 73)) else none)) else (bif Nat.blt idx 61 then (bif Nat.beq idx 57 then some ((3, 223)) else none) else (bif Nat.blt idx 62 then (bif Nat.beq idx 61 then some ((10, 110)) else none) else (bif Nat.beq idx 62 then some ((3, 230)) else none)))) else (bif Nat.blt idx 69 then (bif Nat.blt idx 66 then (bif Nat.beq idx 65 then some ((10, 117)) else none) else (bif Nat.beq idx 66 then some ((4, 29)) else none)) else (bif Nat.blt idx 70 then (bif Nat.beq idx 69 then some ((10, 138)) else none) else (bif Nat.blt idx 73 then (bif Nat.beq idx 70 then some ((4, 39)) else none) else (bif Nat.beq idx 73 then some ((10, 13)) else none))))
def xpI_13_3 (idx : Nat) : Option (Nat × Nat) := bif Nat.blt idx 86 then (bif Nat.blt idx 79 then (bif Nat.blt idx 78 then (bif Nat.beq idx 74 then some ((4, 43)) else none) else (bif Nat.beq idx 78 then some ((10, 18)) else none)) else (bif Nat.blt idx 82 then (bif Nat.beq idx 79 then some ((4, 49)) else none) else (bif Nat.blt idx 83 then (bif Nat.beq idx 82 then some ((10, 150)) else none) else (bif Nat.beq idx 83 then some ((4, 164)) else none)))) else (bif Nat.blt idx 90 then (bif Nat.blt idx 87 then (bif Nat.beq idx 86 then some ((10, 194)) else none) else (bif Nat.beq idx 87 then some ((4, 168)) else none)) else (bif Nat.blt idx 91 then (bif Nat.beq idx 90 then some ((10, 199)) else none) else (bif Nat.blt idx 94 then (bif Nat.beq idx 91 then some ((4, 181)) else none) else (bif Nat.beq idx 94 then some ((10, 213)) else none))))
def xpI_13_4 (idx : Nat) : Option (Nat × Nat) := bif Nat.blt idx 107 then (bif Nat.blt idx 99 then (bif Nat.blt idx 98 then (bif Nat.beq idx 95 then some ((5, 23)) else none) else (bif Nat.beq idx 98 then some ((11, 28)) else none)) else (bif Nat.blt idx 103 then (bif Nat.beq idx 99 then some ((5, 35)) else none) else (bif Nat.blt idx 104 then (bif Nat.beq idx 103 then some ((11, 36)) else none) else (bif Nat.beq idx 104 then some ((5, 44)) else none)))) else (bif Nat.blt idx 112 then (bif Nat.blt idx 108 then (bif Nat.beq idx 107 then some ((11, 41)) else none) else (bif Nat.beq idx 108 then some ((5, 48)) else none)) else (bif Nat.blt idx 113 then (bif Nat.beq idx 112 then some ((11, 45)) else none) else (bif Nat.blt idx 116 then (bif Nat.beq idx 113 then some ((5, 58)) else none) else (bif Nat.beq idx 116 then some ((11, 51)) else none))))
def xpI_13_5 (idx : Nat) : Option (Nat × Nat) := bif Nat.blt idx 129 then (bif Nat.blt idx 121 then (bif Nat.blt idx 120 then (bif Nat.beq idx 117 then some ((5, 70)) else none) else (bif Nat.beq idx 120 then some ((11, 59)) else none)) else (bif Nat.blt idx 125 then (bif Nat.beq idx 121 then some ((5, 81)) else none) else (bif Nat.blt idx 126 then (bif Nat.beq idx 125 then some ((11, 125)) else none) else (bif Nat.beq idx 126 then some ((6, 105)) else none)))) else (bif Nat.blt idx 133 then (bif Nat.blt idx 130 then (bif Nat.beq idx 129 then some ((12, 16)) else none) else (bif Nat.beq idx 130 then some ((6, 109)) else none)) else (bif Nat.blt idx 134 then (bif Nat.beq idx 133 then some ((12, 20)) else none) else (bif Nat.blt idx 137 then (bif Nat.beq idx 134 then some ((7, 132)) else none) else (bif Nat.beq idx 137 then some ((12, 139)) else none))))
def xpI_13_6 (idx : Nat) : Option (Nat × Nat) := bif Nat.blt idx 149 then (bif Nat.blt idx 142 then (bif Nat.blt idx 141 then (bif Nat.beq idx 138 then some ((7, 140)) else none) else (bif Nat.beq idx 141 then some ((12, 143)) else none)) else (bif Nat.blt idx 145 then (bif Nat.beq idx 142 then some ((7, 144)) else none) else (bif Nat.blt idx 146 then (bif Nat.beq idx 145 then some ((12, 147)) else none) else (bif Nat.beq idx 146 then some ((7, 153)) else none)))) else (bif Nat.blt idx 153 then (bif Nat.blt idx 150 then (bif Nat.beq idx 149 then some ((12, 151)) else none) else (bif Nat.beq idx 150 then some ((7, 161)) else none)) else (bif Nat.blt idx 154 then (bif Nat.beq idx 153 then some ((10, 204)) else none) else (bif Nat.blt idx 157 then (bif Nat.beq idx 154 then some ((7, 165)) else none) else (bif Nat.beq idx 157 then some ((10, 209)) else none))))
def xpI_13_7 (idx : Nat) : Option (Nat × Nat) := bif Nat.blt idx 169 then (bif Nat.blt idx 162 then (bif Nat.blt idx 161 then (bif Nat.beq idx 158 then some ((7, 169)) else none) else (bif Nat.beq idx 161 then some ((12, 155)) else none)) else (bif Nat.blt idx 165 then (bif Nat.beq idx 162 then some ((7, 175)) else none) else (bif Nat.blt idx 166 then (bif Nat.beq idx 165 then some ((11, 117)) else none) else (bif Nat.beq idx 166 then some ((7, 179)) else none)))) else (bif Nat.blt idx 173 then (bif Nat.blt idx 170 then (bif Nat.beq idx 169 then some ((11, 67)) else none) else (bif Nat.beq idx 170 then some ((7, 194)) else none)) else (bif Nat.blt idx 174 then (bif Nat.beq idx 173 then some ((11, 83)) else none) else (bif Nat.blt idx 177 then (bif Nat.beq idx 174 then some ((7, 223)) else none) else (bif Nat.beq idx 177 then some ((11, 113)) else none))))
def xpI_13_8 (idx : Nat) : Option (Nat × Nat) := bif Nat.blt idx 181 then (bif Nat.beq idx 178 then some ((7, 227)) else none) else (bif Nat.beq idx 181 then some ((11, 121)) else none)
def xpI_13 (idx : Nat) : Option (Nat × Nat) := bif Nat.blt idx 95 then (bif Nat.blt idx 53 then (bif Nat.blt idx 31 then (xpI_13_0 idx) else (xpI_13_1 idx)) else (bif Nat.blt idx 74 then (xpI_13_2 idx) else (xpI_13_3 idx))) else (bif Nat.blt idx 138 then (bif Nat.blt idx 117 then (xpI_13_4 idx) else (xpI_13_5 idx)) else (bif Nat.blt idx 158 then (xpI_13_6 idx) else (bif Nat.blt idx 178 then (xpI_13_7 idx) else (xpI_13_8 idx))))
def xpI (oc idx : Nat) : Option (Nat × Nat) := match oc with
  | 0 => xpI_0 idx
  | 1 => xpI_1 idx
  | 2 => xpI_2 idx
  | 3 => xpI_3 idx
  | 4 => xpI_4 idx
  | 5 => xpI_5 idx
  | 6 => xpI_6 idx
  | 7 => xpI_7 idx
  | 8 => xpI_8 idx
  | 9 => xpI_9 idx
  | 10 => xpI_10 idx
  | 11 => xpI_11 idx
  | 12 => xpI_12 idx
  | 13 => xpI_13 idx
  | _ => none
def xNs : ix_Ns := [("PacketWall", 21, ⟨"PacketWall$Headers", "<init>", "()V"⟩), ("PacketWall$Headers", 23, ⟨"PacketWall$Packet", "<init>", "()V"⟩), ("PacketWall", 35, ⟨"PacketWall$Gathering", "<init>", "()V"⟩), ("PacketWall$Flows", 20, ⟨"PacketWall$Flow", "<init>", "()V"⟩), ("PacketWall", 52, ⟨"PacketWall$Parser", "<init>", "()V"⟩), ("PacketWall$Parser", 17, ⟨"PacketWall$Program", "<init>", "()V"⟩), ("PacketWall$Machine", 19, ⟨"PacketWall$Memory", "<init>", "()V"⟩), ("PacketWall$Machine", 26, ⟨"PacketWall$Program", "<init>", "()V"⟩), ("PacketWall$Machine", 47, ⟨"PacketWall$Headers", "<init>", "()V"⟩), ("PacketWall$Machine", 52, ⟨"PacketWall$Row", "<init>", "()V"⟩), ("PacketWall$Machine", 53, ⟨"PacketWall$Frame", "<init>", "()V"⟩), ("PacketWall$Frame", 9, ⟨"PacketWall$Memory", "<init>", "()V"⟩), ("PacketWall", 73, ⟨"PacketWall$Packet", "<init>", "()V"⟩), ("PacketWall$Headers", 140, ⟨"PacketWall", "putNumber", "([IIIJ)V"⟩), ("PacketWall$Gathering", 130, ⟨"PacketWall", "putNumber", "([IIIJ)V"⟩), ("PacketWall$Flows", 119, ⟨"PacketWall", "putNumber", "([IIIJ)V"⟩), ("PacketWall$Flow", 104, ⟨"PacketWall", "putNumber", "([IIIJ)V"⟩)]
def xpM_0_0 (k : Nat) : Option (Option (Nat × Nat) × Option (Nat × Nat) × Option (Nat × Nat) × Option (Nat × Nat)) := bif Nat.blt k 3 then (bif Nat.blt k 1 then (bif Nat.beq k 0 then some ((some (1, 24), none, none, some (1, 1))) else none) else (bif Nat.blt k 2 then (bif Nat.beq k 1 then some ((some (3, 68), some (3, 69), none, some (1, 1))) else none) else (bif Nat.beq k 2 then some ((some (3, 79), some (3, 80), none, some (1, 1))) else none))) else (bif Nat.blt k 5 then (bif Nat.blt k 4 then (bif Nat.beq k 3 then some ((some (3, 83), some (3, 84), none, some (1, 1))) else none) else (bif Nat.beq k 4 then some ((some (3, 90), some (3, 91), none, some (1, 1))) else none)) else (bif Nat.blt k 6 then (bif Nat.beq k 5 then some ((some (3, 98), some (3, 99), none, some (1, 1))) else none) else (bif Nat.beq k 6 then some ((some (3, 114), some (3, 115), none, some (1, 1))) else none)))
def xpM_0_1 (k : Nat) : Option (Option (Nat × Nat) × Option (Nat × Nat) × Option (Nat × Nat) × Option (Nat × Nat)) := bif Nat.blt k 10 then (bif Nat.blt k 8 then (bif Nat.beq k 7 then some ((some (3, 187), some (3, 188), none, some (1, 1))) else none) else (bif Nat.blt k 9 then (bif Nat.beq k 8 then some ((some (3, 191), some (3, 192), none, some (1, 1))) else none) else (bif Nat.beq k 9 then some ((some (3, 196), some (3, 197), none, some (1, 1))) else none))) else (bif Nat.blt k 12 then (bif Nat.blt k 11 then (bif Nat.beq k 10 then some ((some (3, 216), some (3, 217), none, some (1, 1))) else none) else (bif Nat.beq k 11 then some ((some (3, 224), some (3, 225), none, some (1, 1))) else none)) else (bif Nat.blt k 13 then (bif Nat.beq k 12 then some ((some (3, 231), some (3, 232), none, some (1, 1))) else none) else (bif Nat.beq k 13 then some ((some (4, 30), some (4, 31), none, some (1, 1))) else none)))
def xpM_0 (k : Nat) : Option (Option (Nat × Nat) × Option (Nat × Nat) × Option (Nat × Nat) × Option (Nat × Nat)) := bif Nat.blt k 7 then (xpM_0_0 k) else (xpM_0_1 k)
def xpM_1_0 (k : Nat) : Option (Option (Nat × Nat) × Option (Nat × Nat) × Option (Nat × Nat) × Option (Nat × Nat)) := bif Nat.blt k 17 then (bif Nat.blt k 15 then (bif Nat.beq k 14 then some ((some (4, 40), some (4, 41), none, some (1, 1))) else none) else (bif Nat.blt k 16 then (bif Nat.beq k 15 then some ((some (4, 44), some (4, 45), none, some (1, 1))) else none) else (bif Nat.beq k 16 then some ((some (4, 50), some (4, 51), none, some (1, 1))) else none))) else (bif Nat.blt k 19 then (bif Nat.blt k 18 then (bif Nat.beq k 17 then some ((some (4, 165), some (4, 166), none, some (1, 1))) else none) else (bif Nat.beq k 18 then some ((some (4, 169), some (4, 170), none, some (1, 1))) else none)) else (bif Nat.blt k 20 then (bif Nat.beq k 19 then some ((some (4, 182), some (4, 183), none, some (1, 1))) else none) else (bif Nat.beq k 20 then some ((some (5, 24), some (5, 25), none, some (1, 1))) else none)))
def xpM_1_1 (k : Nat) : Option (Option (Nat × Nat) × Option (Nat × Nat) × Option (Nat × Nat) × Option (Nat × Nat)) := bif Nat.blt k 24 then (bif Nat.blt k 22 then (bif Nat.beq k 21 then some ((some (5, 36), some (5, 37), none, some (1, 1))) else none) else (bif Nat.blt k 23 then (bif Nat.beq k 22 then some ((some (5, 45), some (5, 46), none, some (1, 1))) else none) else (bif Nat.beq k 23 then some ((some (5, 49), some (5, 50), none, some (1, 1))) else none))) else (bif Nat.blt k 26 then (bif Nat.blt k 25 then (bif Nat.beq k 24 then some ((some (5, 59), some (5, 60), none, some (1, 1))) else none) else (bif Nat.beq k 25 then some ((some (5, 71), some (5, 72), none, some (1, 1))) else none)) else (bif Nat.blt k 27 then (bif Nat.beq k 26 then some ((some (5, 82), some (5, 83), none, some (1, 1))) else none) else (bif Nat.beq k 27 then some ((some (6, 106), some (6, 107), none, some (1, 1))) else none)))
def xpM_1 (k : Nat) : Option (Option (Nat × Nat) × Option (Nat × Nat) × Option (Nat × Nat) × Option (Nat × Nat)) := bif Nat.blt k 21 then (xpM_1_0 k) else (xpM_1_1 k)
def xpM_2_0 (k : Nat) : Option (Option (Nat × Nat) × Option (Nat × Nat) × Option (Nat × Nat) × Option (Nat × Nat)) := bif Nat.blt k 31 then (bif Nat.blt k 29 then (bif Nat.beq k 28 then some ((some (6, 110), some (6, 111), none, some (1, 1))) else none) else (bif Nat.blt k 30 then (bif Nat.beq k 29 then some ((some (7, 133), some (7, 134), none, some (1, 1))) else none) else (bif Nat.beq k 30 then some ((some (7, 141), some (7, 142), none, some (1, 1))) else none))) else (bif Nat.blt k 33 then (bif Nat.blt k 32 then (bif Nat.beq k 31 then some ((some (7, 145), some (7, 146), none, some (1, 1))) else none) else (bif Nat.beq k 32 then some ((some (7, 154), some (7, 155), none, some (1, 1))) else none)) else (bif Nat.blt k 34 then (bif Nat.beq k 33 then some ((some (7, 162), some (7, 163), none, some (1, 1))) else none) else (bif Nat.beq k 34 then some ((some (7, 166), some (7, 167), none, some (1, 1))) else none)))
def xpM_2_1 (k : Nat) : Option (Option (Nat × Nat) × Option (Nat × Nat) × Option (Nat × Nat) × Option (Nat × Nat)) := bif Nat.blt k 38 then (bif Nat.blt k 36 then (bif Nat.beq k 35 then some ((some (7, 170), some (7, 171), none, some (1, 1))) else none) else (bif Nat.blt k 37 then (bif Nat.beq k 36 then some ((some (7, 176), some (7, 177), none, some (1, 1))) else none) else (bif Nat.beq k 37 then some ((some (7, 180), some (7, 181), none, some (1, 1))) else none))) else (bif Nat.blt k 40 then (bif Nat.blt k 39 then (bif Nat.beq k 38 then some ((some (7, 195), some (7, 196), none, some (1, 1))) else none) else (bif Nat.beq k 39 then some ((some (7, 224), some (7, 225), none, some (1, 1))) else none)) else (bif Nat.blt k 41 then (bif Nat.beq k 40 then some ((some (7, 228), some (7, 229), none, some (1, 1))) else none) else (bif Nat.beq k 41 then some ((some (3, 73), some (0, 0), none, some (1, 1))) else none)))
def xpM_2 (k : Nat) : Option (Option (Nat × Nat) × Option (Nat × Nat) × Option (Nat × Nat) × Option (Nat × Nat)) := bif Nat.blt k 35 then (xpM_2_0 k) else (xpM_2_1 k)
def xpM_3_0 (k : Nat) : Option (Option (Nat × Nat) × Option (Nat × Nat) × Option (Nat × Nat) × Option (Nat × Nat)) := bif Nat.blt k 45 then (bif Nat.blt k 43 then (bif Nat.beq k 42 then some ((some (3, 103), some (0, 1), none, some (1, 1))) else none) else (bif Nat.blt k 44 then (bif Nat.beq k 43 then some ((some (7, 233), some (0, 99), none, some (1, 1))) else none) else (bif Nat.beq k 44 then some ((some (7, 237), some (0, 100), none, some (1, 1))) else none))) else (bif Nat.blt k 47 then (bif Nat.blt k 46 then (bif Nat.beq k 45 then some ((some (4, 178), some (0, 22), none, some (1, 1))) else none) else (bif Nat.beq k 46 then some ((none, none, some (3, 76), some (1, 1))) else none)) else (bif Nat.blt k 48 then (bif Nat.beq k 47 then some ((some (1, 163), none, none, some (1, 6))) else none) else (bif Nat.beq k 48 then some ((some (1, 156), none, none, some (1, 5))) else none)))
def xpM_3_1 (k : Nat) : Option (Option (Nat × Nat) × Option (Nat × Nat) × Option (Nat × Nat) × Option (Nat × Nat)) := bif Nat.blt k 52 then (bif Nat.blt k 50 then (bif Nat.beq k 49 then some ((some (5, 28), some (5, 29), none, some (1, 5))) else none) else (bif Nat.blt k 51 then (bif Nat.beq k 50 then some ((some (8, 0), some (8, 1), none, some (1, 5))) else none) else (bif Nat.beq k 51 then some ((some (4, 173), some (4, 174), none, some (1, 5))) else none))) else (bif Nat.blt k 54 then (bif Nat.blt k 53 then (bif Nat.beq k 52 then some ((some (5, 54), some (5, 55), none, some (1, 5))) else none) else (bif Nat.beq k 53 then some ((some (7, 184), some (7, 185), none, some (1, 5))) else none)) else (bif Nat.blt k 55 then (bif Nat.beq k 54 then some ((some (7, 199), some (7, 200), none, some (1, 5))) else none) else (bif Nat.beq k 55 then some ((some (2, 176), none, none, some (1, 12))) else none)))
def xpM_3 (k : Nat) : Option (Option (Nat × Nat) × Option (Nat × Nat) × Option (Nat × Nat) × Option (Nat × Nat)) := bif Nat.blt k 49 then (xpM_3_0 k) else (xpM_3_1 k)
def xpM_4_0 (k : Nat) : Option (Option (Nat × Nat) × Option (Nat × Nat) × Option (Nat × Nat) × Option (Nat × Nat)) := bif Nat.blt k 59 then (bif Nat.blt k 57 then (bif Nat.beq k 56 then some ((some (1, 104), none, none, some (1, 4))) else none) else (bif Nat.blt k 58 then (bif Nat.beq k 57 then some ((some (1, 34), none, none, some (1, 2))) else none) else (bif Nat.beq k 58 then some ((some (3, 118), some (3, 119), none, some (1, 2))) else none))) else (bif Nat.blt k 61 then (bif Nat.blt k 60 then (bif Nat.beq k 59 then some ((some (2, 104), none, none, some (1, 9))) else none) else (bif Nat.beq k 60 then some ((some (7, 137), some (7, 138), none, some (1, 9))) else none)) else (bif Nat.blt k 62 then (bif Nat.beq k 61 then some ((some (2, 112), none, none, some (1, 10))) else none) else (bif Nat.beq k 62 then some ((some (7, 149), some (7, 150), none, some (1, 10))) else none)))
def xpM_4_1 (k : Nat) : Option (Option (Nat × Nat) × Option (Nat × Nat) × Option (Nat × Nat) × Option (Nat × Nat)) := bif Nat.blt k 66 then (bif Nat.blt k 64 then (bif Nat.beq k 63 then some ((some (7, 158), some (7, 159), none, some (1, 10))) else none) else (bif Nat.blt k 65 then (bif Nat.beq k 64 then some ((some (1, 40), none, none, some (1, 3))) else none) else (bif Nat.beq k 65 then some ((some (3, 94), some (3, 95), none, some (1, 3))) else none))) else (bif Nat.blt k 68 then (bif Nat.blt k 67 then (bif Nat.beq k 66 then some ((some (2, 20), none, none, some (1, 7))) else none) else (bif Nat.beq k 67 then some ((some (5, 86), some (5, 87), none, some (1, 7))) else none)) else (bif Nat.blt k 69 then (bif Nat.beq k 68 then some ((some (5, 220), some (5, 221), none, some (1, 7))) else none) else (bif Nat.beq k 69 then some ((some (5, 224), some (5, 225), none, some (1, 7))) else none)))
def xpM_4 (k : Nat) : Option (Option (Nat × Nat) × Option (Nat × Nat) × Option (Nat × Nat) × Option (Nat × Nat)) := bif Nat.blt k 63 then (xpM_4_0 k) else (xpM_4_1 k)
def xpM_5_0 (k : Nat) : Option (Option (Nat × Nat) × Option (Nat × Nat) × Option (Nat × Nat) × Option (Nat × Nat)) := bif Nat.blt k 73 then (bif Nat.blt k 71 then (bif Nat.beq k 70 then some ((some (6, 97), some (6, 98), none, some (1, 7))) else none) else (bif Nat.blt k 72 then (bif Nat.beq k 71 then some ((some (5, 95), some (0, 31), none, some (1, 7))) else none) else (bif Nat.beq k 72 then some ((some (5, 229), some (0, 36), none, some (1, 7))) else none))) else (bif Nat.blt k 75 then (bif Nat.blt k 74 then (bif Nat.beq k 73 then some ((some (5, 233), some (0, 37), none, some (1, 7))) else none) else (bif Nat.beq k 74 then some ((some (5, 237), some (0, 38), none, some (1, 7))) else none)) else (bif Nat.blt k 76 then (bif Nat.beq k 75 then some ((some (2, 26), none, none, some (1, 8))) else none) else (bif Nat.beq k 76 then some ((some (5, 90), some (5, 91), none, some (1, 8))) else none)))
def xpM_5_1 (k : Nat) : Option (Option (Nat × Nat) × Option (Nat × Nat) × Option (Nat × Nat) × Option (Nat × Nat)) := bif Nat.blt k 80 then (bif Nat.blt k 78 then (bif Nat.beq k 77 then some ((some (2, 152), none, none, some (1, 11))) else none) else (bif Nat.blt k 79 then (bif Nat.beq k 78 then some ((some (7, 42), some (7, 43), none, some (1, 11))) else none) else (bif Nat.beq k 79 then some ((some (8, 6), none, none, some (1, 13))) else none))) else (bif Nat.blt k 82 then (bif Nat.blt k 81 then (bif Nat.beq k 80 then some ((none, none, some (9, 231), some (1, 13))) else none) else (bif Nat.beq k 81 then some ((some (9, 224), some (0, 102), none, some (1, 13))) else none)) else (bif Nat.blt k 83 then (bif Nat.beq k 82 then some ((some (9, 219), some (9, 220), none, some (1, 13))) else none) else (bif Nat.beq k 83 then some ((some (9, 227), some (9, 228), none, some (1, 13))) else none)))
def xpM_5 (k : Nat) : Option (Option (Nat × Nat) × Option (Nat × Nat) × Option (Nat × Nat) × Option (Nat × Nat)) := bif Nat.blt k 77 then (xpM_5_0 k) else (xpM_5_1 k)
def xpM_6_0 (k : Nat) : Option (Option (Nat × Nat) × Option (Nat × Nat) × Option (Nat × Nat) × Option (Nat × Nat)) := bif Nat.blt k 87 then (bif Nat.blt k 85 then (bif Nat.beq k 84 then some ((none, none, some (9, 238), some (1, 13))) else none) else (bif Nat.blt k 86 then (bif Nat.beq k 85 then some ((some (10, 11), some (0, 103), none, some (1, 13))) else none) else (bif Nat.beq k 86 then some ((some (9, 234), some (9, 235), none, some (1, 13))) else none))) else (bif Nat.blt k 89 then (bif Nat.blt k 88 then (bif Nat.beq k 87 then some ((some (10, 2), some (10, 3), none, some (1, 13))) else none) else (bif Nat.beq k 88 then some ((some (10, 6), some (10, 7), none, some (1, 13))) else none)) else (bif Nat.blt k 90 then (bif Nat.beq k 89 then some ((some (10, 14), some (10, 15), none, some (1, 13))) else none) else (bif Nat.beq k 90 then some ((some (10, 19), some (10, 20), none, some (1, 13))) else none)))
def xpM_6_1 (k : Nat) : Option (Option (Nat × Nat) × Option (Nat × Nat) × Option (Nat × Nat) × Option (Nat × Nat)) := bif Nat.blt k 94 then (bif Nat.blt k 92 then (bif Nat.beq k 91 then some ((some (10, 30), some (0, 104), none, some (1, 13))) else none) else (bif Nat.blt k 93 then (bif Nat.beq k 92 then some ((some (10, 25), some (10, 26), none, some (1, 13))) else none) else (bif Nat.beq k 93 then some ((some (10, 66), some (10, 67), none, some (1, 13))) else none))) else (bif Nat.blt k 96 then (bif Nat.blt k 95 then (bif Nat.beq k 94 then some ((some (10, 70), some (10, 71), none, some (1, 13))) else none) else (bif Nat.beq k 95 then some ((some (10, 74), some (10, 75), none, some (1, 13))) else none)) else (bif Nat.blt k 97 then (bif Nat.beq k 96 then some ((some (10, 78), some (10, 79), none, some (1, 13))) else none) else (bif Nat.beq k 97 then some ((some (10, 111), some (10, 112), none, some (1, 13))) else none)))
def xpM_6 (k : Nat) : Option (Option (Nat × Nat) × Option (Nat × Nat) × Option (Nat × Nat) × Option (Nat × Nat)) := bif Nat.blt k 91 then (xpM_6_0 k) else (xpM_6_1 k)
def xpM_7_0 (k : Nat) : Option (Option (Nat × Nat) × Option (Nat × Nat) × Option (Nat × Nat) × Option (Nat × Nat)) := bif Nat.blt k 101 then (bif Nat.blt k 99 then (bif Nat.beq k 98 then some ((some (10, 118), some (10, 119), none, some (1, 13))) else none) else (bif Nat.blt k 100 then (bif Nat.beq k 99 then some ((some (10, 139), some (10, 140), none, some (1, 13))) else none) else (bif Nat.beq k 100 then some ((some (10, 151), some (10, 152), none, some (1, 13))) else none))) else (bif Nat.blt k 103 then (bif Nat.blt k 102 then (bif Nat.beq k 101 then some ((some (10, 195), some (10, 196), none, some (1, 13))) else none) else (bif Nat.beq k 102 then some ((some (10, 200), some (10, 201), none, some (1, 13))) else none)) else (bif Nat.blt k 104 then (bif Nat.beq k 103 then some ((some (10, 205), some (10, 206), none, some (1, 13))) else none) else (bif Nat.beq k 104 then some ((some (10, 210), some (10, 211), none, some (1, 13))) else none)))
def xpM_7_1 (k : Nat) : Option (Option (Nat × Nat) × Option (Nat × Nat) × Option (Nat × Nat) × Option (Nat × Nat)) := bif Nat.blt k 108 then (bif Nat.blt k 106 then (bif Nat.beq k 105 then some ((some (10, 214), some (10, 215), none, some (1, 13))) else none) else (bif Nat.blt k 107 then (bif Nat.beq k 106 then some ((some (11, 34), some (0, 143), none, some (1, 13))) else none) else (bif Nat.beq k 107 then some ((some (11, 29), some (11, 30), none, some (1, 13))) else none))) else (bif Nat.blt k 110 then (bif Nat.blt k 109 then (bif Nat.beq k 108 then some ((some (11, 37), some (11, 38), none, some (1, 13))) else none) else (bif Nat.beq k 109 then some ((some (11, 42), some (11, 43), none, some (1, 13))) else none)) else (bif Nat.blt k 111 then (bif Nat.beq k 110 then some ((some (11, 46), some (11, 47), none, some (1, 13))) else none) else (bif Nat.beq k 111 then some ((some (11, 52), some (11, 53), none, some (1, 13))) else none)))
def xpM_7 (k : Nat) : Option (Option (Nat × Nat) × Option (Nat × Nat) × Option (Nat × Nat) × Option (Nat × Nat)) := bif Nat.blt k 105 then (xpM_7_0 k) else (xpM_7_1 k)
def xpM_8_0 (k : Nat) : Option (Option (Nat × Nat) × Option (Nat × Nat) × Option (Nat × Nat) × Option (Nat × Nat)) := bif Nat.blt k 115 then (bif Nat.blt k 113 then (bif Nat.beq k 112 then some ((some (11, 60), some (11, 61), none, some (1, 13))) else none) else (bif Nat.blt k 114 then (bif Nat.beq k 113 then some ((some (11, 68), some (11, 69), none, some (1, 13))) else none) else (bif Nat.beq k 114 then some ((some (11, 84), some (11, 85), none, some (1, 13))) else none))) else (bif Nat.blt k 117 then (bif Nat.blt k 116 then (bif Nat.beq k 115 then some ((some (11, 114), some (11, 115), none, some (1, 13))) else none) else (bif Nat.beq k 116 then some ((some (11, 118), some (11, 119), none, some (1, 13))) else none)) else (bif Nat.blt k 118 then (bif Nat.beq k 117 then some ((some (11, 122), some (11, 123), none, some (1, 13))) else none) else (bif Nat.beq k 118 then some ((some (8, 11), some (0, 101), none, some (1, 13))) else none)))
def xpM_8_1 (k : Nat) : Option (Option (Nat × Nat) × Option (Nat × Nat) × Option (Nat × Nat) × Option (Nat × Nat)) := bif Nat.blt k 122 then (bif Nat.blt k 120 then (bif Nat.beq k 119 then some ((some (11, 153), some (0, 158), none, some (1, 13))) else none) else (bif Nat.blt k 121 then (bif Nat.beq k 120 then some ((some (11, 165), some (0, 161), none, some (1, 13))) else none) else (bif Nat.beq k 121 then some ((some (11, 161), some (0, 160), none, some (1, 13))) else none))) else (bif Nat.blt k 124 then (bif Nat.blt k 123 then (bif Nat.beq k 122 then some ((some (11, 131), some (0, 155), none, some (1, 13))) else none) else (bif Nat.beq k 123 then some ((some (11, 145), some (0, 156), none, some (1, 13))) else none)) else (bif Nat.blt k 125 then (bif Nat.beq k 124 then some ((some (11, 126), some (11, 127), none, some (1, 13))) else none) else (bif Nat.beq k 125 then some ((some (12, 17), some (12, 18), none, some (1, 13))) else none)))
def xpM_8 (k : Nat) : Option (Option (Nat × Nat) × Option (Nat × Nat) × Option (Nat × Nat) × Option (Nat × Nat)) := bif Nat.blt k 119 then (xpM_8_0 k) else (xpM_8_1 k)
def xpM_9 (k : Nat) : Option (Option (Nat × Nat) × Option (Nat × Nat) × Option (Nat × Nat) × Option (Nat × Nat)) := bif Nat.blt k 129 then (bif Nat.blt k 127 then (bif Nat.beq k 126 then some ((some (12, 21), some (12, 22), none, some (1, 13))) else none) else (bif Nat.blt k 128 then (bif Nat.beq k 127 then some ((some (12, 140), some (12, 141), none, some (1, 13))) else none) else (bif Nat.beq k 128 then some ((some (12, 144), some (12, 145), none, some (1, 13))) else none))) else (bif Nat.blt k 130 then (bif Nat.beq k 129 then some ((some (12, 148), some (12, 149), none, some (1, 13))) else none) else (bif Nat.blt k 131 then (bif Nat.beq k 130 then some ((some (12, 152), some (12, 153), none, some (1, 13))) else none) else (bif Nat.beq k 131 then some ((some (12, 156), some (12, 157), none, some (1, 13))) else none)))
def xpM (k : Nat) : Option (Option (Nat × Nat) × Option (Nat × Nat) × Option (Nat × Nat) × Option (Nat × Nat)) := bif Nat.blt k 70 then (bif Nat.blt k 28 then (bif Nat.blt k 14 then (xpM_0 k) else (xpM_1 k)) else (bif Nat.blt k 42 then (xpM_2 k) else (bif Nat.blt k 56 then (xpM_3 k) else (xpM_4 k)))) else (bif Nat.blt k 98 then (bif Nat.blt k 84 then (xpM_5 k) else (xpM_6 k)) else (bif Nat.blt k 112 then (xpM_7 k) else (bif Nat.blt k 126 then (xpM_8 k) else (xpM_9 k))))
def xchkF (oc : Nat) : Bool := (List.range 1063).all (fun idx => match xT_F oc idx with
  | none => true
  | some (ci, j) => match xcl[ci]? with
    | some r => Nat.blt j r.2.2 && xat (xpF oc idx) (Cond.fieldLink (xon oc) idx r.1 (r.2.1 j).2.1 (r.2.1 j).2.2.1)
    | none => false)
def xchkC (oc : Nat) : Bool := (List.range 1063).all (fun idx => match xT_C oc idx with
  | none => true
  | some (ci, t) => match xcl[ci]? with
    | some r => xat (xpC oc idx) (Cond.classLink (xon oc) idx r.1) && (Nat.beq t 0 || decide (xT_E t = some ci))
    | none => false)
def xchkK (oc : Nat) : Bool := (List.range 1063).all (fun idx => match xT_K oc idx with
  | none => true
  | some (.int v) => xat (xpK oc idx) (Jvm.Cond.constant (xon oc) idx v)
  | some (.long v) => xat (xpK oc idx) (Jvm.Cond.constantLong (xon oc) idx v)
  | some _ => false)
/-- a method called in a way -/
def xchkM (kd mid na oc idx : Nat) : Bool := match xT_M mid, xpM mid, xpI oc idx with
  | some M, some (pi, ps, pt, _), some q => decide ((parseMethodDescriptor M.2.1.desc).map (fun d => d.parameters.length) = some na) &&
    ((bif Nat.beq kd 1 || (Nat.beq kd 3 || Nat.beq kd 5) then xat (some q) (Cond.methodLink (xon oc) idx M.2.1) else decide (xNs[q.2]? = some (xon oc, idx, M.2.1))) &&
    (bif Nat.beq kd 1 || Nat.beq kd 2 then decide (M.2.1.name = "<init>") && (xat pi (Cond.instanceMethod M.2.1) && decide (M.2.2.2.2.1 = none))
    else bif Nat.beq kd 3 || Nat.beq kd 4 then xat pi (Cond.instanceMethod M.2.1) && (xat ps (Cond.selects M.2.1.cls M.2.1 M.2.1) && (match xcl[M.1]? with
      | some r => decide (r.1 = M.2.1.cls)
      | none => false))
    else xat pt (Cond.static M.2.1)))
  | _, _, _ => false
def xchkI (oc : Nat) : Bool := (List.range 1063).all (fun idx => match xT_I oc idx with
  | none => true
  | some (kd, mid, na) => bif Nat.beq kd 0 then xat (xpI oc idx) (Cond.methodLink (xon oc) idx objectInit)
    else bif Nat.beq kd 7 then xat (xpI oc idx) (Cond.methodLink (xon oc) idx arraycopyName)
    else Nat.ble kd 6 && xchkM kd mid na oc idx)
theorem xchkF_0 : xchkF 0 = true := by decide +kernel
theorem xchkF_1 : xchkF 1 = true := by decide +kernel
theorem xchkF_2 : xchkF 2 = true := by decide +kernel
theorem xchkF_3 : xchkF 3 = true := by decide +kernel
theorem xchkF_4 : xchkF 4 = true := by decide +kernel
theorem xchkF_5 : xchkF 5 = true := by decide +kernel
theorem xchkF_6 : xchkF 6 = true := by decide +kernel
theorem xchkF_7 : xchkF 7 = true := by decide +kernel
theorem xchkF_8 : xchkF 8 = true := by decide +kernel
theorem xchkF_9 : xchkF 9 = true := by decide +kernel
theorem xchkF_10 : xchkF 10 = true := by decide +kernel
theorem xchkF_11 : xchkF 11 = true := by decide +kernel
theorem xchkF_12 : xchkF 12 = true := by decide +kernel
theorem xchkF_13 : xchkF 13 = true := by decide +kernel
theorem xchkF_all : ∀ oc, oc < 14 → xchkF oc = true
  | 0, _ => xchkF_0
  | 1, _ => xchkF_1
  | 2, _ => xchkF_2
  | 3, _ => xchkF_3
  | 4, _ => xchkF_4
  | 5, _ => xchkF_5
  | 6, _ => xchkF_6
  | 7, _ => xchkF_7
  | 8, _ => xchkF_8
  | 9, _ => xchkF_9
  | 10, _ => xchkF_10
  | 11, _ => xchkF_11
  | 12, _ => xchkF_12
  | 13, _ => xchkF_13
  | n + 14, h => absurd h (by omega)
theorem xchkC_0 : xchkC 0 = true := by decide +kernel
theorem xchkC_1 : xchkC 1 = true := by decide +kernel
theorem xchkC_2 : xchkC 2 = true := by decide +kernel
theorem xchkC_3 : xchkC 3 = true := by decide +kernel
theorem xchkC_4 : xchkC 4 = true := by decide +kernel
theorem xchkC_5 : xchkC 5 = true := by decide +kernel
theorem xchkC_6 : xchkC 6 = true := by decide +kernel
theorem xchkC_7 : xchkC 7 = true := by decide +kernel
theorem xchkC_8 : xchkC 8 = true := by decide +kernel
theorem xchkC_9 : xchkC 9 = true := by decide +kernel
theorem xchkC_10 : xchkC 10 = true := by decide +kernel
theorem xchkC_11 : xchkC 11 = true := by decide +kernel
theorem xchkC_12 : xchkC 12 = true := by decide +kernel
theorem xchkC_13 : xchkC 13 = true := by decide +kernel
theorem xchkC_all : ∀ oc, oc < 14 → xchkC oc = true
  | 0, _ => xchkC_0
  | 1, _ => xchkC_1
  | 2, _ => xchkC_2
  | 3, _ => xchkC_3
  | 4, _ => xchkC_4
  | 5, _ => xchkC_5
  | 6, _ => xchkC_6
  | 7, _ => xchkC_7
  | 8, _ => xchkC_8
  | 9, _ => xchkC_9
  | 10, _ => xchkC_10
  | 11, _ => xchkC_11
  | 12, _ => xchkC_12
  | 13, _ => xchkC_13
  | n + 14, h => absurd h (by omega)
theorem xchkK_0 : xchkK 0 = true := by decide +kernel
theorem xchkK_1 : xchkK 1 = true := by decide +kernel
theorem xchkK_2 : xchkK 2 = true := by decide +kernel
theorem xchkK_3 : xchkK 3 = true := by decide +kernel
theorem xchkK_4 : xchkK 4 = true := by decide +kernel
theorem xchkK_5 : xchkK 5 = true := by decide +kernel
theorem xchkK_6 : xchkK 6 = true := by decide +kernel
theorem xchkK_7 : xchkK 7 = true := by decide +kernel
theorem xchkK_8 : xchkK 8 = true := by decide +kernel
theorem xchkK_9 : xchkK 9 = true := by decide +kernel
theorem xchkK_10 : xchkK 10 = true := by decide +kernel
theorem xchkK_11 : xchkK 11 = true := by decide +kernel
theorem xchkK_12 : xchkK 12 = true := by decide +kernel
theorem xchkK_13 : xchkK 13 = true := by decide +kernel
theorem xchkK_all : ∀ oc, oc < 14 → xchkK oc = true
  | 0, _ => xchkK_0
  | 1, _ => xchkK_1
  | 2, _ => xchkK_2
  | 3, _ => xchkK_3
  | 4, _ => xchkK_4
  | 5, _ => xchkK_5
  | 6, _ => xchkK_6
  | 7, _ => xchkK_7
  | 8, _ => xchkK_8
  | 9, _ => xchkK_9
  | 10, _ => xchkK_10
  | 11, _ => xchkK_11
  | 12, _ => xchkK_12
  | 13, _ => xchkK_13
  | n + 14, h => absurd h (by omega)
theorem xchkI_0 : xchkI 0 = true := by decide +kernel
theorem xchkI_1 : xchkI 1 = true := by decide +kernel
theorem xchkI_2 : xchkI 2 = true := by decide +kernel
theorem xchkI_3 : xchkI 3 = true := by decide +kernel
theorem xchkI_4 : xchkI 4 = true := by decide +kernel
theorem xchkI_5 : xchkI 5 = true := by decide +kernel
theorem xchkI_6 : xchkI 6 = true := by decide +kernel
theorem xchkI_7 : xchkI 7 = true := by decide +kernel
theorem xchkI_8 : xchkI 8 = true := by decide +kernel
theorem xchkI_9 : xchkI 9 = true := by decide +kernel
theorem xchkI_10 : xchkI 10 = true := by decide +kernel
theorem xchkI_11 : xchkI 11 = true := by decide +kernel
theorem xchkI_12 : xchkI 12 = true := by decide +kernel
theorem xchkI_13 : xchkI 13 = true := by decide +kernel
theorem xchkI_all : ∀ oc, oc < 14 → xchkI oc = true
  | 0, _ => xchkI_0
  | 1, _ => xchkI_1
  | 2, _ => xchkI_2
  | 3, _ => xchkI_3
  | 4, _ => xchkI_4
  | 5, _ => xchkI_5
  | 6, _ => xchkI_6
  | 7, _ => xchkI_7
  | 8, _ => xchkI_8
  | 9, _ => xchkI_9
  | 10, _ => xchkI_10
  | 11, _ => xchkI_11
  | 12, _ => xchkI_12
  | 13, _ => xchkI_13
  | n + 14, h => absurd h (by omega)
theorem xT_F_out {oc idx : Nat} {x : Nat × Nat} (h : xT_F oc idx = some x) : oc < 14 ∧ idx < 1063 := by
  unfold xT_F at h
  cases hb : Nat.blt idx 1063 with
  | false => rw [hb] at h; cases h
  | true =>
    refine ⟨?_, Nat.blt_eq.mp hb⟩
    rw [hb] at h
    rcases Nat.lt_or_ge oc 14 with h1 | h1
    · exact h1
    · obtain ⟨n, rfl⟩ : ∃ n, oc = n + 14 := ⟨oc - 14, by omega⟩
      cases h
theorem xT_C_out {oc idx : Nat} {x : Nat × Nat} (h : xT_C oc idx = some x) : oc < 14 ∧ idx < 1063 := by
  unfold xT_C at h
  cases hb : Nat.blt idx 1063 with
  | false => rw [hb] at h; cases h
  | true =>
    refine ⟨?_, Nat.blt_eq.mp hb⟩
    rw [hb] at h
    rcases Nat.lt_or_ge oc 14 with h1 | h1
    · exact h1
    · obtain ⟨n, rfl⟩ : ∃ n, oc = n + 14 := ⟨oc - 14, by omega⟩
      cases h
theorem xT_K_out {oc idx : Nat} {x : Value} (h : xT_K oc idx = some x) : oc < 14 ∧ idx < 1063 := by
  unfold xT_K at h
  cases hb : Nat.blt idx 1063 with
  | false => rw [hb] at h; cases h
  | true =>
    refine ⟨?_, Nat.blt_eq.mp hb⟩
    rw [hb] at h
    rcases Nat.lt_or_ge oc 14 with h1 | h1
    · exact h1
    · obtain ⟨n, rfl⟩ : ∃ n, oc = n + 14 := ⟨oc - 14, by omega⟩
      cases h
theorem xT_I_out {oc idx : Nat} {x : Nat × Nat × Nat} (h : xT_I oc idx = some x) : oc < 14 ∧ idx < 1063 := by
  unfold xT_I at h
  cases hb : Nat.blt idx 1063 with
  | false => rw [hb] at h; cases h
  | true =>
    refine ⟨?_, Nat.blt_eq.mp hb⟩
    rw [hb] at h
    rcases Nat.lt_or_ge oc 14 with h1 | h1
    · exact h1
    · obtain ⟨n, rfl⟩ : ∃ n, oc = n + 14 := ⟨oc - 14, by omega⟩
      cases h
section XOK
variable (A : Nat → Option (Nat × (Nat → Int32)))
theorem xok_F : ix_okF (xT A) xcl xon xTs := by
  intro oc idx ci j h
  have h : xT_F oc idx = some (ci, j) := h
  obtain ⟨h1, h2⟩ := xT_F_out h
  have h3 := List.all_eq_true.mp (xchkF_all oc h1) idx (List.mem_range.mpr h2)
  rw [h] at h3
  simp only at h3
  split at h3
  · rename_i r hr
    rw [Bool.and_eq_true] at h3
    exact ⟨r, hr, Nat.blt_eq.mp h3.1, xat_ok h3.2 rfl⟩
  · cases h3
theorem xok_C : ix_okC (xT A) xcl xon xTs := by
  intro oc idx ci t h
  have h : xT_C oc idx = some (ci, t) := h
  obtain ⟨h1, h2⟩ := xT_C_out h
  have h3 := List.all_eq_true.mp (xchkC_all oc h1) idx (List.mem_range.mpr h2)
  rw [h] at h3
  simp only at h3
  split at h3
  · rename_i r hr
    rw [Bool.and_eq_true, Bool.or_eq_true] at h3
    exact ⟨r, hr, xat_ok h3.1 rfl, fun ht => of_decide_eq_true (h3.2.resolve_left (fun q => ht (Nat.eq_of_beq_eq_true q)))⟩
  · cases h3
theorem xok_K : ix_okK (xT A) xon xTs := by
  refine ⟨fun oc idx v h => ?_, fun oc idx v h => ?_⟩
  · have h : xT_K oc idx = some (.int v) := h
    obtain ⟨h1, h2⟩ := xT_K_out h
    have h3 := List.all_eq_true.mp (xchkK_all oc h1) idx (List.mem_range.mpr h2)
    rw [h] at h3
    exact xat_ok h3 rfl
  · have h : xT_K oc idx = some (.long v) := h
    obtain ⟨h1, h2⟩ := xT_K_out h
    have h3 := List.all_eq_true.mp (xchkK_all oc h1) idx (List.mem_range.mpr h2)
    rw [h] at h3
    exact xat_ok h3 rfl
theorem xw_oi : Cond.instanceMethod objectInit ∈ xTs := xat_ok (q := some (1, 27)) (by decide +kernel) rfl
theorem xw_oc : Cond.code objectInit ⟨#[0xb1]⟩ 1 none ∈ xTs := xTs_at (k := 1) (i := 28) rfl rfl
theorem xw_an : Cond.native arraycopyName ∈ xTs := xat_ok (q := some (3, 88)) (by decide +kernel) rfl
theorem xw_as : Cond.static arraycopyName ∈ xTs := xat_ok (q := some (3, 87)) (by decide +kernel) rfl
theorem xw_ai : Cond.initialized "java/lang/System" ∈ xTs := xat_ok (q := some (1, 14)) (by decide +kernel) rfl
theorem xok_I : ix_okI (xT A) xcl xon xTs xNs := by
  intro oc idx kd mid na h
  have h : xT_I oc idx = some (kd, mid, na) := h
  obtain ⟨h1, h2⟩ := xT_I_out h
  have h3 := List.all_eq_true.mp (xchkI_all oc h1) idx (List.mem_range.mpr h2)
  rw [h] at h3
  simp only at h3
  refine ⟨fun hk => ?_, fun hk => ?_, fun hk1 hk6 => ?_⟩
  · subst hk
    exact ⟨xat_ok h3 rfl, xw_oi, xw_oc⟩
  · subst hk
    exact ⟨xat_ok h3 rfl, xw_an, xw_as, xw_ai⟩
  · have hb0 : Nat.beq kd 0 = false := by
      cases hb : Nat.beq kd 0 with
      | false => rfl
      | true => have := Nat.eq_of_beq_eq_true hb; omega
    have hb7 : Nat.beq kd 7 = false := by
      cases hb : Nat.beq kd 7 with
      | false => rfl
      | true => have := Nat.eq_of_beq_eq_true hb; omega
    rw [hb0, hb7] at h3
    simp only [cond_false, Bool.and_eq_true] at h3
    have h4 := h3.2
    unfold xchkM at h4
    split at h4
    · rename_i M pi ps pt pn q hM hpM hpI
      refine ⟨M, hM, ?_⟩
      rcases (show kd = 1 ∨ kd = 2 ∨ kd = 3 ∨ kd = 4 ∨ kd = 5 ∨ kd = 6 by omega) with rfl | rfl | rfl | rfl | rfl | rfl <;> simp only [Nat.beq, Bool.or_true, Bool.true_or, Bool.or_false, Bool.false_or, cond_true, cond_false, Bool.and_eq_true, decide_eq_true_eq] at h4
      · obtain ⟨a1, a2, a3, a4, a5⟩ := h4
        exact ⟨a1, fun _ => xat_ok a2 rfl, fun q => by omega, fun _ => ⟨a3, xat_ok a4 rfl, a5⟩, fun q => by omega, fun q => by omega⟩
      · obtain ⟨a1, a2, a3, a4, a5⟩ := h4
        exact ⟨a1, fun q => by omega, fun _ => List.mem_of_getElem? a2, fun _ => ⟨a3, xat_ok a4 rfl, a5⟩, fun q => by omega, fun q => by omega⟩
      · obtain ⟨a1, a2, a3, a4, a5⟩ := h4
        split at a5
        · rename_i r hr
          exact ⟨a1, fun _ => xat_ok a2 rfl, fun q => by omega, fun q => by omega, fun _ => ⟨xat_ok a3 rfl, xat_ok a4 rfl, r, hr, of_decide_eq_true a5⟩, fun q => by omega⟩
        · cases a5
      · obtain ⟨a1, a2, a3, a4, a5⟩ := h4
        split at a5
        · rename_i r hr
          exact ⟨a1, fun q => by omega, fun _ => List.mem_of_getElem? a2, fun q => by omega, fun _ => ⟨xat_ok a3 rfl, xat_ok a4 rfl, r, hr, of_decide_eq_true a5⟩, fun q => by omega⟩
        · cases a5
      · obtain ⟨a1, a2, a3⟩ := h4
        exact ⟨a1, fun _ => xat_ok a2 rfl, fun q => by omega, fun q => by omega, fun q => by omega, fun _ => xat_ok a3 rfl⟩
      · obtain ⟨a1, a2, a3⟩ := h4
        exact ⟨a1, fun q => by omega, fun _ => List.mem_of_getElem? a2, fun q => by omega, fun q => by omega, fun _ => xat_ok a3 rfl⟩
    · cases h4
end XOK
