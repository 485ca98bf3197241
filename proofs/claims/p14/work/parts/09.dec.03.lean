section
set_option maxHeartbeats 8000000 in
theorem ix_de_ok {b : ByteArray} {pc : Nat} {l : List UInt8} {i : Instr} (hl : b.data.toList.drop pc = l) (h : ix_en i l = true) : decode b pc = .ok (i, ix_len i) := by
  unfold ix_en at h
  split at h
  · obtain ⟨K, hK, h1⟩ := ix_k1 pc
    exact ix_d0 hl hK (by rw [Nat.eq_of_beq_eq_true h]; exact h1)
  · obtain ⟨K, hK, h1⟩ := ix_k46 pc
    exact ix_d0 hl hK (by rw [Nat.eq_of_beq_eq_true h]; exact h1)
  · obtain ⟨K, hK, h1⟩ := ix_k47 pc
    exact ix_d0 hl hK (by rw [Nat.eq_of_beq_eq_true h]; exact h1)
  · obtain ⟨K, hK, h1⟩ := ix_k50 pc
    exact ix_d0 hl hK (by rw [Nat.eq_of_beq_eq_true h]; exact h1)
  · obtain ⟨K, hK, h1⟩ := ix_k51 pc
    exact ix_d0 hl hK (by rw [Nat.eq_of_beq_eq_true h]; exact h1)
  · obtain ⟨K, hK, h1⟩ := ix_k79 pc
    exact ix_d0 hl hK (by rw [Nat.eq_of_beq_eq_true h]; exact h1)
  · obtain ⟨K, hK, h1⟩ := ix_k80 pc
    exact ix_d0 hl hK (by rw [Nat.eq_of_beq_eq_true h]; exact h1)
  · obtain ⟨K, hK, h1⟩ := ix_k83 pc
    exact ix_d0 hl hK (by rw [Nat.eq_of_beq_eq_true h]; exact h1)
  · obtain ⟨K, hK, h1⟩ := ix_k84 pc
    exact ix_d0 hl hK (by rw [Nat.eq_of_beq_eq_true h]; exact h1)
  · obtain ⟨K, hK, h1⟩ := ix_k87 pc
    exact ix_d0 hl hK (by rw [Nat.eq_of_beq_eq_true h]; exact h1)
  · obtain ⟨K, hK, h1⟩ := ix_k88 pc
    exact ix_d0 hl hK (by rw [Nat.eq_of_beq_eq_true h]; exact h1)
  · obtain ⟨K, hK, h1⟩ := ix_k89 pc
    exact ix_d0 hl hK (by rw [Nat.eq_of_beq_eq_true h]; exact h1)
  · obtain ⟨K, hK, h1⟩ := ix_k90 pc
    exact ix_d0 hl hK (by rw [Nat.eq_of_beq_eq_true h]; exact h1)
  · obtain ⟨K, hK, h1⟩ := ix_k91 pc
    exact ix_d0 hl hK (by rw [Nat.eq_of_beq_eq_true h]; exact h1)
  · obtain ⟨K, hK, h1⟩ := ix_k92 pc
    exact ix_d0 hl hK (by rw [Nat.eq_of_beq_eq_true h]; exact h1)
  · obtain ⟨K, hK, h1⟩ := ix_k93 pc
    exact ix_d0 hl hK (by rw [Nat.eq_of_beq_eq_true h]; exact h1)
  · obtain ⟨K, hK, h1⟩ := ix_k94 pc
    exact ix_d0 hl hK (by rw [Nat.eq_of_beq_eq_true h]; exact h1)
  · obtain ⟨K, hK, h1⟩ := ix_k96 pc
    exact ix_d0 hl hK (by rw [Nat.eq_of_beq_eq_true h]; exact h1)
  · obtain ⟨K, hK, h1⟩ := ix_k97 pc
    exact ix_d0 hl hK (by rw [Nat.eq_of_beq_eq_true h]; exact h1)
  · obtain ⟨K, hK, h1⟩ := ix_k100 pc
    exact ix_d0 hl hK (by rw [Nat.eq_of_beq_eq_true h]; exact h1)
  · obtain ⟨K, hK, h1⟩ := ix_k101 pc
    exact ix_d0 hl hK (by rw [Nat.eq_of_beq_eq_true h]; exact h1)
  · obtain ⟨K, hK, h1⟩ := ix_k104 pc
    exact ix_d0 hl hK (by rw [Nat.eq_of_beq_eq_true h]; exact h1)
  · obtain ⟨K, hK, h1⟩ := ix_k105 pc
    exact ix_d0 hl hK (by rw [Nat.eq_of_beq_eq_true h]; exact h1)
  · obtain ⟨K, hK, h1⟩ := ix_k108 pc
    exact ix_d0 hl hK (by rw [Nat.eq_of_beq_eq_true h]; exact h1)
  · obtain ⟨K, hK, h1⟩ := ix_k109 pc
    exact ix_d0 hl hK (by rw [Nat.eq_of_beq_eq_true h]; exact h1)
  · obtain ⟨K, hK, h1⟩ := ix_k112 pc
    exact ix_d0 hl hK (by rw [Nat.eq_of_beq_eq_true h]; exact h1)
  · obtain ⟨K, hK, h1⟩ := ix_k113 pc
    exact ix_d0 hl hK (by rw [Nat.eq_of_beq_eq_true h]; exact h1)
  · obtain ⟨K, hK, h1⟩ := ix_k116 pc
    exact ix_d0 hl hK (by rw [Nat.eq_of_beq_eq_true h]; exact h1)
  · obtain ⟨K, hK, h1⟩ := ix_k117 pc
    exact ix_d0 hl hK (by rw [Nat.eq_of_beq_eq_true h]; exact h1)
  · obtain ⟨K, hK, h1⟩ := ix_k120 pc
    exact ix_d0 hl hK (by rw [Nat.eq_of_beq_eq_true h]; exact h1)
  · obtain ⟨K, hK, h1⟩ := ix_k121 pc
    exact ix_d0 hl hK (by rw [Nat.eq_of_beq_eq_true h]; exact h1)
  · obtain ⟨K, hK, h1⟩ := ix_k122 pc
    exact ix_d0 hl hK (by rw [Nat.eq_of_beq_eq_true h]; exact h1)
  · obtain ⟨K, hK, h1⟩ := ix_k123 pc
    exact ix_d0 hl hK (by rw [Nat.eq_of_beq_eq_true h]; exact h1)
  · obtain ⟨K, hK, h1⟩ := ix_k124 pc
    exact ix_d0 hl hK (by rw [Nat.eq_of_beq_eq_true h]; exact h1)
  · obtain ⟨K, hK, h1⟩ := ix_k125 pc
    exact ix_d0 hl hK (by rw [Nat.eq_of_beq_eq_true h]; exact h1)
  · obtain ⟨K, hK, h1⟩ := ix_k126 pc
    exact ix_d0 hl hK (by rw [Nat.eq_of_beq_eq_true h]; exact h1)
  · obtain ⟨K, hK, h1⟩ := ix_k127 pc
    exact ix_d0 hl hK (by rw [Nat.eq_of_beq_eq_true h]; exact h1)
  · obtain ⟨K, hK, h1⟩ := ix_k128 pc
    exact ix_d0 hl hK (by rw [Nat.eq_of_beq_eq_true h]; exact h1)
  · obtain ⟨K, hK, h1⟩ := ix_k129 pc
    exact ix_d0 hl hK (by rw [Nat.eq_of_beq_eq_true h]; exact h1)
  · obtain ⟨K, hK, h1⟩ := ix_k130 pc
    exact ix_d0 hl hK (by rw [Nat.eq_of_beq_eq_true h]; exact h1)
  · obtain ⟨K, hK, h1⟩ := ix_k131 pc
    exact ix_d0 hl hK (by rw [Nat.eq_of_beq_eq_true h]; exact h1)
  · obtain ⟨K, hK, h1⟩ := ix_k133 pc
    exact ix_d0 hl hK (by rw [Nat.eq_of_beq_eq_true h]; exact h1)
  · obtain ⟨K, hK, h1⟩ := ix_k136 pc
    exact ix_d0 hl hK (by rw [Nat.eq_of_beq_eq_true h]; exact h1)
  · obtain ⟨K, hK, h1⟩ := ix_k145 pc
    exact ix_d0 hl hK (by rw [Nat.eq_of_beq_eq_true h]; exact h1)
  · obtain ⟨K, hK, h1⟩ := ix_k146 pc
    exact ix_d0 hl hK (by rw [Nat.eq_of_beq_eq_true h]; exact h1)
  · obtain ⟨K, hK, h1⟩ := ix_k147 pc
    exact ix_d0 hl hK (by rw [Nat.eq_of_beq_eq_true h]; exact h1)
  · obtain ⟨K, hK, h1⟩ := ix_k148 pc
    exact ix_d0 hl hK (by rw [Nat.eq_of_beq_eq_true h]; exact h1)
  · obtain ⟨K, hK, h1⟩ := ix_k172 pc
    exact ix_d0 hl hK (by rw [Nat.eq_of_beq_eq_true h]; exact h1)
  · obtain ⟨K, hK, h1⟩ := ix_k173 pc
    exact ix_d0 hl hK (by rw [Nat.eq_of_beq_eq_true h]; exact h1)
  · obtain ⟨K, hK, h1⟩ := ix_k176 pc
    exact ix_d0 hl hK (by rw [Nat.eq_of_beq_eq_true h]; exact h1)
  · obtain ⟨K, hK, h1⟩ := ix_k177 pc
    exact ix_d0 hl hK (by rw [Nat.eq_of_beq_eq_true h]; exact h1)
  · obtain ⟨K, hK, h1⟩ := ix_k190 pc
    exact ix_d0 hl hK (by rw [Nat.eq_of_beq_eq_true h]; exact h1)
  · rename_i k x _
    have hx := Nat.eq_of_beq_eq_true h
    rcases k with ⟨k, hk⟩
    rcases (show k = 0 ∨ k = 1 ∨ k = 2 ∨ k = 3 by omega) with rfl | rfl | rfl | rfl
    · obtain ⟨K, hK, h1⟩ := ix_k26 pc
      exact ix_d0 hl hK (by rw [hx]; exact h1)
    · obtain ⟨K, hK, h1⟩ := ix_k27 pc
      exact ix_d0 hl hK (by rw [hx]; exact h1)
    · obtain ⟨K, hK, h1⟩ := ix_k28 pc
      exact ix_d0 hl hK (by rw [hx]; exact h1)
    · obtain ⟨K, hK, h1⟩ := ix_k29 pc
      exact ix_d0 hl hK (by rw [hx]; exact h1)
  · rename_i k x _
    have hx := Nat.eq_of_beq_eq_true h
    rcases k with ⟨k, hk⟩
    rcases (show k = 0 ∨ k = 1 ∨ k = 2 ∨ k = 3 by omega) with rfl | rfl | rfl | rfl
    · obtain ⟨K, hK, h1⟩ := ix_k30 pc
      exact ix_d0 hl hK (by rw [hx]; exact h1)
    · obtain ⟨K, hK, h1⟩ := ix_k31 pc
      exact ix_d0 hl hK (by rw [hx]; exact h1)
    · obtain ⟨K, hK, h1⟩ := ix_k32 pc
      exact ix_d0 hl hK (by rw [hx]; exact h1)
    · obtain ⟨K, hK, h1⟩ := ix_k33 pc
      exact ix_d0 hl hK (by rw [hx]; exact h1)
  · rename_i k x _
    have hx := Nat.eq_of_beq_eq_true h
    rcases k with ⟨k, hk⟩
    rcases (show k = 0 ∨ k = 1 ∨ k = 2 ∨ k = 3 by omega) with rfl | rfl | rfl | rfl
    · obtain ⟨K, hK, h1⟩ := ix_k42 pc
      exact ix_d0 hl hK (by rw [hx]; exact h1)
    · obtain ⟨K, hK, h1⟩ := ix_k43 pc
      exact ix_d0 hl hK (by rw [hx]; exact h1)
    · obtain ⟨K, hK, h1⟩ := ix_k44 pc
      exact ix_d0 hl hK (by rw [hx]; exact h1)
    · obtain ⟨K, hK, h1⟩ := ix_k45 pc
      exact ix_d0 hl hK (by rw [hx]; exact h1)
  · rename_i k x _
    have hx := Nat.eq_of_beq_eq_true h
    rcases k with ⟨k, hk⟩
    rcases (show k = 0 ∨ k = 1 ∨ k = 2 ∨ k = 3 by omega) with rfl | rfl | rfl | rfl
    · obtain ⟨K, hK, h1⟩ := ix_k59 pc
      exact ix_d0 hl hK (by rw [hx]; exact h1)
    · obtain ⟨K, hK, h1⟩ := ix_k60 pc
      exact ix_d0 hl hK (by rw [hx]; exact h1)
    · obtain ⟨K, hK, h1⟩ := ix_k61 pc
      exact ix_d0 hl hK (by rw [hx]; exact h1)
    · obtain ⟨K, hK, h1⟩ := ix_k62 pc
      exact ix_d0 hl hK (by rw [hx]; exact h1)
  · rename_i k x _
    have hx := Nat.eq_of_beq_eq_true h
    rcases k with ⟨k, hk⟩
    rcases (show k = 0 ∨ k = 1 ∨ k = 2 ∨ k = 3 by omega) with rfl | rfl | rfl | rfl
    · obtain ⟨K, hK, h1⟩ := ix_k63 pc
      exact ix_d0 hl hK (by rw [hx]; exact h1)
    · obtain ⟨K, hK, h1⟩ := ix_k64 pc
      exact ix_d0 hl hK (by rw [hx]; exact h1)
    · obtain ⟨K, hK, h1⟩ := ix_k65 pc
      exact ix_d0 hl hK (by rw [hx]; exact h1)
    · obtain ⟨K, hK, h1⟩ := ix_k66 pc
      exact ix_d0 hl hK (by rw [hx]; exact h1)
  · rename_i k x _
    have hx := Nat.eq_of_beq_eq_true h
    rcases k with ⟨k, hk⟩
    rcases (show k = 0 ∨ k = 1 ∨ k = 2 ∨ k = 3 by omega) with rfl | rfl | rfl | rfl
    · obtain ⟨K, hK, h1⟩ := ix_k75 pc
      exact ix_d0 hl hK (by rw [hx]; exact h1)
    · obtain ⟨K, hK, h1⟩ := ix_k76 pc
      exact ix_d0 hl hK (by rw [hx]; exact h1)
    · obtain ⟨K, hK, h1⟩ := ix_k77 pc
      exact ix_d0 hl hK (by rw [hx]; exact h1)
    · obtain ⟨K, hK, h1⟩ := ix_k78 pc
      exact ix_d0 hl hK (by rw [hx]; exact h1)
  · rename_i k x _
    have hx := Nat.eq_of_beq_eq_true h
    rcases k with ⟨k, hk⟩
    rcases (show k = 0 ∨ k = 1 by omega) with rfl | rfl
    · obtain ⟨K, hK, h1⟩ := ix_k9 pc
      exact ix_d0 hl hK (by rw [hx]; exact h1)
    · obtain ⟨K, hK, h1⟩ := ix_k10 pc
      exact ix_d0 hl hK (by rw [hx]; exact h1)
  · rename_i n x _
    obtain ⟨h2, h3, h4⟩ := of_decide_eq_true h
    rcases (show x.toNat = 2 ∨ x.toNat = 3 ∨ x.toNat = 4 ∨ x.toNat = 5 ∨ x.toNat = 6 ∨ x.toNat = 7 ∨ x.toNat = 8 by omega) with hx | hx | hx | hx | hx | hx | hx
    · have hn : n = (-1) := by omega
      subst hn
      obtain ⟨K, hK, h1⟩ := ix_k2 pc
      exact ix_d0 hl hK (by rw [hx]; exact h1)
    · have hn : n = 0 := by omega
      subst hn
      obtain ⟨K, hK, h1⟩ := ix_k3 pc
      exact ix_d0 hl hK (by rw [hx]; exact h1)
    · have hn : n = 1 := by omega
      subst hn
      obtain ⟨K, hK, h1⟩ := ix_k4 pc
      exact ix_d0 hl hK (by rw [hx]; exact h1)
    · have hn : n = 2 := by omega
      subst hn
      obtain ⟨K, hK, h1⟩ := ix_k5 pc
      exact ix_d0 hl hK (by rw [hx]; exact h1)
    · have hn : n = 3 := by omega
      subst hn
      obtain ⟨K, hK, h1⟩ := ix_k6 pc
      exact ix_d0 hl hK (by rw [hx]; exact h1)
    · have hn : n = 4 := by omega
      subst hn
      obtain ⟨K, hK, h1⟩ := ix_k7 pc
      exact ix_d0 hl hK (by rw [hx]; exact h1)
    · have hn : n = 5 := by omega
      subst hn
      obtain ⟨K, hK, h1⟩ := ix_k8 pc
      exact ix_d0 hl hK (by rw [hx]; exact h1)
  · rw [Bool.and_eq_true] at h
    obtain ⟨K, hK, h1⟩ := ix_k18 pc
    rw [← Nat.eq_of_beq_eq_true h.2]
    exact ix_d1 hl hK (by rw [Nat.eq_of_beq_eq_true h.1]; exact h1)
  · rw [Bool.and_eq_true] at h
    obtain ⟨K, hK, h1⟩ := ix_k21 pc
    rw [← Nat.eq_of_beq_eq_true h.2]
    exact ix_d1 hl hK (by rw [Nat.eq_of_beq_eq_true h.1]; exact h1)
  · rw [Bool.and_eq_true] at h
    obtain ⟨K, hK, h1⟩ := ix_k22 pc
    rw [← Nat.eq_of_beq_eq_true h.2]
    exact ix_d1 hl hK (by rw [Nat.eq_of_beq_eq_true h.1]; exact h1)
  · rw [Bool.and_eq_true] at h
    obtain ⟨K, hK, h1⟩ := ix_k25 pc
    rw [← Nat.eq_of_beq_eq_true h.2]
    exact ix_d1 hl hK (by rw [Nat.eq_of_beq_eq_true h.1]; exact h1)
  · rw [Bool.and_eq_true] at h
    obtain ⟨K, hK, h1⟩ := ix_k54 pc
    rw [← Nat.eq_of_beq_eq_true h.2]
    exact ix_d1 hl hK (by rw [Nat.eq_of_beq_eq_true h.1]; exact h1)
  · rw [Bool.and_eq_true] at h
    obtain ⟨K, hK, h1⟩ := ix_k55 pc
    rw [← Nat.eq_of_beq_eq_true h.2]
    exact ix_d1 hl hK (by rw [Nat.eq_of_beq_eq_true h.1]; exact h1)
  · rw [Bool.and_eq_true] at h
    obtain ⟨K, hK, h1⟩ := ix_k58 pc
    rw [← Nat.eq_of_beq_eq_true h.2]
    exact ix_d1 hl hK (by rw [Nat.eq_of_beq_eq_true h.1]; exact h1)
  · rw [Bool.and_eq_true] at h
    obtain ⟨K, hK, h1⟩ := ix_k16 pc
    rw [← of_decide_eq_true h.2]
    exact ix_d1s hl hK (by rw [Nat.eq_of_beq_eq_true h.1]; exact h1)
  · rw [Bool.and_eq_true] at h
    obtain ⟨K, hK, h1⟩ := ix_k19 pc
    rw [← Nat.eq_of_beq_eq_true h.2]
    exact ix_d2 hl hK (by rw [Nat.eq_of_beq_eq_true h.1]; exact h1)
  · rw [Bool.and_eq_true] at h
    obtain ⟨K, hK, h1⟩ := ix_k20 pc
    rw [← Nat.eq_of_beq_eq_true h.2]
    exact ix_d2 hl hK (by rw [Nat.eq_of_beq_eq_true h.1]; exact h1)
  · rw [Bool.and_eq_true] at h
    obtain ⟨K, hK, h1⟩ := ix_k178 pc
    rw [← Nat.eq_of_beq_eq_true h.2]
    exact ix_d2 hl hK (by rw [Nat.eq_of_beq_eq_true h.1]; exact h1)
  · rw [Bool.and_eq_true] at h
    obtain ⟨K, hK, h1⟩ := ix_k180 pc
    rw [← Nat.eq_of_beq_eq_true h.2]
    exact ix_d2 hl hK (by rw [Nat.eq_of_beq_eq_true h.1]; exact h1)
  · rw [Bool.and_eq_true] at h
    obtain ⟨K, hK, h1⟩ := ix_k181 pc
    rw [← Nat.eq_of_beq_eq_true h.2]
    exact ix_d2 hl hK (by rw [Nat.eq_of_beq_eq_true h.1]; exact h1)
  · rw [Bool.and_eq_true] at h
    obtain ⟨K, hK, h1⟩ := ix_k182 pc
    rw [← Nat.eq_of_beq_eq_true h.2]
    exact ix_d2 hl hK (by rw [Nat.eq_of_beq_eq_true h.1]; exact h1)
  · rw [Bool.and_eq_true] at h
    obtain ⟨K, hK, h1⟩ := ix_k183 pc
    rw [← Nat.eq_of_beq_eq_true h.2]
    exact ix_d2 hl hK (by rw [Nat.eq_of_beq_eq_true h.1]; exact h1)
  · rw [Bool.and_eq_true] at h
    obtain ⟨K, hK, h1⟩ := ix_k184 pc
    rw [← Nat.eq_of_beq_eq_true h.2]
    exact ix_d2 hl hK (by rw [Nat.eq_of_beq_eq_true h.1]; exact h1)
  · rw [Bool.and_eq_true] at h
    obtain ⟨K, hK, h1⟩ := ix_k187 pc
    rw [← Nat.eq_of_beq_eq_true h.2]
    exact ix_d2 hl hK (by rw [Nat.eq_of_beq_eq_true h.1]; exact h1)
  · rw [Bool.and_eq_true] at h
    obtain ⟨K, hK, h1⟩ := ix_k189 pc
    rw [← Nat.eq_of_beq_eq_true h.2]
    exact ix_d2 hl hK (by rw [Nat.eq_of_beq_eq_true h.1]; exact h1)
  · rw [Bool.and_eq_true] at h
    obtain ⟨K, hK, h1⟩ := ix_k17 pc
    rw [← of_decide_eq_true h.2]
    exact ix_d2s hl hK (by rw [Nat.eq_of_beq_eq_true h.1]; exact h1)
  · rw [Bool.and_eq_true] at h
    obtain ⟨K, hK, h1⟩ := ix_k153 pc
    rw [← of_decide_eq_true h.2]
    exact ix_d2s hl hK (by rw [Nat.eq_of_beq_eq_true h.1]; exact h1)
  · rw [Bool.and_eq_true] at h
    obtain ⟨K, hK, h1⟩ := ix_k154 pc
    rw [← of_decide_eq_true h.2]
    exact ix_d2s hl hK (by rw [Nat.eq_of_beq_eq_true h.1]; exact h1)
  · rw [Bool.and_eq_true] at h
    obtain ⟨K, hK, h1⟩ := ix_k155 pc
    rw [← of_decide_eq_true h.2]
    exact ix_d2s hl hK (by rw [Nat.eq_of_beq_eq_true h.1]; exact h1)
  · rw [Bool.and_eq_true] at h
    obtain ⟨K, hK, h1⟩ := ix_k156 pc
    rw [← of_decide_eq_true h.2]
    exact ix_d2s hl hK (by rw [Nat.eq_of_beq_eq_true h.1]; exact h1)
  · rw [Bool.and_eq_true] at h
    obtain ⟨K, hK, h1⟩ := ix_k157 pc
    rw [← of_decide_eq_true h.2]
    exact ix_d2s hl hK (by rw [Nat.eq_of_beq_eq_true h.1]; exact h1)
  · rw [Bool.and_eq_true] at h
    obtain ⟨K, hK, h1⟩ := ix_k158 pc
    rw [← of_decide_eq_true h.2]
    exact ix_d2s hl hK (by rw [Nat.eq_of_beq_eq_true h.1]; exact h1)
  · rw [Bool.and_eq_true] at h
    obtain ⟨K, hK, h1⟩ := ix_k159 pc
    rw [← of_decide_eq_true h.2]
    exact ix_d2s hl hK (by rw [Nat.eq_of_beq_eq_true h.1]; exact h1)
  · rw [Bool.and_eq_true] at h
    obtain ⟨K, hK, h1⟩ := ix_k160 pc
    rw [← of_decide_eq_true h.2]
    exact ix_d2s hl hK (by rw [Nat.eq_of_beq_eq_true h.1]; exact h1)
  · rw [Bool.and_eq_true] at h
    obtain ⟨K, hK, h1⟩ := ix_k161 pc
    rw [← of_decide_eq_true h.2]
    exact ix_d2s hl hK (by rw [Nat.eq_of_beq_eq_true h.1]; exact h1)
  · rw [Bool.and_eq_true] at h
    obtain ⟨K, hK, h1⟩ := ix_k162 pc
    rw [← of_decide_eq_true h.2]
    exact ix_d2s hl hK (by rw [Nat.eq_of_beq_eq_true h.1]; exact h1)
  · rw [Bool.and_eq_true] at h
    obtain ⟨K, hK, h1⟩ := ix_k163 pc
    rw [← of_decide_eq_true h.2]
    exact ix_d2s hl hK (by rw [Nat.eq_of_beq_eq_true h.1]; exact h1)
  · rw [Bool.and_eq_true] at h
    obtain ⟨K, hK, h1⟩ := ix_k164 pc
    rw [← of_decide_eq_true h.2]
    exact ix_d2s hl hK (by rw [Nat.eq_of_beq_eq_true h.1]; exact h1)
  · rw [Bool.and_eq_true] at h
    obtain ⟨K, hK, h1⟩ := ix_k166 pc
    rw [← of_decide_eq_true h.2]
    exact ix_d2s hl hK (by rw [Nat.eq_of_beq_eq_true h.1]; exact h1)
  · rw [Bool.and_eq_true] at h
    obtain ⟨K, hK, h1⟩ := ix_k167 pc
    rw [← of_decide_eq_true h.2]
    exact ix_d2s hl hK (by rw [Nat.eq_of_beq_eq_true h.1]; exact h1)
  · simp only [Bool.and_eq_true] at h
    obtain ⟨K, hK, h1⟩ := ix_k132 pc
    rw [← Nat.eq_of_beq_eq_true h.2.1, ← of_decide_eq_true h.2.2]
    refine ix_dfin ?_
    rw [hK, ix_bnd (ix_u1 hl), Nat.eq_of_beq_eq_true h.1, h1, ix_bnd (ix_u1 (ix_dl (n := 1) (l1 := [_]) hl rfl)), ix_bnd (ix_s1 (p := pc + 1 + 1) (ix_dl (pc := pc) (n := 2) (l1 := [_, _]) hl rfl))]
    rfl
  · rw [Bool.and_eq_true] at h
    obtain ⟨K, J, hK, h1, j4, j10, j11⟩ := ix_k188 pc
    refine ix_dfin ?_
    rw [hK, ix_bnd (ix_u1 hl), Nat.eq_of_beq_eq_true h.1, h1, ix_bnd (ix_u1 (ix_dl (n := 1) (l1 := [_]) hl rfl)), Nat.eq_of_beq_eq_true h.2, j4]
    rfl
  · rw [Bool.and_eq_true] at h
    obtain ⟨K, J, hK, h1, j4, j10, j11⟩ := ix_k188 pc
    refine ix_dfin ?_
    rw [hK, ix_bnd (ix_u1 hl), Nat.eq_of_beq_eq_true h.1, h1, ix_bnd (ix_u1 (ix_dl (n := 1) (l1 := [_]) hl rfl)), Nat.eq_of_beq_eq_true h.2, j10]
    rfl
  · rw [Bool.and_eq_true] at h
    obtain ⟨K, J, hK, h1, j4, j10, j11⟩ := ix_k188 pc
    refine ix_dfin ?_
    rw [hK, ix_bnd (ix_u1 hl), Nat.eq_of_beq_eq_true h.1, h1, ix_bnd (ix_u1 (ix_dl (n := 1) (l1 := [_]) hl rfl)), Nat.eq_of_beq_eq_true h.2, j11]
    rfl
  · cases h
/-- one pass over the bytes: where the table has an instruction (no switch), the bytes say it -/
noncomputable def ix_scan (cd : Nat → Option Instr) : Nat → List UInt8 → Bool
  | _, [] => true
  | pc, x :: r => (match cd pc with
    | none => true
    | some i => bif Nat.beq (ix_len i) 0 then true else ix_en i (x :: r)) && ix_scan cd (pc + 1) r
theorem ix_scan_ok {b : ByteArray} {cd : Nat → Option Instr} : ∀ {l : List UInt8} {pc : Nat}, b.data.toList.drop pc = l → ix_scan cd pc l = true → ∀ (q : Nat) (i : Instr), pc ≤ q → q < b.data.toList.length → cd q = some i → ¬ ix_len i = 0 → decode b q = .ok (i, ix_len i)
  | [], pc, hl, _, q, i, h1, h2, _, _ => by
    have : b.data.toList.length ≤ pc := List.drop_eq_nil_iff.mp hl
    omega
  | x :: r, pc, hl, h, q, i, h1, h2, hc, hn => by
    unfold ix_scan at h
    rw [Bool.and_eq_true] at h
    by_cases hq : q = pc
    · subst hq
      have h3 := h.1
      rw [hc] at h3
      simp only at h3
      have hb : Nat.beq (ix_len i) 0 = false := by
        cases hb : Nat.beq (ix_len i) 0 with
        | false => rfl
        | true => exact absurd (Nat.eq_of_beq_eq_true hb) hn
      rw [hb] at h3
      exact ix_de_ok hl h3
    · exact ix_scan_ok (l := r) (pc := pc + 1) (by rw [← List.drop_drop, hl]; rfl) h.2 q i (by omega) h2 hc hn
end
