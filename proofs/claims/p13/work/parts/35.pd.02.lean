theorem RVq_s {n ib : Int} (h : 1 ≤ n) : RVq (n + 1) ib = RVq n ib + 2 := by
  unfold RVq
  rw [if_neg (by omega), if_neg (by omega : ¬ n = 0)]
  split <;> omega
theorem c_exp {A : Nat → Option (Nat × (Nat → Int32))} {M : jm} {Q : Option Value → jm → Prop} {b kk : Int} (hI_M : RI M) (hH_M : RH M) (hS_M : RF M) (p0 : SS M b kk) (p1 : 0 ≤ b ∧ b ≤ 4) (k1 : ∀ M' : jm, RI M' → RH M' → RF M' → BS M' → TK M' ≤ TK M → M' 598 73 ≤ M' 598 72 → CP M M' → M 598 89 ≤ M' 598 89 → (∀ (a : Nat) (i : Int), a ≠ 598 → a ≠ 659 → a ≠ 660 → a ≠ 664 → a ≠ 665 → a ≠ 666 → a ≠ 667 → M' a i = M a i) → (∀ (i : Int), i ≠ 73 → i ≠ 74 → i ≠ 75 → i ≠ 76 → i ≠ 77 → i ≠ 78 → i ≠ 79 → i ≠ 80 → i ≠ 81 → i ≠ 89 → i ≠ 90 → i ≠ 100 → i ≠ 102 → M' 598 i = M 598 i) → Q none M') (k2 : ∀ M' : jm, RI M' → RH M' → RF M' → SS M' (b + 1) kk → TK M' < TK M → CP M M' → M 598 89 ≤ M' 598 89 → (∀ (a : Nat) (i : Int), a ≠ 598 → a ≠ 659 → a ≠ 660 → a ≠ 664 → a ≠ 665 → a ≠ 666 → a ≠ 667 → M' a i = M a i) → (∀ (i : Int), i ≠ 73 → i ≠ 74 → i ≠ 75 → i ≠ 76 → i ≠ 77 → i ≠ 78 → i ≠ 79 → i ≠ 80 → i ≠ 81 → i ≠ 89 → i ≠ 90 → i ≠ 100 → i ≠ 102 → M' 598 i = M 598 i) → Q none M') : jc A 7 364 [.ref (598)] M Q := r_exp hI_M hH_M hS_M p0 p1 (fun M' a1 a2 a3 w0 w1 w2 w3 w4 w5 w6 w7 => by
  rcases w0 with z | z
  · exact k1 M' a1 a2 a3 z w1 w2 w4 w5 w6 w7
  · exact k2 M' a1 a2 a3 z.1 z.2 w4 w5 w6 w7)
