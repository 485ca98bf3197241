theorem TK.ge {M : jm} (h : M 598 73 ≤ 1600) (h2 : 0 ≤ M 598 74) : 0 ≤ TK M := by
  unfold TK
  omega
theorem ES.top40 {M : jm} {b o k d z x : Int} (h : ES M b o k d z x) (h0 : 0 < M 598 102) (hs : strn (M 664 (M 598 102 - 1)) < 1) : M 664 (M 598 102 - 1) = 40 ∧ (M 666 (M 598 102 - 1) = -1 ∨ (25 ≤ M 666 (M 598 102 - 1) ∧ M 666 (M 598 102 - 1) ≤ 30 ∧ M 667 (M 598 102 - 1) ≤ argn (M 666 (M 598 102 - 1)))) := by
  rcases ES.top h h0 with q | q | q | q | q | q
  · exact q
  · rw [q] at hs
    exact absurd hs (by decide)
  · rw [q] at hs
    exact absurd hs (by decide)
  · rw [q] at hs
    exact absurd hs (by decide)
  · rw [q] at hs
    exact absurd hs (by decide)
  · omega
noncomputable def kcO (w : Int) : Int := if w = -1 then 1 else argn w
noncomputable def kcK (w : Int) : Int := if w = -1 then 0 else 2
theorem ES.clo1 {M : jm} {b k d z c p w : Int} (h : ES M b 1 k d z (-1)) (e : M 598 102 = c) (e3 : M 598 100 = p) (e4 : M 664 (c - 1) = 40) (e5 : M 666 (c - 1) = w) (h0 : 0 < c) (hw : w = -1 ∨ M 667 (c - 1) = argn w) : ES (ju (ju M 598 102 (c - 1)) 598 100 (p - 1)) b (kcO w) (k + kcK w) d z (-1) := by
  rcases ES.clo h e e3 e4 e5 h0 hw with ⟨q1, q2⟩ | ⟨q1, q2, q3⟩
  · unfold kcO kcK
    rw [if_pos q1, if_pos q1, Int.add_zero]
    exact q2
  · unfold kcO kcK
    rw [if_neg (by omega), if_neg (by omega)]
    exact q3
