section
/-! ===== the reference: isRelated ===== -/
theorem v7_0 {M : jm} {f : Int → Int} {N C e a r x : Int} (h : HT M f N C) (hx : rf M x = f) (he : 0 ≤ e ∧ e < C) (hk : M 603 e = 7) (ha : M 604 e = a) (hr : r = M 601 (400 * x + a)) (h0 : 0 ≤ r ∧ r ≤ 255) : vA f N C e 0 = r := by
  have hh := HT.f h he
  rw [vA_k he (show hX f N e = 7 by omega) (by decide +kernel), vof_7_0, nbs_1, Int.add_zero, ← hh.2.1, ha, ← hx, rf_a, ← hr]
  omega
theorem qf_n {M : jm} {f : Int → Int} {N C e : Int} (h : HT M f N C) (he : 0 ≤ e ∧ e < C) (hn : M 603 e ≠ 7 ∨ (vA f N C e 0 ≠ 3 ∧ vA f N C e 0 ≠ 11) ∨ C ≤ e + 2 ∨ (M 603 (e + 1) ≠ 2 ∧ M 603 (e + 1) ≠ 3) ∨ (M 603 (e + 2) < 7 ∨ 9 < M 603 (e + 2))) : ¬ qfF f N C e := by
  intro q
  obtain ⟨q1, q2, q3, q4⟩ := q
  have hh := HT.f h he
  rw [kA_i he] at q1
  have z2 := kA_in (f := f) (N := N) (C := C) (x := e + 2) (by omega)
  have z1 : 0 ≤ e + 1 ∧ e + 1 < C := by omega
  have h1 := HT.f h z1
  have h2 := HT.f h z2
  rw [kA_i z1] at q3
  rw [kA_i z2] at q4
  omega
theorem qf_y {M : jm} {f : Int → Int} {N C e : Int} (h : HT M f N C) (he : 0 ≤ e ∧ e + 2 < C) (h1 : M 603 e = 7) (h2 : vA f N C e 0 = 3 ∨ vA f N C e 0 = 11) (h3 : M 603 (e + 1) = 2 ∨ M 603 (e + 1) = 3) (h4 : 7 ≤ M 603 (e + 2) ∧ M 603 (e + 2) ≤ 9) : qfF f N C e := by
  have a0 := HT.f h (show 0 ≤ e ∧ e < C by omega)
  have a1 := HT.f h (show 0 ≤ e + 1 ∧ e + 1 < C by omega)
  have a2 := HT.f h (show 0 ≤ e + 2 ∧ e + 2 < C by omega)
  refine ⟨?_, h2, ?_, ?_⟩
  · rw [kA_i (show 0 ≤ e ∧ e < C by omega)]; omega
  · rw [kA_i (show 0 ≤ e + 1 ∧ e + 1 < C by omega)]; omega
  · rw [kA_i (show 0 ≤ e + 2 ∧ e + 2 < C by omega)]; omega
end
