section
theorem M0_AS : AS M0 0 := by
  have e : M0 598 112 = 0 := by decide +kernel
  refine ⟨by rw [e]; decide, fun f j _ _ _ => ⟨fun _ => ?_, fun _ => ?_, fun _ => ?_⟩⟩ <;> rw [M0_685] <;> decide
theorem M0_t : M0 598 2 = 0 := by decide +kernel
theorem M0_FW : FWq (M0 650) := by
  have h : (List.range 14).all (fun k => (List.range 11).all (fun f => decide (M0 650 (Int.ofNat (11 * k + f)) ≠ -1 → ((k : Int) ≤ 11 → (f : Int) < fldn k) ∧ ((k : Int) = 12 → (f : Int) ≤ 4)))) = true := by decide +kernel
  intro k f h0 h1 h2 h3
  obtain ⟨K, rfl⟩ : ∃ K : Nat, k = K := ⟨k.toNat, by omega⟩
  obtain ⟨F, rfl⟩ : ∃ F : Nat, f = F := ⟨f.toNat, by omega⟩
  have q := of_decide_eq_true (List.all_eq_true.mp (List.all_eq_true.mp h K (List.mem_range.mpr (by omega))) F (List.mem_range.mpr (by omega)))
  have e : (11 * (K : Int) + (F : Int)) = Int.ofNat (11 * K + F) := by
    show _ = ((11 * K + F : Nat) : Int)
    omega
  rw [e]
  exact q
end
section
/-! ===== the class: what its cells may hold, by kind ===== -/
section JL2
variable {A : Nat → Option (Nat × (Nat → Int32))} {D : Nat} {m : ix_M} {pc : Nat} {ls : ix_L} {st : List Value} {M : jm} {Q : Option Value → jm → Prop}
theorem jr.acpL {idx mid na a d n0 n1 : Nat} {sp dp n : Int} (hi : m.2.2.2.2.2.2 pc = some (.invokestatic idx)) (h1 : ix_tI (xT A) m.1 idx = some (7, mid, na)) (hc : ix_cats st ≤ 8) (ha : a < xNc) (hs : xsh a = (1, n0)) (hd : d < xNc) (ht : xsh d = (1, n1)) (hn0 : n0 ≤ 2000000) (hn1 : n1 ≤ 2000000) (hsp : 0 ≤ sp) (hdp : 0 ≤ dp) (hn : 0 ≤ n) (h0 : sp + n ≤ (n0 : Nat)) (h2 : dp + n ≤ (n1 : Nat)) (k : jr A D m (pc + 3) ls st (jcpy M a sp d dp n) Q) : jr A D m pc ls (.int (Int32.ofInt n) :: .int (Int32.ofInt dp) :: .ref d :: .int (Int32.ofInt sp) :: .ref a :: st) M Q := by
  refine jr_c1 (Or.inr (Or.inr ⟨_, rfl⟩)) hi (fun f => ?_) k
  obtain ⟨p1, p2⟩ := jnn hsp (by omega)
  obtain ⟨q1, q2⟩ := jnn hdp (by omega)
  obtain ⟨r1, r2⟩ := jnn hn (by omega)
  unfold ix_cal
  simp only [h1]
  unfold ix_acp
  simp only [jarr1 ha hs, jarr1 hd ht]
  rw [p2, q2, r2, if_pos ⟨p1, q1, r1, by omega, by omega, hc⟩]
  congr 2
  refine jH_cpy M ?_
  rw [ht]
  show _ = Sum.inl (1, n1, Sum.inr (Sum.inl _))
  congr 3
  congr 2
  funext j
  unfold va_cpy jcpy
  by_cases hj : dp.toNat ≤ j ∧ j < dp.toNat + n.toNat
  · rw [if_pos hj, if_pos ⟨rfl, by omega, by omega⟩]
    show Int64.ofInt (M a ((sp.toNat + (j - dp.toNat) : Nat) : Int)) = Int64.ofInt (M a (sp + ((j : Int) - dp)))
    rw [show (((sp.toNat + (j - dp.toNat) : Nat) : Int)) = sp + ((j : Int) - dp) by omega]
  · rw [if_neg hj, if_neg (by omega)]
end JL2
end
