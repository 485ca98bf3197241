/-! ===== the law behind its constructors: scripts that are too short, the dispatch ===== -/
abbrev xTT (L : Nat) (xs : Nat → Int32) : ix_T := xT (xs_A L xs)
abbrev xLS : ix_L := [(3, .int 0), (2, .ref 598), (1, .ref 0), (0, .ref 1000000)]
/-- the law's run from a place comes to its end with true, within the room -/
def xGood (L : Nat) (xs : Nat → Int32) (σ : ix_S) : Prop := ∃ (N : Nat) (hp : ix_H), N ≤ 2 ^ 16 ∧ ix_R (xTT L xs) (ix_run (xTT L xs) 14 8) xm_law N σ (some (.int 1), hp) ∧ hp.1 ≤ 600000 ∧ hp.2.1 ≤ 7302250
theorem xGood.step {L : Nat} {xs : Nat → Int32} {σ σ' : ix_S} (a : Nat) (ha : a ≤ 2 ^ 10) (h : ix_n (xTT L xs) (ix_run (xTT L xs) 14 8) xm_law a σ = some (.inl σ')) (k : ∃ (N : Nat) (hp : ix_H), N ≤ 2 ^ 15 ∧ ix_R (xTT L xs) (ix_run (xTT L xs) 14 8) xm_law N σ' (some (.int 1), hp) ∧ hp.1 ≤ 600000 ∧ hp.2.1 ≤ 7302250) : xGood L xs σ := by
  obtain ⟨N, hp, h1, h2, h3⟩ := k
  exact ⟨a + N, hp, by omega, h2.step a h, h3⟩
theorem xshort (xs : Nat → Int32) : ∀ L, L < 6 → xGood L xs (16, xls0, [], xhp0)
  | 0, _ => ⟨16, _, by decide, ix_R.fin 10 (iy_n_ok (iy_run_ok _ _ _) rfl) |> fun h => ⟨h.choose, Nat.le_trans h.choose_spec.1 (by decide), h.choose_spec.2⟩, by decide, by decide⟩
  | 1, _ => ⟨16, _, by decide, ix_R.fin 10 (iy_n_ok (iy_run_ok _ _ _) rfl) |> fun h => ⟨h.choose, Nat.le_trans h.choose_spec.1 (by decide), h.choose_spec.2⟩, by decide, by decide⟩
  | 2, _ => ⟨16, _, by decide, ix_R.fin 10 (iy_n_ok (iy_run_ok _ _ _) rfl) |> fun h => ⟨h.choose, Nat.le_trans h.choose_spec.1 (by decide), h.choose_spec.2⟩, by decide, by decide⟩
  | 3, _ => ⟨16, _, by decide, ix_R.fin 10 (iy_n_ok (iy_run_ok _ _ _) rfl) |> fun h => ⟨h.choose, Nat.le_trans h.choose_spec.1 (by decide), h.choose_spec.2⟩, by decide, by decide⟩
  | 4, _ => ⟨16, _, by decide, ix_R.fin 10 (iy_n_ok (iy_run_ok _ _ _) rfl) |> fun h => ⟨h.choose, Nat.le_trans h.choose_spec.1 (by decide), h.choose_spec.2⟩, by decide, by decide⟩
  | 5, _ => ⟨16, _, by decide, ix_R.fin 10 (iy_n_ok (iy_run_ok _ _ _) rfl) |> fun h => ⟨h.choose, Nat.le_trans h.choose_spec.1 (by decide), h.choose_spec.2⟩, by decide, by decide⟩
  | n + 6, h => absurd h (by omega)
theorem xpre (xs : Nat → Int32) : ix_n (xTT 6 xs) (ix_run (xTT 6 xs) 14 8) xm_law 13 (16, xls0, [], xhp0) = some (.inl (33, xLS, [.int (xs 0 &&& 63)], xhp0)) := iy_n_ok (iy_run_ok _ _ _) rfl
theorem xdef (xs : Nat → Int32) : ∃ (N : Nat) (hp : ix_H), N ≤ 2 ^ 15 ∧ ix_R (xTT 6 xs) (ix_run (xTT 6 xs) 14 8) xm_law N (1336, xLS, [], xhp0) (some (.int 1), hp) ∧ hp.1 ≤ 600000 ∧ hp.2.1 ≤ 7302250 := ⟨10, _, by decide, ix_R.fin 10 (iy_n_ok (iy_run_ok _ _ _) rfl), by decide, by decide⟩
