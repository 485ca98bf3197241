section
/-! ===== the law's loop ===== -/
theorem lloop {A : Nat → Option (Nat × (Nat → Int32))} [HA A] {N : Nat} {xs : Nat → Int32} (hA0 : A 0 = some (N, xs)) (hN : N ≤ 3072) : ∀ (n : Nat) (M : jm) (c S i : Int), i = 6 * c → 0 ≤ c → c ≤ 512 → CV M (1000000 * c) S → RV M (2689623 * c) S → RDA M M → (0 ≤ S ∧ S ≤ 1000 * c) → 512 - c ≤ n → jr A 364 xm_law 18 [(3, .int (Int32.ofInt (i))), (2, .ref (598)), (1, .ref (0)), (0, .ref (1000000))] [] M (fun rv _ => rv = some (.int (Int32.ofInt 1))) := by
  intro n
  induction n using Nat.strongRecOn with
  | ind n ih =>
    intro M c S i hic hc0 hc1 cv rv rd hS hm
    have nxt : c ≤ 511 → ∀ (M' : jm) (S' : Int), S ≤ S' → S' ≤ S + 1000 → CV M' (1000000 * c + 1000000) S' → RV M' (2689623 * c + 2689623) S' → RDA M' M' → jr A 364 xm_law 1328 [(3, .int (Int32.ofInt (i))), (2, .ref (598)), (1, .ref (0)), (0, .ref (1000000))] [] M' (fun rv _ => rv = some (.int (Int32.ofInt 1))) := by
      intro hc M' S' h1 h2 cv' rv' rd'
      refine jr.iinc rfl rfl (by decide) rfl ?_
      refine jr.goto rfl rfl ?_
      exact ih (n - 1) (by omega) M' (c + 1) S' (i + 6) (by omega) (by omega) (by omega) (by rw [show 1000000 * (c + 1) = 1000000 * c + 1000000 by omega]; exact cv') (by rw [show 2689623 * (c + 1) = 2689623 * c + 2689623 by omega]; exact rv') rd' (by omega) (by omega)
    refine jr.iload_n rfl rfl ?_
    refine jr.aload_n rfl rfl ?_
    refine jr.alens (x := (N : Int)) rfl (by decide) hA0 (Int32.ofInt_eq_ofNat).symm ?_
    refine jr.bipush rfl (by decide) ?_
    refine jr.isub rfl ?_
    refine jr.icmp_gt rfl rfl (by omega) (by omega) (fun h24 => ?_) (fun h24 => ?_)
    · refine jr.iconst rfl ?_
      exact jr.ireturn rfl rfl rfl rfl
    · refine jr.aload_n rfl rfl ?_
      refine jr.iload_n rfl rfl ?_
      obtain ⟨v1, e1⟩ : ∃ z_, (xs (i).toNat).toInt = z_ := ⟨_, rfl⟩
      have b1 : -2147483648 ≤ v1 ∧ v1 ≤ 2147483647 := by rw [← e1]; exact jb_any _
      refine jr.ials (i := i) v1 rfl (by decide) hA0 (by omega) (by omega) (by omega) (by rw [← e1]; exact (Int32.ofInt_toInt _).symm) ?_
      refine jr.bipush rfl (by decide) ?_
      refine jr.iand rfl ?_
      have b2 : 0 ≤ j_and v1 63 ∧ j_and v1 63 ≤ 63 := j_and_le (by decide)
      generalize j_and v1 63 = v2 at b2 ⊢
      rcases (show v2 = 0 ∨ v2 = 1 ∨ v2 = 2 ∨ v2 = 3 ∨ v2 = 4 ∨ v2 = 5 ∨ v2 = 6 ∨ v2 = 7 ∨ v2 = 8 ∨ v2 = 9 ∨ v2 = 10 ∨ v2 = 11 ∨ v2 = 12 ∨ v2 = 13 ∨ v2 = 14 ∨ v2 = 15 ∨ v2 = 16 ∨ v2 = 17 ∨ v2 = 18 ∨ v2 = 19 ∨ v2 = 20 ∨ v2 = 21 ∨ v2 = 22 ∨ v2 = 23 ∨ v2 = 24 ∨ v2 = 25 ∨ v2 = 26 ∨ v2 = 27 ∨ v2 = 28 ∨ v2 = 29 ∨ v2 = 30 ∨ v2 = 31 ∨ v2 = 32 ∨ v2 = 33 ∨ v2 = 34 ∨ v2 = 35 ∨ v2 = 36 ∨ v2 = 37 ∨ v2 = 38 ∨ v2 = 39 ∨ 39 < v2 by omega) with h33 | h33 | h33 | h33 | h33 | h33 | h33 | h33 | h33 | h33 | h33 | h33 | h33 | h33 | h33 | h33 | h33 | h33 | h33 | h33 | h33 | h33 | h33 | h33 | h33 | h33 | h33 | h33 | h33 | h33 | h33 | h33 | h33 | h33 | h33 | h33 | h33 | h33 | h33 | h33 | h33
      · refine jr.tsw_k 0 rfl h33 rfl ?_
        exact lop_0 hA0 (by omega) cv rv rd (by omega) (by omega) (by omega) (by omega) (nxt (by omega))
      · refine jr.tsw_k 1 rfl h33 rfl ?_
        exact lop_1 hA0 (by omega) cv rv rd (by omega) (by omega) (by omega) (by omega) (nxt (by omega))
      · refine jr.tsw_k 2 rfl h33 rfl ?_
        exact lop_2 hA0 (by omega) cv rv rd (by omega) (by omega) (by omega) (by omega) (nxt (by omega))
      · refine jr.tsw_k 3 rfl h33 rfl ?_
        exact lop_3 hA0 (by omega) cv rv rd (by omega) (by omega) (by omega) (by omega) (nxt (by omega))
      · refine jr.tsw_k 4 rfl h33 rfl ?_
        exact lop_4 hA0 (by omega) cv rv rd (by omega) (by omega) (by omega) (by omega) (nxt (by omega))
      · refine jr.tsw_k 5 rfl h33 rfl ?_
        exact lop_5 hA0 (by omega) cv rv rd (by omega) (by omega) (by omega) (by omega) (nxt (by omega))
      · refine jr.tsw_k 6 rfl h33 rfl ?_
        exact lop_6 hA0 (by omega) cv rv rd (by omega) (by omega) (by omega) (by omega) (nxt (by omega))
      · refine jr.tsw_k 7 rfl h33 rfl ?_
        exact lop_7 hA0 (by omega) cv rv rd (by omega) (by omega) (by omega) (by omega) (nxt (by omega))
      · refine jr.tsw_k 8 rfl h33 rfl ?_
        exact lop_8 hA0 (by omega) cv rv rd (by omega) (by omega) (by omega) (by omega) (nxt (by omega))
      · refine jr.tsw_k 9 rfl h33 rfl ?_
        exact lop_9 hA0 (by omega) cv rv rd (by omega) (by omega) (by omega) (by omega) (nxt (by omega))
      · refine jr.tsw_k 10 rfl h33 rfl ?_
        exact lop_10 hA0 (by omega) cv rv rd (by omega) (by omega) (by omega) (by omega) (nxt (by omega))
      · refine jr.tsw_k 11 rfl h33 rfl ?_
        exact lop_11 hA0 (by omega) cv rv rd (by omega) (by omega) (by omega) (by omega) (nxt (by omega))
      · refine jr.tsw_k 12 rfl h33 rfl ?_
        exact lop_12 hA0 (by omega) cv rv rd (by omega) (by omega) (by omega) (by omega) (nxt (by omega))
      · refine jr.tsw_k 13 rfl h33 rfl ?_
        exact lop_13 hA0 (by omega) cv rv rd (by omega) (by omega) (by omega) (by omega) (nxt (by omega))
      · refine jr.tsw_k 14 rfl h33 rfl ?_
        exact lop_14 hA0 (by omega) cv rv rd (by omega) (by omega) (by omega) (by omega) (nxt (by omega))
      · refine jr.tsw_k 15 rfl h33 rfl ?_
        exact lop_15 hA0 (by omega) cv rv rd (by omega) (by omega) (by omega) (by omega) (nxt (by omega))
      · refine jr.tsw_k 16 rfl h33 rfl ?_
        exact lop_16 hA0 (by omega) cv rv rd (by omega) (by omega) (by omega) (by omega) (nxt (by omega))
      · refine jr.tsw_k 17 rfl h33 rfl ?_
        exact lop_17 hA0 (by omega) cv rv rd (by omega) (by omega) (by omega) (by omega) (nxt (by omega))
      · refine jr.tsw_k 18 rfl h33 rfl ?_
        exact lop_18 hA0 (by omega) cv rv rd (by omega) (by omega) (by omega) (by omega) (nxt (by omega))
      · refine jr.tsw_k 19 rfl h33 rfl ?_
        exact lop_19 hA0 (by omega) cv rv rd (by omega) (by omega) (by omega) (by omega) (nxt (by omega))
      · refine jr.tsw_k 20 rfl h33 rfl ?_
        exact lop_20 hA0 (by omega) cv rv rd (by omega) (by omega) (by omega) (by omega) (nxt (by omega))
      · refine jr.tsw_k 21 rfl h33 rfl ?_
        exact lop_21 hA0 (by omega) cv rv rd (by omega) (by omega) (by omega) (by omega) (nxt (by omega))
      · refine jr.tsw_k 22 rfl h33 rfl ?_
        exact lop_22 hA0 (by omega) cv rv rd (by omega) (by omega) (by omega) (by omega) (nxt (by omega))
      · refine jr.tsw_k 23 rfl h33 rfl ?_
        exact lop_23 hA0 (by omega) cv rv rd (by omega) (by omega) (by omega) (by omega) (nxt (by omega))
      · refine jr.tsw_k 24 rfl h33 rfl ?_
        exact lop_24 hA0 (by omega) cv rv rd (by omega) (by omega) (by omega) (by omega) (nxt (by omega))
      · refine jr.tsw_k 25 rfl h33 rfl ?_
        exact lop_25 hA0 (by omega) cv rv rd (by omega) (by omega) (by omega) (by omega) (nxt (by omega))
      · refine jr.tsw_k 26 rfl h33 rfl ?_
        exact lop_26 hA0 (by omega) cv rv rd (by omega) (by omega) (by omega) (by omega) (nxt (by omega))
      · refine jr.tsw_k 27 rfl h33 rfl ?_
        exact lop_27 hA0 (by omega) cv rv rd (by omega) (by omega) (by omega) (by omega) (nxt (by omega))
      · refine jr.tsw_k 28 rfl h33 rfl ?_
        exact lop_28 hA0 (by omega) cv rv rd (by omega) (by omega) (by omega) (by omega) (nxt (by omega))
      · refine jr.tsw_k 29 rfl h33 rfl ?_
        exact lop_29 hA0 (by omega) cv rv rd (by omega) (by omega) (by omega) (by omega) (nxt (by omega))
      · refine jr.tsw_k 30 rfl h33 rfl ?_
        exact lop_30 hA0 (by omega) cv rv rd (by omega) (by omega) (by omega) (by omega) (nxt (by omega))
      · refine jr.tsw_k 31 rfl h33 rfl ?_
        exact lop_31 hA0 (by omega) cv rv rd (by omega) (by omega) (by omega) (by omega) (nxt (by omega))
      · refine jr.tsw_k 32 rfl h33 rfl ?_
        exact lop_32 hA0 (by omega) cv rv rd (by omega) (by omega) (by omega) (by omega) (nxt (by omega))
      · refine jr.tsw_k 33 rfl h33 rfl ?_
        exact lop_33 hA0 (by omega) cv rv rd (by omega) (by omega) (by omega) (by omega) (nxt (by omega))
      · refine jr.tsw_k 34 rfl h33 rfl ?_
        exact lop_34 hA0 (by omega) cv rv rd (by omega) (by omega) (by omega) (by omega) (nxt (by omega))
      · refine jr.tsw_k 35 rfl h33 rfl ?_
        exact lop_35 hA0 (by omega) cv rv rd (by omega) (by omega) (by omega) (by omega) (nxt (by omega))
      · refine jr.tsw_k 36 rfl h33 rfl ?_
        exact lop_36 hA0 (by omega) cv rv rd (by omega) (by omega) (by omega) (by omega) (nxt (by omega))
      · refine jr.tsw_k 37 rfl h33 rfl ?_
        exact lop_37 hA0 (by omega) cv rv rd (by omega) (by omega) (by omega) (by omega) (nxt (by omega))
      · refine jr.tsw_k 38 rfl h33 rfl ?_
        exact lop_38 hA0 (by omega) cv rv rd (by omega) (by omega) (by omega) (by omega) (nxt (by omega))
      · refine jr.tsw_k 39 rfl h33 rfl ?_
        exact lop_39 hA0 (by omega) cv rv rd (by omega) (by omega) (by omega) (by omega) (nxt (by omega))
      · refine jr.tsw_d rfl (by omega) (Or.inr (by omega)) rfl ?_
        exact (nxt (by omega)) _ _ (Int.le_refl _) (by omega) (cv.le (by omega)) (rv.le (by omega)) rd
theorem lall {A : Nat → Option (Nat × (Nat → Int32))} [HA A] {N : Nat} {xs : Nat → Int32} (hA0 : A 0 = some (N, xs)) (hN : N ≤ 3072) : jr A 364 xm_law 16 xls0 [] M1 (fun rv _ => rv = some (.int (Int32.ofInt 1))) := by
  refine jr.iconst rfl ?_
  refine jr.istore_n rfl (by decide) rfl ?_
  exact lloop hA0 hN 512 M1 0 0 0 rfl (by decide) (by decide) M1_CV M1_RV M1_RD (by decide) (by decide)
end
