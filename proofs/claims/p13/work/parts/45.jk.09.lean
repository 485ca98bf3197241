section
theorem kb_7 : ∀ a, a < 598 → kd a = 7 → a < 598 ∧ xsh a = (0, 2) := fun a ha h => of_decide_eq_true (kq_7 a ha h)
theorem kx_7 {a : Nat} (h : kd a = 7) : a < 598 ∧ xsh a = (0, 2) := kb_7 a (kd_lt (by rw [h]; decide)) h
theorem kb_8 : ∀ a, a < 598 → kd a = 8 → a < 598 ∧ xsh a = (0, 2) := fun a ha h => of_decide_eq_true (kq_8 a ha h)
theorem kx_8 {a : Nat} (h : kd a = 8) : a < 598 ∧ xsh a = (0, 2) := kb_8 a (kd_lt (by rw [h]; decide)) h
theorem kb_10 : ∀ a, a < 598 → kd a = 10 → a < 598 ∧ xsh a = (1, 4) := fun a ha h => of_decide_eq_true (kq_10 a ha h)
theorem kx_10 {a : Nat} (h : kd a = 10) : a < 598 ∧ xsh a = (1, 4) := kb_10 a (kd_lt (by rw [h]; decide)) h
theorem kb_11 : ∀ a, a < 598 → kd a = 11 → a < 598 ∧ xsh a = (0, 4) := fun a ha h => of_decide_eq_true (kq_11 a ha h)
theorem kx_11 {a : Nat} (h : kd a = 11) : a < 598 ∧ xsh a = (0, 4) := kb_11 a (kd_lt (by rw [h]; decide)) h
theorem kb_12 : ∀ a, a < 598 → kd a = 12 → a < 598 ∧ xsh a = (0, 4) := fun a ha h => of_decide_eq_true (kq_12 a ha h)
theorem kx_12 {a : Nat} (h : kd a = 12) : a < 598 ∧ xsh a = (0, 4) := kb_12 a (kd_lt (by rw [h]; decide)) h
theorem kb_13 : ∀ a, a < 598 → kd a = 13 → a < 598 ∧ xsh a = (5, 24) := fun a ha h => of_decide_eq_true (kq_13 a ha h)
theorem kx_13 {a : Nat} (h : kd a = 13) : a < 598 ∧ xsh a = (5, 24) := kb_13 a (kd_lt (by rw [h]; decide)) h
theorem ke_13 : ∀ a, a < 598 → kd a = 13 → ∀ i, i < 24 → xel a i = some ((xel a i).getD 0) ∧ kd ((xel a i).getD 0) = 1 := by decide +kernel
theorem kxe_13 {a : Nat} (h : kd a = 13) {i : Int} (h0 : 0 ≤ i) (h1 : i < 24) : xel a i.toNat = some (xe a i) ∧ kd (xe a i) = 1 := ke_13 a (kd_lt (by rw [h]; decide)) h i.toNat (by omega)
theorem kb_16 : ∀ a, a < 598 → kd a = 16 → a < 598 ∧ xsh a = (0, 400) := fun a ha h => of_decide_eq_true (kq_16 a ha h)
theorem kx_16 {a : Nat} (h : kd a = 16) : a < 598 ∧ xsh a = (0, 400) := kb_16 a (kd_lt (by rw [h]; decide)) h
theorem kb_17 : ∀ a, a < 598 → kd a = 17 → a < 598 ∧ xsh a = (0, 360) := fun a ha h => of_decide_eq_true (kq_17 a ha h)
theorem kx_17 {a : Nat} (h : kd a = 17) : a < 598 ∧ xsh a = (0, 360) := kb_17 a (kd_lt (by rw [h]; decide)) h
theorem kb_19 : ∀ a, a < 598 → kd a = 19 → a < 598 ∧ xsh a = (0, 12) := fun a ha h => of_decide_eq_true (kq_19 a ha h)
theorem kx_19 {a : Nat} (h : kd a = 19) : a < 598 ∧ xsh a = (0, 12) := kb_19 a (kd_lt (by rw [h]; decide)) h
theorem kb_20 : ∀ a, a < 598 → kd a = 20 → a < 598 ∧ xsh a = (0, 12) := fun a ha h => of_decide_eq_true (kq_20 a ha h)
theorem kx_20 {a : Nat} (h : kd a = 20) : a < 598 ∧ xsh a = (0, 12) := kb_20 a (kd_lt (by rw [h]; decide)) h
theorem kb_21 : ∀ a, a < 598 → kd a = 21 → a < 598 ∧ xsh a = (0, 12) := fun a ha h => of_decide_eq_true (kq_21 a ha h)
theorem kx_21 {a : Nat} (h : kd a = 21) : a < 598 ∧ xsh a = (0, 12) := kb_21 a (kd_lt (by rw [h]; decide)) h
theorem kb_23 : ∀ a, a < 598 → kd a = 23 → a < 598 ∧ xsh a = (7, 8) := fun a ha h => of_decide_eq_true (kq_23 a ha h)
theorem kx_23 {a : Nat} (h : kd a = 23) : a < 598 ∧ xsh a = (7, 8) := kb_23 a (kd_lt (by rw [h]; decide)) h
theorem ke_23 : ∀ a, a < 598 → kd a = 23 → ∀ i, i < 8 → xel a i = some ((xel a i).getD 0) ∧ kd ((xel a i).getD 0) = 14 := by decide +kernel
theorem kxe_23 {a : Nat} (h : kd a = 23) {i : Int} (h0 : 0 ≤ i) (h1 : i < 8) : xel a i.toNat = some (xe a i) ∧ kd (xe a i) = 14 := ke_23 a (kd_lt (by rw [h]; decide)) h i.toNat (by omega)
theorem kb_24 : ∀ a, a < 598 → kd a = 24 → a < 598 ∧ xsh a = (0, 50) := fun a ha h => of_decide_eq_true (kq_24 a ha h)
theorem kx_24 {a : Nat} (h : kd a = 24) : a < 598 ∧ xsh a = (0, 50) := kb_24 a (kd_lt (by rw [h]; decide)) h
theorem kb_25 : ∀ a, a < 598 → kd a = 25 → a < 598 ∧ xsh a = (6, 8) := fun a ha h => of_decide_eq_true (kq_25 a ha h)
theorem kx_25 {a : Nat} (h : kd a = 25) : a < 598 ∧ xsh a = (6, 8) := kb_25 a (kd_lt (by rw [h]; decide)) h
theorem ke_25 : ∀ a, a < 598 → kd a = 25 → ∀ i, i < 8 → xel a i = some ((xel a i).getD 0) ∧ kd ((xel a i).getD 0) = 52 := by decide +kernel
theorem kxe_25 {a : Nat} (h : kd a = 25) {i : Int} (h0 : 0 ≤ i) (h1 : i < 8) : xel a i.toNat = some (xe a i) ∧ kd (xe a i) = 52 := ke_25 a (kd_lt (by rw [h]; decide)) h i.toNat (by omega)
theorem kb_26 : ∀ a, a < 598 → kd a = 26 → a < 598 ∧ xsh a = (1, 320) := fun a ha h => of_decide_eq_true (kq_26 a ha h)
theorem kx_26 {a : Nat} (h : kd a = 26) : a < 598 ∧ xsh a = (1, 320) := kb_26 a (kd_lt (by rw [h]; decide)) h
theorem kb_28 : ∀ a, a < 598 → kd a = 28 → a < 598 ∧ xsh a = (0, 4) := fun a ha h => of_decide_eq_true (kq_28 a ha h)
theorem kx_28 {a : Nat} (h : kd a = 28) : a < 598 ∧ xsh a = (0, 4) := kb_28 a (kd_lt (by rw [h]; decide)) h
theorem kb_29 : ∀ a, a < 598 → kd a = 29 → a < 598 ∧ xsh a = (1, 8) := fun a ha h => of_decide_eq_true (kq_29 a ha h)
theorem kx_29 {a : Nat} (h : kd a = 29) : a < 598 ∧ xsh a = (1, 8) := kb_29 a (kd_lt (by rw [h]; decide)) h
theorem kb_30 : ∀ a, a < 598 → kd a = 30 → a < 598 ∧ xsh a = (1, 20) := fun a ha h => of_decide_eq_true (kq_30 a ha h)
theorem kx_30 {a : Nat} (h : kd a = 30) : a < 598 ∧ xsh a = (1, 20) := kb_30 a (kd_lt (by rw [h]; decide)) h
theorem kb_31 : ∀ a, a < 598 → kd a = 31 → a < 598 ∧ xsh a = (1, 64) := fun a ha h => of_decide_eq_true (kq_31 a ha h)
theorem kx_31 {a : Nat} (h : kd a = 31) : a < 598 ∧ xsh a = (1, 64) := kb_31 a (kd_lt (by rw [h]; decide)) h
theorem kb_32 : ∀ a, a < 598 → kd a = 32 → a < 598 ∧ xsh a = (0, 4) := fun a ha h => of_decide_eq_true (kq_32 a ha h)
theorem kx_32 {a : Nat} (h : kd a = 32) : a < 598 ∧ xsh a = (0, 4) := kb_32 a (kd_lt (by rw [h]; decide)) h
theorem kb_34 : ∀ a, a < 598 → kd a = 34 → a < 598 ∧ xsh a = (0, 400) := fun a ha h => of_decide_eq_true (kq_34 a ha h)
theorem kx_34 {a : Nat} (h : kd a = 34) : a < 598 ∧ xsh a = (0, 400) := kb_34 a (kd_lt (by rw [h]; decide)) h
theorem kb_36 : ∀ a, a < 598 → kd a = 36 → a < 598 ∧ xsh a = (0, 4) := fun a ha h => of_decide_eq_true (kq_36 a ha h)
theorem kx_36 {a : Nat} (h : kd a = 36) : a < 598 ∧ xsh a = (0, 4) := kb_36 a (kd_lt (by rw [h]; decide)) h
theorem kb_37 : ∀ a, a < 598 → kd a = 37 → a < 598 ∧ xsh a = (0, 4) := fun a ha h => of_decide_eq_true (kq_37 a ha h)
theorem kx_37 {a : Nat} (h : kd a = 37) : a < 598 ∧ xsh a = (0, 4) := kb_37 a (kd_lt (by rw [h]; decide)) h
theorem kb_38 : ∀ a, a < 598 → kd a = 38 → a < 598 ∧ xsh a = (0, 4) := fun a ha h => of_decide_eq_true (kq_38 a ha h)
theorem kx_38 {a : Nat} (h : kd a = 38) : a < 598 ∧ xsh a = (0, 4) := kb_38 a (kd_lt (by rw [h]; decide)) h
theorem kb_39 : ∀ a, a < 598 → kd a = 39 → a < 598 ∧ xsh a = (0, 4) := fun a ha h => of_decide_eq_true (kq_39 a ha h)
theorem kx_39 {a : Nat} (h : kd a = 39) : a < 598 ∧ xsh a = (0, 4) := kb_39 a (kd_lt (by rw [h]; decide)) h
theorem kb_40 : ∀ a, a < 598 → kd a = 40 → a < 598 ∧ xsh a = (4, 8) := fun a ha h => of_decide_eq_true (kq_40 a ha h)
theorem kx_40 {a : Nat} (h : kd a = 40) : a < 598 ∧ xsh a = (4, 8) := kb_40 a (kd_lt (by rw [h]; decide)) h
theorem ke_40 : ∀ a, a < 598 → kd a = 40 → ∀ i, i < 8 → xel a i = some ((xel a i).getD 0) ∧ kd ((xel a i).getD 0) = 15 := by decide +kernel
theorem kxe_40 {a : Nat} (h : kd a = 40) {i : Int} (h0 : 0 ≤ i) (h1 : i < 8) : xel a i.toNat = some (xe a i) ∧ kd (xe a i) = 15 := ke_40 a (kd_lt (by rw [h]; decide)) h i.toNat (by omega)
theorem kb_41 : ∀ a, a < 598 → kd a = 41 → a < 598 ∧ xsh a = (0, 5) := fun a ha h => of_decide_eq_true (kq_41 a ha h)
theorem kx_41 {a : Nat} (h : kd a = 41) : a < 598 ∧ xsh a = (0, 5) := kb_41 a (kd_lt (by rw [h]; decide)) h
theorem kb_42 : ∀ a, a < 598 → kd a = 42 → a < 598 ∧ xsh a = (3, 24) := fun a ha h => of_decide_eq_true (kq_42 a ha h)
theorem kx_42 {a : Nat} (h : kd a = 42) : a < 598 ∧ xsh a = (3, 24) := kb_42 a (kd_lt (by rw [h]; decide)) h
theorem ke_42 : ∀ a, a < 598 → kd a = 42 → ∀ i, i < 24 → xel a i = some ((xel a i).getD 0) ∧ kd ((xel a i).getD 0) = 33 := by decide +kernel
theorem kxe_42 {a : Nat} (h : kd a = 42) {i : Int} (h0 : 0 ≤ i) (h1 : i < 24) : xel a i.toNat = some (xe a i) ∧ kd (xe a i) = 33 := ke_42 a (kd_lt (by rw [h]; decide)) h i.toNat (by omega)
theorem kb_43 : ∀ a, a < 598 → kd a = 43 → a < 598 ∧ xsh a = (0, 1600) := fun a ha h => of_decide_eq_true (kq_43 a ha h)
theorem kx_43 {a : Nat} (h : kd a = 43) : a < 598 ∧ xsh a = (0, 1600) := kb_43 a (kd_lt (by rw [h]; decide)) h
theorem kb_45 : ∀ a, a < 598 → kd a = 45 → a < 598 ∧ xsh a = (0, 16) := fun a ha h => of_decide_eq_true (kq_45 a ha h)
theorem kx_45 {a : Nat} (h : kd a = 45) : a < 598 ∧ xsh a = (0, 16) := kb_45 a (kd_lt (by rw [h]; decide)) h
theorem kb_46 : ∀ a, a < 598 → kd a = 46 → a < 598 ∧ xsh a = (0, 0) := fun a ha h => of_decide_eq_true (kq_46 a ha h)
theorem kx_46 {a : Nat} (h : kd a = 46) : a < 598 ∧ xsh a = (0, 0) := kb_46 a (kd_lt (by rw [h]; decide)) h
theorem kb_48 : ∀ a, a < 598 → kd a = 48 → a < 598 ∧ xsh a = (0, 932) := fun a ha h => of_decide_eq_true (kq_48 a ha h)
theorem kx_48 {a : Nat} (h : kd a = 48) : a < 598 ∧ xsh a = (0, 932) := kb_48 a (kd_lt (by rw [h]; decide)) h
theorem kb_49 : ∀ a, a < 598 → kd a = 49 → a < 598 ∧ xsh a = (0, 16) := fun a ha h => of_decide_eq_true (kq_49 a ha h)
theorem kx_49 {a : Nat} (h : kd a = 49) : a < 598 ∧ xsh a = (0, 16) := kb_49 a (kd_lt (by rw [h]; decide)) h
theorem kb_50 : ∀ a, a < 598 → kd a = 50 → a < 598 ∧ xsh a = (0, 16) := fun a ha h => of_decide_eq_true (kq_50 a ha h)
theorem kx_50 {a : Nat} (h : kd a = 50) : a < 598 ∧ xsh a = (0, 16) := kb_50 a (kd_lt (by rw [h]; decide)) h
theorem kb_51 : ∀ a, a < 598 → kd a = 51 → a < 598 ∧ xsh a = (0, 932) := fun a ha h => of_decide_eq_true (kq_51 a ha h)
theorem kx_51 {a : Nat} (h : kd a = 51) : a < 598 ∧ xsh a = (0, 932) := kb_51 a (kd_lt (by rw [h]; decide)) h
theorem kb_53 : ∀ a, a < 598 → kd a = 53 → a < 598 ∧ xsh a = (1, 440) := fun a ha h => of_decide_eq_true (kq_53 a ha h)
theorem kx_53 {a : Nat} (h : kd a = 53) : a < 598 ∧ xsh a = (1, 440) := kb_53 a (kd_lt (by rw [h]; decide)) h
theorem kb_54 : ∀ a, a < 598 → kd a = 54 → a < 598 ∧ xsh a = (1, 40) := fun a ha h => of_decide_eq_true (kq_54 a ha h)
theorem kx_54 {a : Nat} (h : kd a = 54) : a < 598 ∧ xsh a = (1, 40) := kb_54 a (kd_lt (by rw [h]; decide)) h
end
