section
theorem c_PacketWall_addedTwos_pw_L5 {A : Nat → Option (Nat × (Nat → Int32))} {Q : Option Value → jm → Prop} {f : Int → Int} {M : jm} (hC_M : CI M) {x : Nat} (k_x : kd x = 34) {y : Int} {z : Int} (q : ∀ (r : Int), 0 ≤ r ∧ r ≤ 30000000 → (r = sb f y (z - y).toNat) → Q (some (.long (Int64.ofInt r))) M) : ∀ (nM : Nat) (n : Int) (i : Int), 0 ≤ y ∧ y ≤ 400 → 0 ≤ z ∧ z ≤ 400 → 0 ≤ n ∧ n ≤ 26300000 → 0 ≤ i ∧ i ≤ 402 → ((i ≤ z ∧ n = sb f y (i - y).toNat ∧ (i - y) % 2 = 0) ∨ (i = z + 1 ∧ n = sb f y (z - y).toNat)) → (BY8 M x f) → (y ≤ i ∧ y ≤ z ∧ n ≤ 65535 * (i - y)) → z - i ≤ nM → jr A 1 xm_54 5 [(1, .int (Int32.ofInt (y))), (2, .int (Int32.ofInt (z))), (3, .long (Int64.ofInt (n))), (5, .int (Int32.ofInt (i))), (0, .ref (x))] [] M Q := by
  intro nM
  induction nM using Nat.strongRecOn with
  | ind nM ih =>
    intro n i h_y h_z h_n h_i hy0 hy1 hy2 hm
    refine jr.iload rfl rfl ?_
    refine jr.iload_n rfl rfl ?_
    refine jr.icmp_ge rfl rfl (by omega) (by omega) (fun h8 => ?_) (fun h8 => ?_)
    · refine jr.lload_n rfl rfl ?_
      exact jr.lreturn rfl rfl (q _ (by omega) (by rcases hy0 with ⟨h1, h2, h3⟩ | ⟨h1, h2⟩; rw [h2, show i = z from by omega]; exact h2))
    · refine jr.lload_n rfl rfl ?_
      refine jr.iload rfl rfl ?_
      refine jr.iconst rfl ?_
      refine jr.iadd rfl ?_
      refine jr.iload_n rfl rfl ?_
      refine jr.icmp_ge rfl rfl (by omega) (by omega) (fun h17 => ?_) (fun h17 => ?_)
      · refine jr.aload_n rfl rfl ?_
        refine jr.iload rfl rfl ?_
        refine jr.iconst rfl ?_
        refine jr_s rfl rfl (Or.inl rfl) ⟨Nat.le_of_ble_eq_true rfl, Nat.le_of_ble_eq_true rfl⟩ rfl rfl (jc.deep (c_PacketWall_numberAt_pw hC_M k_x (by omega) (by omega) (by omega) hy1 (fun r1 z1 w1_0 => ?_)) (by decide))
        have hv1 : r1 = f i := (by have hq := w1_0; rw [show (1 : Int).toNat = 1 from rfl, nbs_1, jl_w_id (by have h1 := hy1 i (by omega) (by omega); omega)] at hq; exact hq)
        have hb1 := hy1 i (by omega) (by omega)
        refine jr.bipush rfl (by decide) ?_
        refine jr.lshl rfl ?_
        have b2 : jl_shl r1 8 = r1 * 256 := jl_shl_8x (by omega)
        generalize jl_shl r1 8 = v2 at b2 ⊢
        refine jr.ladd rfl ?_
        refine jr.lstore_n (ls' := [_, _, _, _, _]) rfl (by decide) rfl ?_
        refine jr.iinc (ls' := [_, _, _, _, _]) rfl rfl (by decide) rfl ?_
        refine jr.goto rfl rfl ?_
        refine jr.pick (ls := [_, _, _, _, _]) [2, 3, 1, 0, 4] rfl rfl ?_
        exact ih (nM - 1) (by omega) (n + v2) (i + 2) (by omega) (by omega) (by omega) (by omega) (by rcases hy0 with ⟨h1, h2, h3⟩ | ⟨h1, h2⟩; exact Or.inr ⟨by omega, by rw [show z = i + 1 from by omega, sb_s (by omega), if_pos (by omega), ← h2]; omega⟩; omega) hy1 (by omega) (by omega)
      · refine jr.aload_n rfl rfl ?_
        refine jr.iload rfl rfl ?_
        refine jr.iconst rfl ?_
        refine jr_s rfl rfl (Or.inl rfl) ⟨Nat.le_of_ble_eq_true rfl, Nat.le_of_ble_eq_true rfl⟩ rfl rfl (jc.deep (c_PacketWall_numberAt_pw hC_M k_x (by omega) (by omega) (by omega) hy1 (fun r3 z3 w3_0 => ?_)) (by decide))
        have hv3 : r3 = f i * 256 + f (i + 1) := (by have hq := w3_0; rw [show (2 : Int).toNat = 2 from rfl, nbs_2, jl_w_id (by have h1 := hy1 i (by omega) (by omega); have h2 := hy1 (i + 1) (by omega) (by omega); omega)] at hq; exact hq)
        have hb1 := hy1 i (by omega) (by omega)
        have hb2 := hy1 (i + 1) (by omega) (by omega)
        refine jr.goto rfl rfl ?_
        refine jr.ladd rfl ?_
        refine jr.lstore_n (ls' := [_, _, _, _, _]) rfl (by decide) rfl ?_
        refine jr.iinc (ls' := [_, _, _, _, _]) rfl rfl (by decide) rfl ?_
        refine jr.goto rfl rfl ?_
        refine jr.pick (ls := [_, _, _, _, _]) [2, 3, 1, 0, 4] rfl rfl ?_
        exact ih (nM - 1) (by omega) (n + r3) (i + 2) (by omega) (by omega) (by omega) (by omega) (by rcases hy0 with ⟨h1, h2, h3⟩ | ⟨h1, h2⟩; exact Or.inl ⟨by omega, by rw [show i + 2 = (i + 1) + 1 from by omega, sb_s (i := i + 1) (by omega), sb_s (by omega), if_pos (by omega), if_neg (by omega), ← h2]; omega, by omega⟩; omega) hy1 (by omega) (by omega)
theorem c_PacketWall_addedTwos_pw {A : Nat → Option (Nat × (Nat → Int32))} {Q : Option Value → jm → Prop} {f : Int → Int} {M : jm} (hC_M : CI M) {x : Nat} (k_x : kd x = 34) {y : Int} (h_y : 0 ≤ y ∧ y ≤ 400) {z : Int} (h_z : 0 ≤ z ∧ z ≤ 400) (p0 : y ≤ z) (p1 : BY8 M x f) (q : ∀ (r : Int), 0 ≤ r ∧ r ≤ 30000000 → (r = sb f y (z - y).toNat) → Q (some (.long (Int64.ofInt r))) M) : jc A 2 54 [.ref (x), .int (Int32.ofInt (y)), .int (Int32.ofInt (z))] M Q := by
  refine jc_of (m := xm_54) rfl (Nat.le_of_ble_eq_true rfl) rfl ?_
  refine jr.lconst (x := 0) rfl (by decide) ?_
  refine jr.lstore_n (ls' := [_, _, _, _]) rfl (by decide) rfl ?_
  refine jr.iload_n rfl rfl ?_
  refine jr.istore (ls' := [_, _, _, _, _]) rfl (by decide) rfl ?_
  refine jr.pick (ls := [_, _, _, _, _]) [3, 4, 1, 0, 2] rfl rfl ?_
  exact c_PacketWall_addedTwos_pw_L5 hC_M k_x q 400 0 y (by omega) (by omega) (by omega) (by omega) (Or.inl ⟨by omega, (sb_0 _ _).symm, by omega⟩) p1 (by omega) (by omega)
theorem c_PacketWall_foldedSum_x_L5 {A : Nat → Option (Nat × (Nat → Int32))} {Q : Option Value → jm → Prop} {M : jm} (hC_M : CI M) {x : Int} (q : ∀ (r : Int), 0 ≤ r ∧ r ≤ 65535 → (r = tn x) → Q (some (.int (Int32.ofInt r))) M) : ∀ (nM : Nat) (n : Int) (i : Int), 0 ≤ n ∧ n ≤ 4294967295 → 0 ≤ i ∧ i ≤ 8 → (fin n = fin x) → ((i = 0) ∨ (i = 1 ∧ n ≤ 131070) ∨ (2 ≤ i ∧ n ≤ 65535)) → 8 - i ≤ nM → jr A 0 xm_55 5 [(2, .long (Int64.ofInt (n))), (4, .int (Int32.ofInt (i)))] [] M Q := by
  intro nM
  induction nM using Nat.strongRecOn with
  | ind nM ih =>
    intro n i h_n h_i hy0 hy1 hm
    refine jr.iload rfl rfl ?_
    refine jr.bipush rfl (by decide) ?_
    refine jr.icmp_ge rfl rfl (by omega) (by omega) (fun h9 => ?_) (fun h9 => ?_)
    · refine jr.lload_n rfl rfl ?_
      refine jr.ldc2 (x := (-1)) rfl rfl (by decide) ?_
      refine jr.lxor rfl ?_
      have b1 : jl_xor n (-1) = -n - 1 := jl_xor_n _ (by omega)
      generalize jl_xor n (-1) = v1 at b1 ⊢
      refine jr.l2i rfl ?_
      refine jr.ldcw (x := 65535) rfl rfl (by decide) ?_
      refine jr.iand rfl ?_
      have b2 : j_and v1 65535 = v1 % 65536 := j_and_m 16 (by decide) _
      generalize j_and v1 65535 = v2 at b2 ⊢
      exact jr.ireturn rfl rfl rfl (q _ (by omega) (by unfold tn; rw [← hy0, fin_e (by omega)]; omega))
    · refine jr.lload_n rfl rfl ?_
      refine jr.ldc2 (x := 65535) rfl rfl (by decide) ?_
      refine jr.lcmp_le rfl rfl rfl (by omega) (by omega) (fun h16 => ?_) (fun h16 => ?_)
      · refine jr.lload_n rfl rfl ?_
        refine jr.ldc2 (x := (-1)) rfl rfl (by decide) ?_
        refine jr.lxor rfl ?_
        have b3 : jl_xor n (-1) = -n - 1 := jl_xor_n _ (by omega)
        generalize jl_xor n (-1) = v3 at b3 ⊢
        refine jr.l2i rfl ?_
        refine jr.ldcw (x := 65535) rfl rfl (by decide) ?_
        refine jr.iand rfl ?_
        have b4 : j_and v3 65535 = v3 % 65536 := j_and_m 16 (by decide) _
        generalize j_and v3 65535 = v4 at b4 ⊢
        exact jr.ireturn rfl rfl rfl (q _ (by omega) (by unfold tn; rw [← hy0, fin_e (by omega)]; omega))
      · refine jr.lload_n rfl rfl ?_
        refine jr.ldc2 (x := 65535) rfl rfl (by decide) ?_
        refine jr.land rfl ?_
        have b5 : jl_and n 65535 = n % 65536 := jl_and_mask 16 (by decide) (by omega) (by omega)
        generalize jl_and n 65535 = v5 at b5 ⊢
        refine jr.lload_n rfl rfl ?_
        refine jr.bipush rfl (by decide) ?_
        refine jr.lushr rfl ?_
        have b6 : jl_ushr n 16 = n / 65536 ∧ 0 ≤ jl_ushr n 16 ∧ jl_ushr n 16 ≤ 65535 := ⟨jl_ushr_16 (by omega), by rw [jl_ushr_16 (by omega)]; omega⟩
        generalize jl_ushr n 16 = v6 at b6 ⊢
        refine jr.ladd rfl ?_
        refine jr.lstore_n (ls' := [_, _]) rfl (by decide) rfl ?_
        refine jr.iinc (ls' := [_, _]) rfl rfl (by decide) rfl ?_
        refine jr.goto rfl rfl ?_
        refine jr.pick (ls := [_, _]) [1, 0] rfl rfl ?_
        exact ih (nM - 1) (by omega) (v5 + v6) (i + 1) (by omega) (by omega) (by have hq := fin_s (v := n) (by omega) (by omega); rw [← hy0, ← hq.1]; unfold fo; congr 1; omega) (by have hq := fin_s (v := n) (by omega) (by omega); unfold fo at hq; omega) (by omega)
theorem c_PacketWall_foldedSum_x {A : Nat → Option (Nat × (Nat → Int32))} {Q : Option Value → jm → Prop} {M : jm} (hC_M : CI M) {x : Int} (h_x : 0 ≤ x ∧ x ≤ 4294967295) (q : ∀ (r : Int), 0 ≤ r ∧ r ≤ 65535 → (r = tn x) → Q (some (.int (Int32.ofInt r))) M) : jc A 1 55 [.long (Int64.ofInt (x))] M Q := by
  refine jc_of (m := xm_55) rfl (Nat.le_of_ble_eq_true rfl) rfl ?_
  refine jr.lload_n rfl rfl ?_
  refine jr.lstore_n (ls' := [_, _]) rfl (by decide) rfl ?_
  refine jr.iconst rfl ?_
  refine jr.istore (ls' := [_, _, _]) rfl (by decide) rfl ?_
  refine jr.pick (ls := [_, _]) [1, 0] rfl rfl ?_
  exact c_PacketWall_foldedSum_x_L5 hC_M  q 8 x 0 (by omega) (by omega) rfl (by omega) (by omega)
end
section
/-! ===== sums of headers ===== -/
/-- the headers of f stand in t, the bytes are f1 by now -/
noncomputable def HS2 (M : jm) (t : Nat) (f f1 : Int → Int) (N : Int) : Prop := BY8 M ((M t 7).toNat + 1) f1 ∧ M (M t 7).toNat 1 = N ∧ (0 ≤ N ∧ N ≤ 400) ∧ HQ M t f N ∧ ∀ i : Int, 0 ≤ i → i < 400 → 0 ≤ f i ∧ f i ≤ 255
theorem HS.two {M : jm} {t : Nat} {f : Int → Int} {N : Int} (h : HS M t f N) : HS2 M t f f N := ⟨h.1, h.2.1, h.2.2.1, h.2.2.2, fun i h0 h1 => (h.1 i h0 h1).2⟩
/-- where the sum of a header of kind k lies -/
noncomputable def sof (k : Int) : Int := if k = 2 then 10 else if k = 7 then 2 else if k = 8 then 16 else 6
/-- the addresses that count for a sum -/
noncomputable def aD (f f1 : Int → Int) (N n : Int) : Int := sb f1 (hY f N n + (if hX f N n = 2 then 12 else 8)) (if hX f N n = 2 then 8 else 16)
noncomputable def dsu (k v : Int) : Int := if k = 9 ∧ v = 0 then 65535 else v
noncomputable def dS0 (f f1 : Int → Int) (N x : Int) : Int := sb (fz f1 (hY f N x + sof (hX f N x))) (hY f N x) ((if hX f N x = 2 then hY f N x + hZ f N x else N) - hY f N x).toNat
end
