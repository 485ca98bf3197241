section
section ST
variable {A : Nat → Option (Nat × (Nat → Int32))} {D : Nat} {m : ix_M} {pc : Nat} {ls : ix_L} {st : List Value} {M : jm} {Q : Option Value → jm → Prop}
theorem ix_cal_8 {f : ix_F} {oc idx mid na a b : Nat} {st rest : List Value} {rv : Option Value} {hp hp' : ix_H} (h1 : ix_tI (xT A) oc idx = some (8, mid, na)) (h2 : st.drop na = .ref a :: rest) (h3 : ix_cno (xT A) a = some b) (h5 : ix_cats rest ≤ 8 ∧ na ≤ st.length) (hf : f mid (.ref a :: (st.take na).reverse) hp = some (rv, hp')) : ix_cal (xT A) f oc (.invokevirtual idx) st hp = some (rv.toList ++ rest, hp') := by
  unfold ix_cal
  simp [h1, h2, h3, h5, hf]
theorem jr_v8 {idx mid na a : Nat} {rest : List Value} (hi : m.2.2.2.2.2.2 pc = some (.invokevirtual idx)) (h1 : ix_tI (xT A) m.1 idx = some (8, mid, na)) (h2 : st.drop na = .ref a :: rest) (h : sK a = true) (h5 : ix_cats rest ≤ 8 ∧ na ≤ st.length) {av : List Value} (hav : .ref a :: (st.take na).reverse = av) (k : jc A D mid av M (fun rv M1 => jr A D m (pc + 3) ls (rv.toList ++ rest) M1 Q)) : jr A D m pc ls st M Q :=
  jr_cal (Or.inl ⟨_, rfl⟩) hi (fun f rv M1 hf => ix_cal_8 h1 h2 (sK_o A h) h5 (by rw [hav]; exact hf)) k
end ST
theorem j_c_ex0 : ∀ n : Nat, n < 256 → j_c (n : Int) = n := by decide +kernel
theorem j_c_ex {x : Int} (h : 0 ≤ x ∧ x ≤ 255) : j_c x = x := by
  have q := j_c_ex0 x.toNat (by omega)
  rw [Int.toNat_of_nonneg h.1] at q
  exact q
theorem j_cr0 : ∀ n : Nat, n < 256 → narrow .char (.int (Int32.ofInt (n : Int))) = .int (Int32.ofInt (n : Int)) ∧ fits .char (.int (Int32.ofInt (n : Int))) = true := by decide +kernel
theorem j_cr {x : Int} (h : 0 ≤ x ∧ x ≤ 255) : narrow .char (.int (Int32.ofInt x)) = .int (Int32.ofInt x) := by
  have q := (j_cr0 x.toNat (by omega)).1
  rw [Int.toNat_of_nonneg h.1] at q
  exact q
theorem j_fc {x : Int} (h : 0 ≤ x ∧ x ≤ 255) : fits .char (.int (Int32.ofInt x)) = true := by
  have q := (j_cr0 x.toNat (by omega)).2
  rw [Int.toNat_of_nonneg h.1] at q
  exact q
end
section
/-! ===== the class's methods: small ones ===== -/
theorem c_Packet_isThere {A : Nat → Option (Nat × (Nat → Int32))} {Q : Option Value → jm → Prop} {M : jm} (hC_M : CI M) {t : Nat} (k_t : kd t = 33) (q : ∀ (r : Int), 0 ≤ r ∧ r ≤ 1 → ((r = 0 ∧ M t 1 = -1) ∨ (r = 1 ∧ M t 1 ≠ -1)) → Q (some (.int (Int32.ofInt r))) M) : jc A 1 190 [.ref (t)] M Q := by
  refine jc_of (m := xm_190) rfl (Nat.le_of_ble_eq_true rfl) rfl ?_
  refine jr.aload_n rfl rfl ?_
  obtain ⟨v1, e1⟩ : ∃ z_, M t 1 = z_ := ⟨_, rfl⟩
  have b1 : (-1) ≤ v1 ∧ v1 ≤ 400 := by rw [← e1]; exact (CI.r hC_M k_t (by decide) 1)
  refine jr.getf (i := 1) (x := v1) (v := .int (Int32.ofInt (v1))) rfl rfl (Nat.lt_trans (kx_33 k_t).1 (by decide)) (kx_33 k_t).2 (by decide) rfl rfl e1 rfl ?_
  refine jr.iconst rfl ?_
  refine jr.icmp_eq rfl rfl (by omega) (by omega) (fun h5 => ?_) (fun h5 => ?_)
  · refine jr.iconst rfl ?_
    exact jr.ireturn rfl rfl rfl (q _ (by omega) (by have hq0 : M t 1 = v1 := e1; omega))
  · have sx5 : (0 : Int) ≤ v1 := by omega
    clear h5
    refine jr.iconst rfl ?_
    refine jr.goto rfl rfl ?_
    exact jr.ireturn rfl rfl rfl (q _ (by omega) (by have hq0 : M t 1 = v1 := e1; omega))
end
