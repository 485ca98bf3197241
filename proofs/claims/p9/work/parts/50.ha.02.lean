section
theorem FR.cpy {W : List (Nat × Nat)} {T M : jm} (h : FR W T M) {a d Kd : Nat} {sp dp n : Int} (hd : kd d = Kd) (h0 : ∀ i : Int, kw W Kd i = true) : FR W T (jcpy M a sp d dp n) := fun b k hb => (jcpy_ne M (fun q => by rw [q.1, hd, h0] at hb; exact absurd hb (by decide))).trans (h b k hb)
end
section
/-! ===== texts ===== -/
noncomputable abbrev HA (A : Nat → Option (Nat × (Nat → Int32))) : Prop := Nonempty (PLift ((A 300).isSome = true))
theorem HA_h {A : Nat → Option (Nat × (Nat → Int32))} (h : HA A) : (A 300).isSome = true := by
  obtain ⟨x⟩ := h
  exact x.down
noncomputable def sK (a : Nat) : Bool := Nat.ble 1000100 a && Nat.blt a 1000116
noncomputable def bK (a : Nat) : Bool := Nat.ble 1000200 a && Nat.blt a 1000216
theorem sK_r {a : Nat} (h : sK a = true) : 1000100 ≤ a ∧ a < 1000116 := by
  unfold sK at h
  rw [Bool.and_eq_true] at h
  exact ⟨Nat.ble_eq.mp h.1, Nat.blt_eq.mp h.2⟩
theorem bK_r {a : Nat} (h : bK a = true) : 1000200 ≤ a ∧ a < 1000216 := by
  unfold bK at h
  rw [Bool.and_eq_true] at h
  exact ⟨Nat.ble_eq.mp h.1, Nat.blt_eq.mp h.2⟩
theorem sK_b {a : Nat} (h : sK a = true) : bK (a + 100) = true := by
  have := sK_r h
  unfold bK
  rw [Bool.and_eq_true]
  exact ⟨Nat.ble_eq.mpr (by omega), Nat.blt_eq.mpr (by omega)⟩
noncomputable def slb (b : Nat) : Int := ((xS_len.getD (b - 1000000 - 200) 0 : Nat) : Int)
noncomputable def sbv (b : Nat) (i : Int) : Int := ((xS_byt.getD (b - 1000000 - 200) []).getD i.toNat 0).toInt
theorem slb0 : ∀ k, k < 16 → xS_len.getD k 0 ≤ 300 ∧ Int32.ofNat (xS_len.getD k 0) = Int32.ofInt ((xS_len.getD k 0 : Nat) : Int) := by decide +kernel
theorem slb_r {b : Nat} (h : bK b = true) : 0 ≤ slb b ∧ slb b ≤ 300 := by
  have := bK_r h
  have q := (slb0 (b - 1000000 - 200) (by omega)).1
  unfold slb
  omega
theorem sbv0 : ∀ k, k < 16 → ∀ i, i < xS_len.getD k 0 → (0 : Int) ≤ ((xS_byt.getD k []).getD i 0).toInt ∧ ((xS_byt.getD k []).getD i 0).toInt ≤ 127 := by decide +kernel
theorem sbv_r {b : Nat} {i : Int} (h : bK b = true) (h0 : 0 ≤ i) (h1 : i < slb b) : 0 ≤ sbv b i ∧ sbv b i ≤ 127 := by
  have := bK_r h
  unfold slb at h1
  exact sbv0 (b - 1000000 - 200) (by omega) i.toNat (by omega)
section ST
variable {A : Nat → Option (Nat × (Nat → Int32))} {D : Nat} {m : ix_M} {pc : Nat} {ls : ix_L} {st : List Value} {M : jm} {Q : Option Value → jm → Prop}
theorem jobjn (M : jm) {a : Nat} (h : xNc ≤ a) : ix_obj (jH M) a = none := by
  unfold ix_obj
  rw [show Nat.blt a (jH M).1 = false from by
    cases hb : Nat.blt a (jH M).1 with
    | false => rfl
    | true => exact absurd (Nat.blt_eq.mp hb) (Nat.not_lt.mpr h)]
  rfl
theorem xNc_le {a : Nat} (h : 1000000 ≤ a) : xNc ≤ a := Nat.le_trans (by decide) h
theorem blt_f {a b : Nat} (h : b ≤ a) : Nat.blt a b = false := by
  cases hb : Nat.blt a b with
  | false => rfl
  | true => have := Nat.blt_eq.mp hb; omega
theorem sK_o (A : Nat → Option (Nat × (Nat → Int32))) {a : Nat} (h : sK a = true) : ix_cno (xT A) a = some (a - 1000000 + 100) := by
  have hr := sK_r h
  unfold ix_cno
  rw [blt_f (by omega), cond_false]
  obtain ⟨k, hk⟩ : ∃ k, a - 1000000 = k := ⟨_, rfl⟩
  rw [hk]
  show xT_O k = some (k + 100)
  unfold xT_O
  rw [show (Nat.ble 100 k && Nat.blt k 116) = true from by rw [Bool.and_eq_true]; exact ⟨Nat.ble_eq.mpr (by omega), Nat.blt_eq.mpr (by omega)⟩]
  rfl
theorem bK_b (A : Nat → Option (Nat × (Nat → Int32))) {b : Nat} (h : bK b = true) : ix_cnb (xT A) b = some (xS_len.getD (b - 1000000 - 200) 0, fun j => (xS_byt.getD (b - 1000000 - 200) []).getD j 0) := by
  have hr := bK_r h
  unfold ix_cnb
  rw [blt_f (by omega), cond_false]
  obtain ⟨k, hk⟩ : ∃ k, b - 1000000 = k := ⟨_, rfl⟩
  rw [hk]
  show xT_B k = some (xS_len.getD (k - 200) 0, fun j => (xS_byt.getD (k - 200) []).getD j 0)
  unfold xT_B
  rw [show (Nat.ble 200 k && Nat.blt k 216) = true from by rw [Bool.and_eq_true]; exact ⟨Nat.ble_eq.mpr (by omega), Nat.blt_eq.mpr (by omega)⟩]
  rfl
theorem xT_A9 (A : Nat → Option (Nat × (Nat → Int32))) (j : Nat) : xT_A A (j + 9) = none := rfl
theorem bK_s (A : Nat → Option (Nat × (Nat → Int32))) {b : Nat} (h : bK b = true) : ix_cns (xT A) b = none := by
  have hr := bK_r h
  unfold ix_cns
  rw [blt_f (by omega), cond_false]
  obtain ⟨k, hk⟩ : ∃ k, b - 1000000 = k + 9 := ⟨b - 1000000 - 9, by omega⟩
  rw [hk]
  exact xT_A9 A k
theorem jr.ldcs {idx a : Nat} (hi : m.2.2.2.2.2.2 pc = some (.ldc idx)) (hk : ix_tK (xT A) m.1 idx = some (.ref a)) (k : jr A D m (pc + 2) ls (.ref a :: st) M Q) : jr A D m pc ls st M Q := jr_sem hi (fun f => by simp [ix_sem, ix_ret, ix_alu, ix_loc, ix_hp, ix_len, hk]) k
theorem jr.gsv {idx a : Nat} (hi : m.2.2.2.2.2.2 pc = some (.getfield idx)) (hF : ix_tF (xT A) m.1 idx = none) (hG : ix_tG (xT A) m.1 idx = some true) (h : sK a = true) (k : jr A D m (pc + 3) ls (.ref (a + 100) :: st) M Q) : jr A D m pc ls (.ref a :: st) M Q := jr_sem hi (fun f => by
  have e := sK_o A h
  have e2 : 1000000 + (a - 1000000 + 100) = a + 100 := by have := sK_r h; omega
  simp [ix_sem, ix_ret, ix_alu, ix_loc, ix_hp, ix_len, hF, hG, e, e2]) k
theorem jr.gsc {idx a : Nat} (hi : m.2.2.2.2.2.2 pc = some (.getfield idx)) (hF : ix_tF (xT A) m.1 idx = none) (hG : ix_tG (xT A) m.1 idx = some false) (h : sK a = true) (k : jr A D m (pc + 3) ls (.int (Int32.ofInt 0) :: st) M Q) : jr A D m pc ls (.ref a :: st) M Q := jr_sem hi (fun f => by
  have e := sK_o A h
  show _ = some (Sum.inl (pc + 3, ls, Value.int 0 :: st, jH M))
  simp [ix_sem, ix_ret, ix_alu, ix_loc, ix_hp, ix_len, hF, hG, e]) k
theorem jr.blen {b : Nat} (v : Int) (hi : m.2.2.2.2.2.2 pc = some .arraylength) (h : bK b = true) (hv : slb b = v) (k : jr A D m (pc + 1) ls (.int (Int32.ofInt v) :: st) M Q) : jr A D m pc ls (.ref b :: st) M Q := jr_sem hi (fun f => by
  have hb := bK_r h
  have e1 := jarrn M (a := b) (xNc_le (by omega))
  have e2 := bK_s A h
  have e3 := bK_b A h
  have e4 : Int32.ofInt v = Int32.ofNat (xS_len.getD (b - 1000000 - 200) 0) := by rw [← hv]; exact (slb0 (b - 1000000 - 200) (by omega)).2.symm
  rw [e4]
  simp [ix_sem, ix_ret, ix_alu, ix_loc, ix_hp, ix_len, e1, e2, e3]) k
theorem jr.bald {b : Nat} {i : Int} (v : Int) (hi : m.2.2.2.2.2.2 pc = some .baload) (h : bK b = true) (h0 : 0 ≤ i) (h1 : i < slb b) (hv : sbv b i = v) (k : jr A D m (pc + 1) ls (.int (Int32.ofInt v) :: st) M Q) : jr A D m pc ls (.int (Int32.ofInt i) :: .ref b :: st) M Q := jr_sem hi (fun f => by
  have hb := bK_r h
  have e1 := jarrn M (a := b) (xNc_le (by omega))
  have e3 := bK_b A h
  have hq := slb_r h
  have hlen : xS_len.getD (b - 1000000 - 200) 0 ≤ 2000000 := by have := (slb0 (b - 1000000 - 200) (by omega)).1; omega
  obtain ⟨q1, q2⟩ := jin h0 (show i < ((xS_len.getD (b - 1000000 - 200) 0 : Nat) : Int) from h1) hlen
  have e4 : Int32.ofInt v = (xS_byt.getD (b - 1000000 - 200) []).getD i.toNat 0 := by rw [← hv]; exact Int32.ofInt_toInt _
  rw [e4]
  have hs : ix_hp (xT A) m.1 m.2.2.2.2.2.1 .baload (.int (Int32.ofInt i) :: .ref b :: st) (jH M) = some (.int ((xS_byt.getD (b - 1000000 - 200) []).getD i.toNat 0) :: st, jH M) := by
    unfold ix_hp
    simp only [e1, e3]
    rw [if_neg q1, q2]
  simp [ix_sem, ix_ret, ix_alu, ix_loc, ix_len, hs]) k
noncomputable def xfmv (A : Nat → Option (Nat × (Nat → Int32))) : Value := match A 300 with
  | none => .null
  | some q => bif Nat.beq q.1 0 then .null else .ref 1000300
theorem xfmv_or (A : Nat → Option (Nat × (Nat → Int32))) : xfmv A = .null ∨ xfmv A = .ref 1000300 := by
  unfold xfmv
  cases A 300 with
  | none => exact Or.inl rfl
  | some q =>
    show (bif Nat.beq q.1 0 then Value.null else Value.ref 1000300) = .null ∨ (bif Nat.beq q.1 0 then Value.null else Value.ref 1000300) = .ref 1000300
    cases Nat.beq q.1 0
    · exact Or.inr rfl
    · exact Or.inl rfl
theorem jr.gfm [hA : HA A] {idx : Nat} (hi : m.2.2.2.2.2.2 pc = some (.getstatic idx)) (hs : ix_tS (xT A) m.1 idx = (match A 300 with
  | none => none
  | some q => bif Nat.beq q.1 0 then some .null else some (.ref 1000300))) (k : jr A D m (pc + 3) ls (xfmv A :: st) M Q) : jr A D m pc ls st M Q := by
  refine jr.gst (v := xfmv A) hi ?_ k
  rw [hs]
  have h := HA_h hA
  unfold xfmv
  cases e : A 300 with
  | none => rw [e] at h; exact absurd h (by decide)
  | some q =>
    show (bif Nat.beq q.1 0 then some Value.null else some (Value.ref 1000300)) = some (bif Nat.beq q.1 0 then Value.null else Value.ref 1000300)
    cases Nat.beq q.1 0 <;> rfl
theorem ix_cal_8 {f : ix_F} {oc idx mid na a b : Nat} {st rest : List Value} {rv : Option Value} {hp hp' : ix_H} (h1 : ix_tI (xT A) oc idx = some (8, mid, na)) (h2 : st.drop na = .ref a :: rest) (h3 : ix_cno (xT A) a = some b) (h5 : ix_cats rest ≤ 8 ∧ na ≤ st.length) (hf : f mid (.ref a :: (st.take na).reverse) hp = some (rv, hp')) : ix_cal (xT A) f oc (.invokevirtual idx) st hp = some (rv.toList ++ rest, hp') := by
  unfold ix_cal
  simp [h1, h2, h3, h5, hf]
theorem jr_v8 {idx mid na a : Nat} {rest : List Value} (hi : m.2.2.2.2.2.2 pc = some (.invokevirtual idx)) (h1 : ix_tI (xT A) m.1 idx = some (8, mid, na)) (h2 : st.drop na = .ref a :: rest) (h : sK a = true) (h5 : ix_cats rest ≤ 8 ∧ na ≤ st.length) {av : List Value} (hav : .ref a :: (st.take na).reverse = av) (k : jc A D mid av M (fun rv M1 => jr A D m (pc + 3) ls (rv.toList ++ rest) M1 Q)) : jr A D m pc ls st M Q :=
  jr_cal (Or.inl ⟨_, rfl⟩) hi (fun f rv M1 hf => ix_cal_8 h1 h2 (sK_o A h) h5 (by rw [hav]; exact hf)) k
end ST
theorem j_c_ex0 : ∀ n : Nat, n < 256 → j_c (n : Int) = n := by decide +kernel
theorem j_c_ex {x : Int} (h : 0 ≤ x ∧ x ≤ 255) : j_c x = x := by
  have q := j_c_ex0 x.toNat (by omega)
  rw [Int.toNat_of_nonneg h.1] at q
  exact q
theorem j_cr0 : ∀ n : Nat, n < 256 → narrow .char (.int (Int32.ofInt (n : Int))) = .int (Int32.ofInt (n : Int)) ∧ fits .char (.int (Int32.ofInt (n : Int))) = true := by decide +kernel
theorem j_cr {x : Int} (h : 0 ≤ x ∧ x ≤ 255) : narrow .char (.int (Int32.ofInt x)) = .int (Int32.ofInt x) := by
  have q := (j_cr0 x.toNat (by omega)).1
  rw [Int.toNat_of_nonneg h.1] at q
  exact q
theorem j_fc {x : Int} (h : 0 ≤ x ∧ x ≤ 255) : fits .char (.int (Int32.ofInt x)) = true := by
  have q := (j_cr0 x.toNat (by omega)).2
  rw [Int.toNat_of_nonneg h.1] at q
  exact q
end
section
/-! ===== the class's methods: small ones ===== -/
theorem c_Packet_isThere {A : Nat → Option (Nat × (Nat → Int32))} {Q : Option Value → jm → Prop} {M : jm} (hC_M : CI M) {t : Nat} (k_t : kd t = 33) (q : ∀ (r : Int), 0 ≤ r ∧ r ≤ 1 → ((r = 0 ∧ M t 1 = -1) ∨ (r = 1 ∧ M t 1 ≠ -1)) → Q (some (.int (Int32.ofInt r))) M) : jc A 1 190 [.ref (t)] M Q := by
  refine jc_of (m := xm_190) rfl (Nat.le_of_ble_eq_true rfl) rfl ?_
  refine jr.aload_n rfl rfl ?_
  obtain ⟨v1, e1⟩ : ∃ z_, M t 1 = z_ := ⟨_, rfl⟩
  have b1 : (-1) ≤ v1 ∧ v1 ≤ 400 := by rw [← e1]; exact (CI.r hC_M k_t (by decide) 1)
  refine jr.getf (i := 1) (x := v1) (v := .int (Int32.ofInt (v1))) rfl rfl (Nat.lt_trans (kx_33 k_t).1 (by decide)) (kx_33 k_t).2 (by decide) rfl rfl e1 rfl ?_
  refine jr.iconst rfl ?_
  refine jr.icmp_eq rfl rfl (by omega) (by omega) (fun h5 => ?_) (fun h5 => ?_)
  · refine jr.iconst rfl ?_
    exact jr.ireturn rfl rfl rfl (q _ (by omega) (by have hq0 : M t 1 = v1 := e1; omega))
  · refine jr.iconst rfl ?_
    refine jr.goto rfl rfl ?_
    exact jr.ireturn rfl rfl rfl (q _ (by omega) (by have hq0 : M t 1 = v1 := e1; omega))
theorem c_Packet_byteAt {A : Nat → Option (Nat × (Nat → Int32))} {Q : Option Value → jm → Prop} {M : jm} (hC_M : CI M) {t : Nat} (k_t : kd t = 33) {x : Int} (h_x : (-2147483648) ≤ x ∧ x ≤ 2147483647) (q : ∀ (r : Int), (-1) ≤ r ∧ r ≤ 255 → Q (some (.int (Int32.ofInt r))) M) : jc A 1 192 [.ref (t), .int (Int32.ofInt (x))] M Q := by
  refine jc_of (m := xm_192) rfl (Nat.le_of_ble_eq_true rfl) rfl ?_
  refine jr.iload_n rfl rfl ?_
  refine jr.if_lt rfl rfl (by omega) (fun h1 => ?_) (fun h1 => ?_)
  · refine jr.iconst rfl ?_
    exact jr.ireturn rfl rfl rfl (q _ (by omega) )
  · refine jr.iload_n rfl rfl ?_
    refine jr.aload_n rfl rfl ?_
    obtain ⟨v1, e1⟩ : ∃ z_, M t 1 = z_ := ⟨_, rfl⟩
    have b1 : (-1) ≤ v1 ∧ v1 ≤ 400 := by rw [← e1]; exact (CI.r hC_M k_t (by decide) 1)
    refine jr.getf (i := 1) (x := v1) (v := .int (Int32.ofInt (v1))) rfl rfl (Nat.lt_trans (kx_33 k_t).1 (by decide)) (kx_33 k_t).2 (by decide) rfl rfl e1 rfl ?_
    refine jr.icmp_ge rfl rfl (by omega) (by omega) (fun h9 => ?_) (fun h9 => ?_)
    · refine jr.iconst rfl ?_
      exact jr.ireturn rfl rfl rfl (q _ (by omega) )
    · refine jr.aload_n rfl rfl ?_
      have k2 := kf_33_0 k_t
      refine jr.getf (i := 0) (v := .ref (t + 1)) rfl rfl (Nat.lt_trans (kx_33 k_t).1 (by decide)) (kx_33 k_t).2 (by decide) rfl rfl rfl (jval_ref rfl k2.1) ?_
      refine jr.iload_n rfl rfl ?_
      obtain ⟨v3, e3⟩ : ∃ z_, M ((t + 1)) x = z_ := ⟨_, rfl⟩
      have b3 : (-1) ≤ v3 ∧ v3 ≤ 255 := by rw [← e3]; exact (CI.r hC_M k2.2 (by decide) x)
      refine jr.iald (i := x) (x := v3) rfl (Nat.lt_trans (kx_34 k2.2).1 (by decide)) (kx_34 k2.2).2 (by decide) (by omega) (by omega) e3 ?_
      refine jr.goto rfl rfl ?_
      exact jr.ireturn rfl rfl rfl (q _ (by omega) )
theorem c_Packet_hasByte {A : Nat → Option (Nat × (Nat → Int32))} {Q : Option Value → jm → Prop} {M : jm} (hC_M : CI M) {t : Nat} (k_t : kd t = 33) {x : Int} (h_x : (-9223372036854775808) ≤ x ∧ x ≤ 9223372036854775807) (q : ∀ (r : Int), 0 ≤ r ∧ r ≤ 1 → (r = 0 ∨ (0 ≤ x ∧ x ≤ 399)) → Q (some (.int (Int32.ofInt r))) M) : jc A 1 191 [.ref (t), .long (Int64.ofInt (x))] M Q := by
  refine jc_of (m := xm_191) rfl (Nat.le_of_ble_eq_true rfl) rfl ?_
  refine jr.lload_n rfl rfl ?_
  refine jr.lconst (x := 0) rfl (by decide) ?_
  refine jr.lcmp_lt rfl rfl rfl (by omega) (by omega) (fun h2 => ?_) (fun h2 => ?_)
  · refine jr.iconst rfl ?_
    exact jr.ireturn rfl rfl rfl (q _ (by omega) (by omega))
  · refine jr.lload_n rfl rfl ?_
    refine jr.aload_n rfl rfl ?_
    obtain ⟨v1, e1⟩ : ∃ z_, M t 1 = z_ := ⟨_, rfl⟩
    have b1 : (-1) ≤ v1 ∧ v1 ≤ 400 := by rw [← e1]; exact (CI.r hC_M k_t (by decide) 1)
    refine jr.getf (i := 1) (x := v1) (v := .int (Int32.ofInt (v1))) rfl rfl (Nat.lt_trans (kx_33 k_t).1 (by decide)) (kx_33 k_t).2 (by decide) rfl rfl e1 rfl ?_
    refine jr.i2l rfl (by omega) ?_
    refine jr.lcmp_ge rfl rfl rfl (by omega) (by omega) (fun h12 => ?_) (fun h12 => ?_)
    · refine jr.iconst rfl ?_
      exact jr.ireturn rfl rfl rfl (q _ (by omega) (by omega))
    · refine jr.iconst rfl ?_
      refine jr.goto rfl rfl ?_
      exact jr.ireturn rfl rfl rfl (q _ (by omega) (by omega))
theorem c_Row_hasItem {A : Nat → Option (Nat × (Nat → Int32))} {Q : Option Value → jm → Prop} {M : jm} (hC_M : CI M) {t : Nat} (k_t : kd t = 52) {x : Int} (h_x : (-9223372036854775808) ≤ x ∧ x ≤ 9223372036854775807) (q : ∀ (r : Int), 0 ≤ r ∧ r ≤ 1 → (r = 0 ∨ (0 ≤ x ∧ x ≤ 39)) → Q (some (.int (Int32.ofInt r))) M) : jc A 1 233 [.ref (t), .long (Int64.ofInt (x))] M Q := by
  refine jc_of (m := xm_233) rfl (Nat.le_of_ble_eq_true rfl) rfl ?_
  refine jr.lload_n rfl rfl ?_
  refine jr.lconst (x := 0) rfl (by decide) ?_
  refine jr.lcmp_lt rfl rfl rfl (by omega) (by omega) (fun h2 => ?_) (fun h2 => ?_)
  · refine jr.iconst rfl ?_
    exact jr.ireturn rfl rfl rfl (q _ (by omega) (by omega))
  · refine jr.lload_n rfl rfl ?_
    refine jr.aload_n rfl rfl ?_
    obtain ⟨v1, e1⟩ : ∃ z_, M t 1 = z_ := ⟨_, rfl⟩
    have b1 : 0 ≤ v1 ∧ v1 ≤ 40 := by rw [← e1]; exact (CI.r hC_M k_t (by decide) 1)
    refine jr.getf (i := 1) (x := v1) (v := .int (Int32.ofInt (v1))) rfl rfl (Nat.lt_trans (kx_52 k_t).1 (by decide)) (kx_52 k_t).2 (by decide) rfl rfl e1 rfl ?_
    refine jr.i2l rfl (by omega) ?_
    refine jr.lcmp_ge rfl rfl rfl (by omega) (by omega) (fun h12 => ?_) (fun h12 => ?_)
    · refine jr.iconst rfl ?_
      exact jr.ireturn rfl rfl rfl (q _ (by omega) (by omega))
    · refine jr.iconst rfl ?_
      refine jr.goto rfl rfl ?_
      exact jr.ireturn rfl rfl rfl (q _ (by omega) (by omega))
theorem c_Row_isOfHeaders {A : Nat → Option (Nat × (Nat → Int32))} {Q : Option Value → jm → Prop} {M : jm} (hC_M : CI M) {t : Nat} (k_t : kd t = 52) (q : ∀ (r : Int), 0 ≤ r ∧ r ≤ 1 → Q (some (.int (Int32.ofInt r))) M) : jc A 1 234 [.ref (t)] M Q := by
  refine jc_of (m := xm_234) rfl (Nat.le_of_ble_eq_true rfl) rfl ?_
  refine jr.aload_n rfl rfl ?_
  obtain ⟨v1, e1⟩ : ∃ z_, M t 0 = z_ := ⟨_, rfl⟩
  have b1 : (-2147483648) ≤ v1 ∧ v1 ≤ 2147483647 := by rw [← e1]; exact (CI.r hC_M k_t (by decide) 0)
  refine jr.getf (i := 0) (x := v1) (v := .int (Int32.ofInt (v1))) rfl rfl (Nat.lt_trans (kx_52 k_t).1 (by decide)) (kx_52 k_t).2 (by decide) rfl rfl e1 rfl ?_
  refine jr.iconst rfl ?_
  refine jr.icmp_lt rfl rfl (by omega) (by omega) (fun h5 => ?_) (fun h5 => ?_)
  · refine jr.iconst rfl ?_
    exact jr.ireturn rfl rfl rfl (q _ (by omega) )
  · refine jr.iconst rfl ?_
    refine jr.goto rfl rfl ?_
    exact jr.ireturn rfl rfl rfl (q _ (by omega) )
theorem c_PacketWall_countGatherings_L4 {A : Nat → Option (Nat × (Nat → Int32))} {Q : Option Value → jm → Prop} {M : jm} (hC_M : CI M) (q : ∀ (r : Int), 0 ≤ r ∧ r ≤ 8 → Q (some (.int (Int32.ofInt r))) M) : ∀ (nM : Nat) (c : Int) (i : Int), 0 ≤ c ∧ c ≤ 8 → 0 ≤ i ∧ i ≤ 8 → (c ≤ i) → 8 - i ≤ nM → jr A 0 xm_44 4 [(1, .int (Int32.ofInt (c))), (2, .int (Int32.ofInt (i))), (0, .ref (0))] [] M Q := by
  intro nM
  induction nM using Nat.strongRecOn with
  | ind nM ih =>
    intro c i h_c h_i hy0 hm
    refine jr.iload_n rfl rfl ?_
    refine jr.bipush rfl (by decide) ?_
    refine jr.icmp_ge rfl rfl (by omega) (by omega) (fun h7 => ?_) (fun h7 => ?_)
    · refine jr.iload_n rfl rfl ?_
      exact jr.ireturn rfl rfl rfl (q _ (by omega) )
    · refine jr.iload_n rfl rfl ?_
      refine jr.aload_n rfl rfl ?_
      refine jr.getf (i := 5) (v := .ref 10) rfl rfl (by decide) rfl (by decide) rfl rfl rfl rfl ?_
      refine jr.iload_n rfl rfl ?_
      have k1 := kxe_40 (a := 10) rfl (i := i) (by omega) (by omega)
      refine jr.aald (c := (xe 10 i)) rfl (by decide) rfl (by decide) (by decide) rfl (by decide) (by omega) (by omega) k1.1 ?_
      obtain ⟨v2, e2⟩ : ∃ z_, M ((xe 10 i)) 0 = z_ := ⟨_, rfl⟩
      have b2 : 0 ≤ v2 ∧ v2 ≤ 1 := by rw [← e2]; exact (CI.r hC_M k1.2 (by decide) 0)
      refine jr.getf (i := 0) (x := v2) (v := .int (Int32.ofInt (v2))) rfl rfl (Nat.lt_trans (kx_15 k1.2).1 (by decide)) (kx_15 k1.2).2 (by decide) rfl rfl e2 rfl ?_
      refine jr.if_eq rfl rfl (by omega) (fun h20 => ?_) (fun h20 => ?_)
      · refine jr.iconst rfl ?_
        refine jr.iadd rfl ?_
        refine jr.istore_n rfl (by decide) rfl ?_
        refine jr.iinc rfl rfl (by decide) rfl ?_
        refine jr.goto rfl rfl ?_
        refine jr.pick [1, 0, 2] rfl rfl ?_
        exact ih (nM - 1) (by omega) (c + 0) (i + 1) (by omega) (by omega) (by omega) (by omega)
      · refine jr.iconst rfl ?_
        refine jr.goto rfl rfl ?_
        refine jr.iadd rfl ?_
        refine jr.istore_n rfl (by decide) rfl ?_
        refine jr.iinc rfl rfl (by decide) rfl ?_
        refine jr.goto rfl rfl ?_
        refine jr.pick [1, 0, 2] rfl rfl ?_
        exact ih (nM - 1) (by omega) (c + 1) (i + 1) (by omega) (by omega) (by omega) (by omega)
theorem c_PacketWall_countGatherings {A : Nat → Option (Nat × (Nat → Int32))} {Q : Option Value → jm → Prop} {M : jm} (hC_M : CI M) (q : ∀ (r : Int), 0 ≤ r ∧ r ≤ 8 → Q (some (.int (Int32.ofInt r))) M) : jc A 1 44 [.ref (0)] M Q := by
  refine jc_of (m := xm_44) rfl (Nat.le_of_ble_eq_true rfl) rfl ?_
  refine jr.iconst rfl ?_
  refine jr.istore_n rfl (by decide) rfl ?_
  refine jr.iconst rfl ?_
  refine jr.istore_n rfl (by decide) rfl ?_
  refine jr.pick [1, 0, 2] rfl rfl ?_
  exact c_PacketWall_countGatherings_L4 hC_M  q 8 0 0 (by omega) (by omega) (by omega) (by omega)
theorem c_Flows_isLive {A : Nat → Option (Nat × (Nat → Int32))} {Q : Option Value → jm → Prop} {M : jm} (hC_M : CI M) {x : Int} (h_x : (-2147483648) ≤ x ∧ x ≤ 2147483647) (q : ∀ (r : Int), 0 ≤ r ∧ r ≤ 1 → (r = 0 ∨ (0 ≤ x ∧ x ≤ 23)) → Q (some (.int (Int32.ofInt r))) M) : jc A 1 74 [.ref (15), .int (Int32.ofInt (x))] M Q := by
  refine jc_of (m := xm_74) rfl (Nat.le_of_ble_eq_true rfl) rfl ?_
  refine jr.iload_n rfl rfl ?_
  refine jr.if_lt rfl rfl (by omega) (fun h1 => ?_) (fun h1 => ?_)
  · refine jr.iconst rfl ?_
    exact jr.ireturn rfl rfl rfl (q _ (by omega) (by omega))
  · refine jr.iload_n rfl rfl ?_
    refine jr.bipush rfl (by decide) ?_
    refine jr.icmp_ge rfl rfl (by omega) (by omega) (fun h7 => ?_) (fun h7 => ?_)
    · refine jr.iconst rfl ?_
      exact jr.ireturn rfl rfl rfl (q _ (by omega) (by omega))
    · refine jr.aload_n rfl rfl ?_
      obtain ⟨v1, e1⟩ : ∃ z_, M 15 0 = z_ := ⟨_, rfl⟩
      have b1 : 16 ≤ v1 ∧ v1 ≤ 17 := by rw [← e1]; exact (CI.r hC_M (show kd 15 = 9 from rfl) (by decide) 0)
      have k2 : kd (v1).toNat = 13 := by rcases (show v1 = 16 ∨ v1 = 17 by omega) with h | h <;> (rw [h]; rfl)
      refine jr.getf (i := 0) (x := v1) (v := .ref (v1.toNat)) rfl rfl (by decide) rfl (by decide) rfl rfl e1 rfl ?_
      refine jr.iload_n rfl rfl ?_
      have k3 := kxe_13 k2 (i := x) (by omega) (by omega)
      refine jr.aald (c := (xe ((v1.toNat)) x)) rfl (Nat.lt_trans (kx_13 k2).1 (by decide)) (kx_13 k2).2 (by decide) (by decide) rfl (by decide) (by omega) (by omega) k3.1 ?_
      obtain ⟨v4, e4⟩ : ∃ z_, M ((xe ((v1.toNat)) x)) 0 = z_ := ⟨_, rfl⟩
      have b4 : 0 ≤ v4 ∧ v4 ≤ 1 := by rw [← e4]; exact (CI.r hC_M k3.2 (by decide) 0)
      refine jr.getf (i := 0) (x := v4) (v := .int (Int32.ofInt (v4))) rfl rfl (Nat.lt_trans (kx_1 k3.2).1 (by decide)) (kx_1 k3.2).2 (by decide) rfl rfl e4 rfl ?_
      refine jr.if_eq rfl rfl (by omega) (fun h19 => ?_) (fun h19 => ?_)
      · refine jr.iconst rfl ?_
        exact jr.ireturn rfl rfl rfl (q _ (by omega) (by omega))
      · refine jr.iconst rfl ?_
        refine jr.goto rfl rfl ?_
        exact jr.ireturn rfl rfl rfl (q _ (by omega) (by omega))
theorem c_Flows_countLive_L4 {A : Nat → Option (Nat × (Nat → Int32))} {Q : Option Value → jm → Prop} {M : jm} (hC_M : CI M) (q : ∀ (r : Int), 0 ≤ r ∧ r ≤ 24 → Q (some (.int (Int32.ofInt r))) M) : ∀ (nM : Nat) (c : Int) (i : Int), 0 ≤ c ∧ c ≤ 24 → 0 ≤ i ∧ i ≤ 24 → (c ≤ i) → 24 - i ≤ nM → jr A 0 xm_75 4 [(1, .int (Int32.ofInt (c))), (2, .int (Int32.ofInt (i))), (0, .ref (15))] [] M Q := by
  intro nM
  induction nM using Nat.strongRecOn with
  | ind nM ih =>
    intro c i h_c h_i hy0 hm
    refine jr.iload_n rfl rfl ?_
    refine jr.bipush rfl (by decide) ?_
    refine jr.icmp_ge rfl rfl (by omega) (by omega) (fun h7 => ?_) (fun h7 => ?_)
    · refine jr.iload_n rfl rfl ?_
      exact jr.ireturn rfl rfl rfl (q _ (by omega) )
    · refine jr.iload_n rfl rfl ?_
      refine jr.aload_n rfl rfl ?_
      obtain ⟨v1, e1⟩ : ∃ z_, M 15 0 = z_ := ⟨_, rfl⟩
      have b1 : 16 ≤ v1 ∧ v1 ≤ 17 := by rw [← e1]; exact (CI.r hC_M (show kd 15 = 9 from rfl) (by decide) 0)
      have k2 : kd (v1).toNat = 13 := by rcases (show v1 = 16 ∨ v1 = 17 by omega) with h | h <;> (rw [h]; rfl)
      refine jr.getf (i := 0) (x := v1) (v := .ref (v1.toNat)) rfl rfl (by decide) rfl (by decide) rfl rfl e1 rfl ?_
      refine jr.iload_n rfl rfl ?_
      have k3 := kxe_13 k2 (i := i) (by omega) (by omega)
      refine jr.aald (c := (xe ((v1.toNat)) i)) rfl (Nat.lt_trans (kx_13 k2).1 (by decide)) (kx_13 k2).2 (by decide) (by decide) rfl (by decide) (by omega) (by omega) k3.1 ?_
      obtain ⟨v4, e4⟩ : ∃ z_, M ((xe ((v1.toNat)) i)) 0 = z_ := ⟨_, rfl⟩
      have b4 : 0 ≤ v4 ∧ v4 ≤ 1 := by rw [← e4]; exact (CI.r hC_M k3.2 (by decide) 0)
      refine jr.getf (i := 0) (x := v4) (v := .int (Int32.ofInt (v4))) rfl rfl (Nat.lt_trans (kx_1 k3.2).1 (by decide)) (kx_1 k3.2).2 (by decide) rfl rfl e4 rfl ?_
      refine jr.if_eq rfl rfl (by omega) (fun h20 => ?_) (fun h20 => ?_)
      · refine jr.iconst rfl ?_
        refine jr.iadd rfl ?_
        refine jr.istore_n rfl (by decide) rfl ?_
        refine jr.iinc rfl rfl (by decide) rfl ?_
        refine jr.goto rfl rfl ?_
        refine jr.pick [1, 0, 2] rfl rfl ?_
        exact ih (nM - 1) (by omega) (c + 0) (i + 1) (by omega) (by omega) (by omega) (by omega)
      · refine jr.iconst rfl ?_
        refine jr.goto rfl rfl ?_
        refine jr.iadd rfl ?_
        refine jr.istore_n rfl (by decide) rfl ?_
        refine jr.iinc rfl rfl (by decide) rfl ?_
        refine jr.goto rfl rfl ?_
        refine jr.pick [1, 0, 2] rfl rfl ?_
        exact ih (nM - 1) (by omega) (c + 1) (i + 1) (by omega) (by omega) (by omega) (by omega)
theorem c_Flows_countLive {A : Nat → Option (Nat × (Nat → Int32))} {Q : Option Value → jm → Prop} {M : jm} (hC_M : CI M) (q : ∀ (r : Int), 0 ≤ r ∧ r ≤ 24 → Q (some (.int (Int32.ofInt r))) M) : jc A 1 75 [.ref (15)] M Q := by
  refine jc_of (m := xm_75) rfl (Nat.le_of_ble_eq_true rfl) rfl ?_
  refine jr.iconst rfl ?_
  refine jr.istore_n rfl (by decide) rfl ?_
  refine jr.iconst rfl ?_
  refine jr.istore_n rfl (by decide) rfl ?_
  refine jr.pick [1, 0, 2] rfl rfl ?_
  exact c_Flows_countLive_L4 hC_M  q 24 0 0 (by omega) (by omega) (by omega) (by omega)
end

