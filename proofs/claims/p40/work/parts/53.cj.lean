/-! ===== the class's methods ===== -/
theorem c_jdk_internal_util_Preconditions_checkIndex_n {A : Nat → Option (Nat × (Nat → Int32))} [HA A] {Q : Option Value → jm → Prop} {M : jm} (hC_M : CI M) {x : Int} (h_x : 0 ≤ x ∧ x ≤ 1000) {y : Int} (h_y : 0 ≤ y ∧ y ≤ 1000) (p0 : x < y) (q : ∀ (r : Int), 0 ≤ r ∧ r ≤ 1000 → Q (some (.int (Int32.ofInt r))) M) : jc A 1 418 [.int (Int32.ofInt (x)), .int (Int32.ofInt (y)), .null] M Q := by
  refine jc_of (m := xm_418) rfl (Nat.le_of_ble_eq_true rfl) rfl ?_
  refine jr.iload_n rfl rfl ?_
  refine jr.if_lt rfl rfl (by first | (refine rgb (by assumption) ?_; exact rfl) | omega) (fun h1 => ?_) (fun h1 => ?_)
  · exact absurd h1 (by omega)
  · refine jr.iload_n rfl rfl ?_
    refine jr.iload_n rfl rfl ?_
    refine jr.icmp_lt rfl rfl (by first | (refine rgb (by assumption) ?_; exact rfl) | omega) (by first | (refine rgb (by assumption) ?_; exact rfl) | omega) (fun h6 => ?_) (fun h => absurd h (by omega))
    refine jr.iload_n rfl rfl ?_
    exact jr.ireturn rfl rfl rfl (q _ (by omega) )
theorem c_jdk_internal_util_Preconditions_checkIndex_r {A : Nat → Option (Nat × (Nat → Int32))} [HA A] {Q : Option Value → jm → Prop} {M : jm} (hC_M : CI M) {x : Int} (h_x : 0 ≤ x ∧ x ≤ 1000) {y : Int} (h_y : 0 ≤ y ∧ y ≤ 1000) (p0 : x < y) (q : ∀ (r : Int), 0 ≤ r ∧ r ≤ 1000 → Q (some (.int (Int32.ofInt r))) M) : jc A 1 418 [.int (Int32.ofInt (x)), .int (Int32.ofInt (y)), .ref 1000300] M Q := by
  refine jc_of (m := xm_418) rfl (Nat.le_of_ble_eq_true rfl) rfl ?_
  refine jr.iload_n rfl rfl ?_
  refine jr.if_lt rfl rfl (by first | (refine rgb (by assumption) ?_; exact rfl) | omega) (fun h1 => ?_) (fun h1 => ?_)
  · exact absurd h1 (by omega)
  · refine jr.iload_n rfl rfl ?_
    refine jr.iload_n rfl rfl ?_
    refine jr.icmp_lt rfl rfl (by first | (refine rgb (by assumption) ?_; exact rfl) | omega) (by first | (refine rgb (by assumption) ?_; exact rfl) | omega) (fun h6 => ?_) (fun h => absurd h (by omega))
    refine jr.iload_n rfl rfl ?_
    exact jr.ireturn rfl rfl rfl (q _ (by omega) )
theorem c_jdk_internal_util_Preconditions_checkIndex {A : Nat → Option (Nat × (Nat → Int32))} [HA A] {Q : Option Value → jm → Prop} {M : jm} (hC_M : CI M) {x : Int} (h_x : 0 ≤ x ∧ x ≤ 1000) {y : Int} (h_y : 0 ≤ y ∧ y ≤ 1000) (p0 : x < y) (q : ∀ (r : Int), 0 ≤ r ∧ r ≤ 1000 → Q (some (.int (Int32.ofInt r))) M) : jc A 1 418 [.int (Int32.ofInt (x)), .int (Int32.ofInt (y)), xfmv A] M Q := by
  rcases xfmv_or A with h | h
  · rw [h]; exact c_jdk_internal_util_Preconditions_checkIndex_n hC_M h_x h_y p0 q
  · rw [h]; exact c_jdk_internal_util_Preconditions_checkIndex_r hC_M h_x h_y p0 q
theorem c_java_lang_String_checkIndex {A : Nat → Option (Nat × (Nat → Int32))} [HA A] {Q : Option Value → jm → Prop} {M : jm} (hC_M : CI M) {x : Int} (h_x : 0 ≤ x ∧ x ≤ 1000) {y : Int} (h_y : 0 ≤ y ∧ y ≤ 1000) (p0 : x < y) (q : Q none M) : jc A 2 413 [.int (Int32.ofInt (x)), .int (Int32.ofInt (y))] M Q := by
  refine jc_of (m := xm_413) rfl (Nat.le_of_ble_eq_true rfl) rfl ?_
  refine jr.iload_n rfl rfl ?_
  refine jr.iload_n rfl rfl ?_
  refine jr.gfm rfl rfl ?_
  refine jr_s rfl rfl (Or.inl rfl) ⟨Nat.le_of_ble_eq_true rfl, Nat.le_of_ble_eq_true rfl⟩ rfl rfl (jc.deep (c_jdk_internal_util_Preconditions_checkIndex hC_M (by omega) (by omega) (by omega) (fun r1 z1  => ?_)) (Nat.le_of_ble_eq_true rfl))
  refine jr.pop rfl rfl ?_
  exact jr.vreturn rfl rfl (q  )
theorem c_java_lang_String_coder {A : Nat → Option (Nat × (Nat → Int32))} [HA A] {Q : Option Value → jm → Prop} {M : jm} (hC_M : CI M) {t : Nat} (k_t : sK t = true) (q : ∀ (r : Int), 0 ≤ r ∧ r ≤ 0 → Q (some (.int (Int32.ofInt r))) M) : jc A 1 411 [.ref (t)] M Q := by
  refine jc_of (m := xm_411) rfl (Nat.le_of_ble_eq_true rfl) rfl ?_
  refine jr.gst (v := .int (Int32.ofInt 1)) rfl rfl ?_
  refine jr.if_eq rfl rfl (by first | exact rgl rfl | omega) (fun h => absurd h (by decide)) (fun _ => ?_)
  refine jr.aload_n rfl rfl ?_
  refine jr.gsc (a := t) rfl rfl rfl k_t ?_
  refine jr.goto rfl rfl ?_
  exact jr.ireturn rfl rfl rfl (q _ (by omega) )
theorem c_java_lang_String_isLatin1 {A : Nat → Option (Nat × (Nat → Int32))} [HA A] {Q : Option Value → jm → Prop} {M : jm} (hC_M : CI M) {t : Nat} (k_t : sK t = true) (q : ∀ (r : Int), 1 ≤ r ∧ r ≤ 1 → Q (some (.int (Int32.ofInt r))) M) : jc A 1 412 [.ref (t)] M Q := by
  refine jc_of (m := xm_412) rfl (Nat.le_of_ble_eq_true rfl) rfl ?_
  refine jr.gst (v := .int (Int32.ofInt 1)) rfl rfl ?_
  refine jr.if_eq rfl rfl (by first | exact rgl rfl | omega) (fun h => absurd h (by decide)) (fun _ => ?_)
  refine jr.aload_n rfl rfl ?_
  refine jr.gsc (a := t) rfl rfl rfl k_t ?_
  refine jr.if_ne rfl rfl (by first | exact rgl rfl | omega) (fun h => absurd h (by decide)) (fun _ => ?_)
  refine jr.iconst rfl ?_
  refine jr.goto rfl rfl ?_
  exact jr.ireturn rfl rfl rfl (q _ (by first | exact rgq rfl | omega) )
theorem c_java_lang_String_length {A : Nat → Option (Nat × (Nat → Int32))} [HA A] {Q : Option Value → jm → Prop} {M : jm} (hC_M : CI M) {t : Nat} (k_t : sK t = true) (q : ∀ (r : Int), 0 ≤ r ∧ r ≤ 300 → (r = slb (t + 100)) → Q (some (.int (Int32.ofInt r))) M) : jc A 2 407 [.ref (t)] M Q := by
  refine jc_of (m := xm_407) rfl (Nat.le_of_ble_eq_true rfl) rfl ?_
  refine jr.aload_n rfl rfl ?_
  refine jr.gsv (a := t) rfl rfl rfl k_t ?_
  obtain ⟨v1, e1⟩ : ∃ z, slb ((t + 100)) = z := ⟨_, rfl⟩
  have b1 : 0 ≤ v1 ∧ v1 ≤ 300 := by rw [← e1]; exact slb_r (sK_b k_t)
  refine jr.blen v1 rfl (sK_b k_t) e1 ?_
  refine jr.aload_n rfl rfl ?_
  refine jr_v8 rfl rfl rfl k_t ⟨Nat.le_of_ble_eq_true rfl, Nat.le_of_ble_eq_true rfl⟩ rfl (jc.deep (c_java_lang_String_coder hC_M k_t (fun r2 z2  => ?_)) (by decide))
  obtain rfl : r2 = 0 := by omega
  refine jr.ishr rfl ?_
  have b3 : j_shr v1 0 = v1 / 1 := j_shr_ex 0 (by decide) (by omega) (by omega)
  generalize j_shr v1 0 = v3 at b3 ⊢
  exact jr.ireturn rfl rfl rfl (q _ (by omega) (by omega))
theorem c_java_lang_StringLatin1_charAt {A : Nat → Option (Nat × (Nat → Int32))} [HA A] {Q : Option Value → jm → Prop} {M : jm} (hC_M : CI M) {x : Nat} (k_x : bK x = true) {y : Int} (h_y : 0 ≤ y ∧ y ≤ 300) (p0 : y < slb x) (q : ∀ (r : Int), 0 ≤ r ∧ r ≤ 255 → Q (some (.int (Int32.ofInt r))) M) : jc A 3 414 [.ref (x), .int (Int32.ofInt (y))] M Q := by
  refine jc_of (m := xm_414) rfl (Nat.le_of_ble_eq_true rfl) rfl ?_
  refine jr.iload_n rfl rfl ?_
  refine jr.aload_n rfl rfl ?_
  obtain ⟨v1, e1⟩ : ∃ z, slb x = z := ⟨_, rfl⟩
  have b1 : 0 ≤ v1 ∧ v1 ≤ 300 := by rw [← e1]; exact slb_r k_x
  refine jr.blen v1 rfl k_x e1 ?_
  refine jr_s rfl rfl (Or.inl rfl) ⟨Nat.le_of_ble_eq_true rfl, Nat.le_of_ble_eq_true rfl⟩ rfl rfl (jc.deep (c_java_lang_String_checkIndex hC_M (by omega) (by omega) (by omega) ?_) (Nat.le_of_ble_eq_true rfl))
  refine jr.aload_n rfl rfl ?_
  refine jr.iload_n rfl rfl ?_
  obtain ⟨v3, e3⟩ : ∃ z_, sbv x y = z_ := ⟨_, rfl⟩
  have b3 : 0 ≤ v3 ∧ v3 ≤ 127 := by rw [← e3]; exact sbv_r k_x (by omega) (by omega)
  refine jr.bald (i := y) v3 rfl k_x (by omega) (by omega) e3 ?_
  refine jr.sipush rfl (by decide) ?_
  refine jr.iand rfl ?_
  have b4 : 0 ≤ j_and v3 255 ∧ j_and v3 255 ≤ 255 := j_and_le (by decide)
  generalize j_and v3 255 = v4 at b4 ⊢
  refine jr.i2c rfl ?_
  rw [j_c_ex (x := v4) (by omega)]
  exact jr.ireturn rfl rfl (j_cr (by omega)) (q _ (by omega) )
theorem c_java_lang_String_charAt {A : Nat → Option (Nat × (Nat → Int32))} [HA A] {Q : Option Value → jm → Prop} {M : jm} (hC_M : CI M) {t : Nat} (k_t : sK t = true) {x : Int} (h_x : 0 ≤ x ∧ x ≤ 300) (p0 : x < slb (t + 100)) (q : ∀ (r : Int), 0 ≤ r ∧ r ≤ 255 → Q (some (.int (Int32.ofInt r))) M) : jc A 4 408 [.ref (t), .int (Int32.ofInt (x))] M Q := by
  refine jc_of (m := xm_408) rfl (Nat.le_of_ble_eq_true rfl) rfl ?_
  refine jr.aload_n rfl rfl ?_
  refine jr_v8 rfl rfl rfl k_t ⟨Nat.le_of_ble_eq_true rfl, Nat.le_of_ble_eq_true rfl⟩ rfl (jc.deep (c_java_lang_String_isLatin1 hC_M k_t (fun r1 z1  => ?_)) (by decide))
  obtain rfl : r1 = 1 := by omega
  refine jr.if_eq rfl rfl (by first | exact rgl rfl | omega) (fun h => absurd h (by decide)) (fun _ => ?_)
  refine jr.aload_n rfl rfl ?_
  refine jr.gsv (a := t) rfl rfl rfl k_t ?_
  refine jr.iload_n rfl rfl ?_
  refine jr_s rfl rfl (Or.inl rfl) ⟨Nat.le_of_ble_eq_true rfl, Nat.le_of_ble_eq_true rfl⟩ rfl rfl (jc.deep (c_java_lang_StringLatin1_charAt hC_M (sK_b k_t) (by omega) (by omega) (fun r2 z2  => ?_)) (Nat.le_of_ble_eq_true rfl))
  exact jr.ireturn rfl rfl (j_cr (by omega)) (q _ (by omega) )
theorem c_java_lang_StringLatin1_canEncode {A : Nat → Option (Nat × (Nat → Int32))} [HA A] {Q : Option Value → jm → Prop} {M : jm} (hC_M : CI M) {x : Int} (h_x : (-2147483648) ≤ x ∧ x ≤ 2147483647) (q : ∀ (r : Int), 0 ≤ r ∧ r ≤ 1 → Q (some (.int (Int32.ofInt r))) M) : jc A 1 415 [.int (Int32.ofInt (x))] M Q := by
  refine jc_of (m := xm_415) rfl (Nat.le_of_ble_eq_true rfl) rfl ?_
  refine jr.iload_n rfl rfl ?_
  refine jr.if_lt rfl rfl (by first | (refine rgb (by assumption) ?_; exact rfl) | omega) (fun h1 => ?_) (fun h1 => ?_)
  · refine jr.iconst rfl ?_
    exact jr.ireturn rfl rfl rfl (q _ (by first | exact rgq rfl | omega) )
  · refine jr.iload_n rfl rfl ?_
    refine jr.sipush rfl (by decide) ?_
    refine jr.icmp_gt rfl rfl (by first | (refine rgb (by assumption) ?_; exact rfl) | omega) (rgl rfl) (fun h8 => ?_) (fun h8 => ?_)
    · refine jr.iconst rfl ?_
      exact jr.ireturn rfl rfl rfl (q _ (by first | exact rgq rfl | omega) )
    · refine jr.iconst rfl ?_
      refine jr.goto rfl rfl ?_
      exact jr.ireturn rfl rfl rfl (q _ (by first | exact rgq rfl | omega) )
theorem c_java_lang_StringLatin1_indexOfChar_L7 {A : Nat → Option (Nat × (Nat → Int32))} [HA A] {Q : Option Value → jm → Prop} {M : jm} (hC_M : CI M) {x : Nat} (k_x : bK x = true) {u : Int} (q : ∀ (r : Int), (-1) ≤ r ∧ r ≤ 300 → Q (some (.int (Int32.ofInt r))) M) : ∀ (nM : Nat) (b : Int) (i : Int), 0 ≤ u ∧ u ≤ 300 → (-2147483648) ≤ b ∧ b ≤ 2147483647 → 0 ≤ i ∧ i ≤ 300 → (u ≤ slb x) → 300 - i ≤ nM → jr A 0 xm_417 7 [(3, .int (Int32.ofInt (u))), (4, .int (Int32.ofInt (b))), (5, .int (Int32.ofInt (i))), (0, .ref (x))] [] M Q := by
  intro nM
  induction nM using Nat.strongRecOn with
  | ind nM ih =>
    intro b i h_u h_b h_i hy0 hm
    refine jr.iload rfl rfl ?_
    refine jr.iload_n rfl rfl ?_
    refine jr.icmp_ge rfl rfl (by first | (refine rgb (by assumption) ?_; exact rfl) | omega) (by first | (refine rgb (by assumption) ?_; exact rfl) | omega) (fun h10 => ?_) (fun h10 => ?_)
    · refine jr.iconst rfl ?_
      exact jr.ireturn rfl rfl rfl (q _ (by first | exact rgq rfl | omega) )
    · refine jr.aload_n rfl rfl ?_
      refine jr.iload rfl rfl ?_
      obtain ⟨v1, e1⟩ : ∃ z_, sbv x i = z_ := ⟨_, rfl⟩
      have b1 : 0 ≤ v1 ∧ v1 ≤ 127 := by rw [← e1]; exact sbv_r k_x (by omega) (by omega)
      refine jr.bald (i := i) v1 rfl k_x (by omega) (by omega) e1 ?_
      refine jr.iload rfl rfl ?_
      refine jr.icmp_ne rfl rfl (by first | (refine rgb (by assumption) ?_; exact rfl) | omega) (by first | (refine rgb (by assumption) ?_; exact rfl) | omega) (fun h19 => ?_) (fun h19 => ?_)
      · refine jr.iinc (ls' := [_, _, _, _]) rfl rfl (nlt rfl) rfl ?_
        refine jr.goto rfl rfl ?_
        refine jr.pick (ls := [_, _, _, _]) [1, 2, 0, 3] rfl rfl ?_
        exact ih (nM - 1) (by omega) b (i + 1) (by omega) (by omega) (by omega) (by omega) (by omega)
      · refine jr.iload rfl rfl ?_
        exact jr.ireturn rfl rfl rfl (q _ (by omega) )
theorem c_java_lang_StringLatin1_indexOfChar {A : Nat → Option (Nat × (Nat → Int32))} [HA A] {Q : Option Value → jm → Prop} {M : jm} (hC_M : CI M) {x : Nat} (k_x : bK x = true) {y : Int} (h_y : (-2147483648) ≤ y ∧ y ≤ 2147483647) {z : Int} (h_z : 0 ≤ z ∧ z ≤ 300) {u : Int} (h_u : 0 ≤ u ∧ u ≤ 300) (p0 : u ≤ slb x) (q : ∀ (r : Int), (-1) ≤ r ∧ r ≤ 300 → Q (some (.int (Int32.ofInt r))) M) : jc A 1 417 [.ref (x), .int (Int32.ofInt (y)), .int (Int32.ofInt (z)), .int (Int32.ofInt (u))] M Q := by
  refine jc_of (m := xm_417) rfl (Nat.le_of_ble_eq_true rfl) rfl ?_
  refine jr.iload_n rfl rfl ?_
  refine jr.i2b rfl ?_
  have b1 : -2147483648 ≤ j_b y ∧ j_b y ≤ 2147483647 := jb_any _
  generalize j_b y = v1 at b1 ⊢
  refine jr.istore (ls' := [_, _, _, _, _]) rfl (nlt rfl) rfl ?_
  refine jr.iload_n rfl rfl ?_
  refine jr.istore (ls' := [_, _, _, _, _, _]) rfl (nlt rfl) rfl ?_
  refine jr.pick (ls := [_, _, _, _]) [5, 1, 0, 2] rfl rfl ?_
  exact c_java_lang_StringLatin1_indexOfChar_L7 hC_M k_x q 300 v1 z (by omega) (by omega) (by omega) (by omega) (by omega)
theorem c_java_lang_StringLatin1_indexOf {A : Nat → Option (Nat × (Nat → Int32))} [HA A] {Q : Option Value → jm → Prop} {M : jm} (hC_M : CI M) {x : Nat} (k_x : bK x = true) {y : Int} (h_y : (-2147483648) ≤ y ∧ y ≤ 2147483647) {z : Int} (h_z : 0 ≤ z ∧ z ≤ 300) {u : Int} (h_u : 0 ≤ u ∧ u ≤ 300) (q : ∀ (r : Int), (-1) ≤ r ∧ r ≤ 300 → Q (some (.int (Int32.ofInt r))) M) : jc A 2 416 [.ref (x), .int (Int32.ofInt (y)), .int (Int32.ofInt (z)), .int (Int32.ofInt (u))] M Q := by
  refine jc_of (m := xm_416) rfl (Nat.le_of_ble_eq_true rfl) rfl ?_
  refine jr.iload_n rfl rfl ?_
  refine jr_s rfl rfl (Or.inl rfl) ⟨Nat.le_of_ble_eq_true rfl, Nat.le_of_ble_eq_true rfl⟩ rfl rfl (jc.deep (c_java_lang_StringLatin1_canEncode hC_M (by omega) (fun r1 z1  => ?_)) (Nat.le_of_ble_eq_true rfl))
  refine jr.if_ne rfl rfl (by first | (refine rgb (by assumption) ?_; exact rfl) | omega) (fun h4 => ?_) (fun h4 => ?_)
  · have sx4 : (1 : Int) ≤ r1 := by omega
    clear h4
    refine jr.iload_n rfl rfl ?_
    refine jr.iconst rfl ?_
    refine jr.imax rfl rfl (Nat.le_of_ble_eq_true rfl) (by omega) (by omega) ?_
    intro v2 d2 b2 c2
    refine jr.istore_n (ls' := [_, _, _, _]) rfl (nlt rfl) rfl ?_
    refine jr.iload_n rfl rfl ?_
    refine jr.aload_n rfl rfl ?_
    obtain ⟨v3, e3⟩ : ∃ z, slb x = z := ⟨_, rfl⟩
    have b3 : 0 ≤ v3 ∧ v3 ≤ 300 := by rw [← e3]; exact slb_r k_x
    refine jr.blen v3 rfl k_x e3 ?_
    refine jr.imin rfl rfl (Nat.le_of_ble_eq_true rfl) (by omega) (by omega) ?_
    intro v4 d4 b4 c4
    refine jr.istore_n (ls' := [_, _, _, _]) rfl (nlt rfl) rfl ?_
    refine jr.iload_n rfl rfl ?_
    refine jr.iload_n rfl rfl ?_
    refine jr.icmp_lt rfl rfl (by first | (refine rgb (by assumption) ?_; exact rfl) | omega) (by first | (refine rgb (by assumption) ?_; exact rfl) | omega) (fun h24 => ?_) (fun h24 => ?_)
    · refine jr.aload_n rfl rfl ?_
      refine jr.iload_n rfl rfl ?_
      refine jr.iload_n rfl rfl ?_
      refine jr.iload_n rfl rfl ?_
      refine jr_s rfl rfl (Or.inl rfl) ⟨Nat.le_of_ble_eq_true rfl, Nat.le_of_ble_eq_true rfl⟩ rfl rfl (jc.deep (c_java_lang_StringLatin1_indexOfChar hC_M k_x (by omega) (by omega) (by omega) (by omega) (fun r5 z5  => ?_)) (Nat.le_of_ble_eq_true rfl))
      exact jr.ireturn rfl rfl rfl (q _ (by omega) )
    · refine jr.iconst rfl ?_
      exact jr.ireturn rfl rfl rfl (q _ (by first | exact rgq rfl | omega) )
  · refine jr.iconst rfl ?_
    exact jr.ireturn rfl rfl rfl (q _ (by first | exact rgq rfl | omega) )
theorem c_java_lang_String_indexOf_410 {A : Nat → Option (Nat × (Nat → Int32))} [HA A] {Q : Option Value → jm → Prop} {M : jm} (hC_M : CI M) {t : Nat} (k_t : sK t = true) {x : Int} (h_x : (-2147483648) ≤ x ∧ x ≤ 2147483647) {y : Int} (h_y : 0 ≤ y ∧ y ≤ 300) (q : ∀ (r : Int), (-1) ≤ r ∧ r ≤ 300 → Q (some (.int (Int32.ofInt r))) M) : jc A 3 410 [.ref (t), .int (Int32.ofInt (x)), .int (Int32.ofInt (y))] M Q := by
  refine jc_of (m := xm_410) rfl (Nat.le_of_ble_eq_true rfl) rfl ?_
  refine jr.aload_n rfl rfl ?_
  refine jr_v8 rfl rfl rfl k_t ⟨Nat.le_of_ble_eq_true rfl, Nat.le_of_ble_eq_true rfl⟩ rfl (jc.deep (c_java_lang_String_isLatin1 hC_M k_t (fun r1 z1  => ?_)) (by decide))
  obtain rfl : r1 = 1 := by omega
  refine jr.if_eq rfl rfl (by first | exact rgl rfl | omega) (fun h => absurd h (by decide)) (fun _ => ?_)
  refine jr.aload_n rfl rfl ?_
  refine jr.gsv (a := t) rfl rfl rfl k_t ?_
  refine jr.iload_n rfl rfl ?_
  refine jr.iload_n rfl rfl ?_
  refine jr.aload_n rfl rfl ?_
  refine jr_v8 rfl rfl rfl k_t ⟨Nat.le_of_ble_eq_true rfl, Nat.le_of_ble_eq_true rfl⟩ rfl (jc.deep (c_java_lang_String_length hC_M k_t (fun r2 z2 w2_0 => ?_)) (by decide))
  refine jr_s rfl rfl (Or.inl rfl) ⟨Nat.le_of_ble_eq_true rfl, Nat.le_of_ble_eq_true rfl⟩ rfl rfl (jc.deep (c_java_lang_StringLatin1_indexOf hC_M (sK_b k_t) (by omega) (by omega) (by omega) (fun r3 z3  => ?_)) (Nat.le_of_ble_eq_true rfl))
  refine jr.goto rfl rfl ?_
  exact jr.ireturn rfl rfl rfl (q _ (by omega) )
theorem c_java_lang_String_indexOf_409 {A : Nat → Option (Nat × (Nat → Int32))} [HA A] {Q : Option Value → jm → Prop} {M : jm} (hC_M : CI M) {t : Nat} (k_t : sK t = true) {x : Int} (h_x : (-2147483648) ≤ x ∧ x ≤ 2147483647) (q : ∀ (r : Int), (-1) ≤ r ∧ r ≤ 300 → Q (some (.int (Int32.ofInt r))) M) : jc A 4 409 [.ref (t), .int (Int32.ofInt (x))] M Q := by
  refine jc_of (m := xm_409) rfl (Nat.le_of_ble_eq_true rfl) rfl ?_
  refine jr.aload_n rfl rfl ?_
  refine jr.iload_n rfl rfl ?_
  refine jr.iconst rfl ?_
  refine jr_v8 rfl rfl rfl k_t ⟨Nat.le_of_ble_eq_true rfl, Nat.le_of_ble_eq_true rfl⟩ rfl (jc.deep (c_java_lang_String_indexOf_410 hC_M k_t (by omega) (by omega) (fun r1 z1  => ?_)) (by decide))
  exact jr.ireturn rfl rfl rfl (q _ (by omega) )
theorem c_Parser_letterAt {A : Nat → Option (Nat × (Nat → Int32))} [HA A] {Q : Option Value → jm → Prop} {M : jm} (hC_M : CI M) {x : Int} (h_x : (-2147483648) ≤ x ∧ x ≤ 2147483647) (p0 : 1 ≤ M 413 3 ∧ M 413 3 ≤ 1) (q : ∀ (r : Int), 0 ≤ r ∧ r ≤ 255 → Q (some (.int (Int32.ofInt r))) M) : jc A 1 211 [.ref (413), .int (Int32.ofInt (x))] M Q := by
  refine jc_of (m := xm_211) rfl (Nat.le_of_ble_eq_true rfl) rfl ?_
  obtain ⟨v1, e1⟩ : ∃ z_, M 413 3 = z_ := ⟨_, rfl⟩
  have b1 : 1 ≤ v1 ∧ v1 ≤ 419 := by rw [← e1]; exact (CI.r hC_M (show kd 413 = 44 from rfl) (by decide) 3)
  have b2 : 1 ≤ v1 ∧ v1 ≤ 1 := by rw [← e1]; exact p0
  refine jr.iload_n rfl rfl ?_
  refine jr.if_lt rfl rfl (by first | (refine rgb (by assumption) ?_; exact rfl) | omega) (fun h1 => ?_) (fun h1 => ?_)
  · refine jr.iconst rfl ?_
    exact jr.ireturn rfl rfl rfl (q _ (by first | exact rgq rfl | omega) )
  · refine jr.iload_n rfl rfl ?_
    refine jr.aload_n rfl rfl ?_
    obtain ⟨v3, e3⟩ : ∃ z_, M 413 4 = z_ := ⟨_, rfl⟩
    have b3 : 0 ≤ v3 ∧ v3 ≤ 1600 := by rw [← e3]; exact (CI.r hC_M (show kd 413 = 44 from rfl) (by decide) 4)
    refine jr.getf (i := 4) (x := v3) (v := .int (Int32.ofInt (v3))) rfl rfl (nlt rfl) rfl (nlt rfl) rfl rfl e3 rfl ?_
    refine jr.icmp_ge rfl rfl (by first | (refine rgb (by assumption) ?_; exact rfl) | omega) (by first | (refine rgb (by assumption) ?_; exact rfl) | omega) (fun h9 => ?_) (fun h9 => ?_)
    · refine jr.iconst rfl ?_
      exact jr.ireturn rfl rfl rfl (q _ (by first | exact rgq rfl | omega) )
    · refine jr.aload_n rfl rfl ?_
      have k4 : kd (v1).toNat = 43 := by rcases (show v1 = 1 by omega) with h <;> (rw [h]; rfl)
      refine jr.getf (i := 3) (x := v1) (v := .ref (v1.toNat)) rfl rfl (nlt rfl) rfl (nlt rfl) rfl rfl e1 rfl ?_
      refine jr.iload_n rfl rfl ?_
      obtain ⟨v5, e5⟩ : ∃ z_, M ((v1.toNat)) x = z_ := ⟨_, rfl⟩
      have b5 : 0 ≤ v5 ∧ v5 ≤ 255 := by rw [← e5]; exact (CI.r hC_M k4 (by decide) x)
      refine jr.iald (i := x) (x := v5) rfl (Nat.lt_trans (kx_43 k4).1 (by decide)) (kx_43 k4).2 (by decide) (by omega) (by omega) e5 ?_
      refine jr.bipush rfl (jbp _ (nlt rfl)) ?_
      refine jr.icmp_lt rfl rfl (by first | (refine rgb (by assumption) ?_; exact rfl) | omega) (rgl rfl) (fun h20 => ?_) (fun h20 => ?_)
      · refine jr.iconst rfl ?_
        exact jr.ireturn rfl rfl rfl (q _ (by first | exact rgq rfl | omega) )
      · refine jr.aload_n rfl rfl ?_
        have k6 : kd (v1).toNat = 43 := by rcases (show v1 = 1 by omega) with h <;> (rw [h]; rfl)
        refine jr.getf (i := 3) (x := v1) (v := .ref (v1.toNat)) rfl rfl (nlt rfl) rfl (nlt rfl) rfl rfl e1 rfl ?_
        refine jr.iload_n rfl rfl ?_
        refine jr.iald (i := x) (x := v5) rfl (Nat.lt_trans (kx_43 k6).1 (by decide)) (kx_43 k6).2 (by decide) (by omega) (by omega) e5 ?_
        refine jr.bipush rfl (jbp _ (nlt rfl)) ?_
        refine jr.icmp_gt rfl rfl (by first | (refine rgb (by assumption) ?_; exact rfl) | omega) (rgl rfl) (fun h31 => ?_) (fun h31 => ?_)
        · refine jr.iconst rfl ?_
          exact jr.ireturn rfl rfl rfl (q _ (by first | exact rgq rfl | omega) )
        · refine jr.aload_n rfl rfl ?_
          have k7 : kd (v1).toNat = 43 := by rcases (show v1 = 1 by omega) with h <;> (rw [h]; rfl)
          refine jr.getf (i := 3) (x := v1) (v := .ref (v1.toNat)) rfl rfl (nlt rfl) rfl (nlt rfl) rfl rfl e1 rfl ?_
          refine jr.iload_n rfl rfl ?_
          refine jr.iald (i := x) (x := v5) rfl (Nat.lt_trans (kx_43 k7).1 (by decide)) (kx_43 k7).2 (by decide) (by omega) (by omega) e5 ?_
          refine jr.goto rfl rfl ?_
          exact jr.ireturn rfl rfl rfl (q _ (by omega) )
theorem c_Parser_isDigitAt {A : Nat → Option (Nat × (Nat → Int32))} [HA A] {Q : Option Value → jm → Prop} {M : jm} (hC_M : CI M) {x : Int} (h_x : (-2147483648) ≤ x ∧ x ≤ 2147483647) (p0 : 1 ≤ M 413 3 ∧ M 413 3 ≤ 1) (q : ∀ (r : Int), 0 ≤ r ∧ r ≤ 1 → Q (some (.int (Int32.ofInt r))) M) : jc A 1 212 [.ref (413), .int (Int32.ofInt (x))] M Q := by
  refine jc_of (m := xm_212) rfl (Nat.le_of_ble_eq_true rfl) rfl ?_
  obtain ⟨v1, e1⟩ : ∃ z_, M 413 3 = z_ := ⟨_, rfl⟩
  have b1 : 1 ≤ v1 ∧ v1 ≤ 419 := by rw [← e1]; exact (CI.r hC_M (show kd 413 = 44 from rfl) (by decide) 3)
  have b2 : 1 ≤ v1 ∧ v1 ≤ 1 := by rw [← e1]; exact p0
  refine jr.iload_n rfl rfl ?_
  refine jr.if_lt rfl rfl (by first | (refine rgb (by assumption) ?_; exact rfl) | omega) (fun h1 => ?_) (fun h1 => ?_)
  · refine jr.iconst rfl ?_
    exact jr.ireturn rfl rfl rfl (q _ (by first | exact rgq rfl | omega) )
  · refine jr.iload_n rfl rfl ?_
    refine jr.aload_n rfl rfl ?_
    obtain ⟨v3, e3⟩ : ∃ z_, M 413 4 = z_ := ⟨_, rfl⟩
    have b3 : 0 ≤ v3 ∧ v3 ≤ 1600 := by rw [← e3]; exact (CI.r hC_M (show kd 413 = 44 from rfl) (by decide) 4)
    refine jr.getf (i := 4) (x := v3) (v := .int (Int32.ofInt (v3))) rfl rfl (nlt rfl) rfl (nlt rfl) rfl rfl e3 rfl ?_
    refine jr.icmp_ge rfl rfl (by first | (refine rgb (by assumption) ?_; exact rfl) | omega) (by first | (refine rgb (by assumption) ?_; exact rfl) | omega) (fun h9 => ?_) (fun h9 => ?_)
    · refine jr.iconst rfl ?_
      exact jr.ireturn rfl rfl rfl (q _ (by first | exact rgq rfl | omega) )
    · refine jr.aload_n rfl rfl ?_
      have k4 : kd (v1).toNat = 43 := by rcases (show v1 = 1 by omega) with h <;> (rw [h]; rfl)
      refine jr.getf (i := 3) (x := v1) (v := .ref (v1.toNat)) rfl rfl (nlt rfl) rfl (nlt rfl) rfl rfl e1 rfl ?_
      refine jr.iload_n rfl rfl ?_
      obtain ⟨v5, e5⟩ : ∃ z_, M ((v1.toNat)) x = z_ := ⟨_, rfl⟩
      have b5 : 0 ≤ v5 ∧ v5 ≤ 255 := by rw [← e5]; exact (CI.r hC_M k4 (by decide) x)
      refine jr.iald (i := x) (x := v5) rfl (Nat.lt_trans (kx_43 k4).1 (by decide)) (kx_43 k4).2 (by decide) (by omega) (by omega) e5 ?_
      refine jr.bipush rfl (jbp _ (nlt rfl)) ?_
      refine jr.icmp_lt rfl rfl (by first | (refine rgb (by assumption) ?_; exact rfl) | omega) (rgl rfl) (fun h20 => ?_) (fun h20 => ?_)
      · refine jr.iconst rfl ?_
        exact jr.ireturn rfl rfl rfl (q _ (by first | exact rgq rfl | omega) )
      · refine jr.aload_n rfl rfl ?_
        have k6 : kd (v1).toNat = 43 := by rcases (show v1 = 1 by omega) with h <;> (rw [h]; rfl)
        refine jr.getf (i := 3) (x := v1) (v := .ref (v1.toNat)) rfl rfl (nlt rfl) rfl (nlt rfl) rfl rfl e1 rfl ?_
        refine jr.iload_n rfl rfl ?_
        refine jr.iald (i := x) (x := v5) rfl (Nat.lt_trans (kx_43 k6).1 (by decide)) (kx_43 k6).2 (by decide) (by omega) (by omega) e5 ?_
        refine jr.bipush rfl (jbp _ (nlt rfl)) ?_
        refine jr.icmp_gt rfl rfl (by first | (refine rgb (by assumption) ?_; exact rfl) | omega) (rgl rfl) (fun h31 => ?_) (fun h31 => ?_)
        · refine jr.iconst rfl ?_
          exact jr.ireturn rfl rfl rfl (q _ (by first | exact rgq rfl | omega) )
        · refine jr.iconst rfl ?_
          refine jr.goto rfl rfl ?_
          exact jr.ireturn rfl rfl rfl (q _ (by first | exact rgq rfl | omega) )
theorem c_Parser_isSameWord_L2 {A : Nat → Option (Nat × (Nat → Int32))} [HA A] {Q : Option Value → jm → Prop} {M : jm} (hC_M : CI M) {x : Int} {y : Int} (q : ∀ (r : Int), 0 ≤ r ∧ r ≤ 1 → Q (some (.int (Int32.ofInt r))) M) : ∀ (nM : Nat) (i : Int), (-2147483648) ≤ x ∧ x ≤ 2147483647 → (-2147483648) ≤ y ∧ y ≤ 2147483647 → 0 ≤ i ∧ i ≤ 10 → (1 ≤ M 413 3 ∧ M 413 3 ≤ 1) → 10 - i ≤ nM → jr A 1 xm_210 2 [(1, .int (Int32.ofInt (x))), (2, .int (Int32.ofInt (y))), (3, .int (Int32.ofInt (i))), (0, .ref (413))] [] M Q := by
  intro nM
  induction nM using Nat.strongRecOn with
  | ind nM ih =>
    intro i h_x h_y h_i hy0 hm
    obtain ⟨v1, e1⟩ : ∃ z_, M 413 3 = z_ := ⟨_, rfl⟩
    have b1 : 1 ≤ v1 ∧ v1 ≤ 419 := by rw [← e1]; exact (CI.r hC_M (show kd 413 = 44 from rfl) (by decide) 3)
    have b2 : 1 ≤ v1 ∧ v1 ≤ 1 := by rw [← e1]; exact hy0
    refine jr.iload_n rfl rfl ?_
    refine jr.bipush rfl (jbp _ (nlt rfl)) ?_
    refine jr.icmp_gt rfl rfl (by first | (refine rgb (by assumption) ?_; exact rfl) | omega) (rgl rfl) (fun h5 => ?_) (fun h5 => ?_)
    · refine jr.iconst rfl ?_
      exact jr.ireturn rfl rfl rfl (q _ (by first | exact rgq rfl | omega) )
    · refine jr.aload_n rfl rfl ?_
      refine jr.iload_n rfl rfl ?_
      refine jr.iload_n rfl rfl ?_
      refine jr.iadd rfl ?_
      refine jr.iw (j_w (x + i)) (j_w_eq _) ?_
      have b3 : -2147483648 ≤ j_w (x + i) ∧ j_w (x + i) ≤ 2147483647 := jb_any _
      generalize j_w (x + i) = v3 at b3 ⊢
      refine jr_v rfl rfl (Or.inl rfl) rfl rfl (nlt rfl) rfl ⟨rfl, Nat.le_of_ble_eq_true rfl, Nat.le_of_ble_eq_true rfl⟩ rfl (jc.deep (c_Parser_letterAt hC_M (by omega) (by have hq0 : M 413 3 = v1 := e1; omega) (fun r4 z4  => ?_)) (Nat.le_of_ble_eq_true rfl))
      refine jr.istore (ls' := [_, _, _, _, _]) rfl (nlt rfl) rfl ?_
      refine jr.iload rfl rfl ?_
      refine jr.aload_n rfl rfl ?_
      refine jr.iload_n rfl rfl ?_
      refine jr.iload_n rfl rfl ?_
      refine jr.iadd rfl ?_
      refine jr.iw (j_w (y + i)) (j_w_eq _) ?_
      have b5 : -2147483648 ≤ j_w (y + i) ∧ j_w (y + i) ≤ 2147483647 := jb_any _
      generalize j_w (y + i) = v5 at b5 ⊢
      refine jr_v rfl rfl (Or.inl rfl) rfl rfl (nlt rfl) rfl ⟨rfl, Nat.le_of_ble_eq_true rfl, Nat.le_of_ble_eq_true rfl⟩ rfl (jc.deep (c_Parser_letterAt hC_M (by omega) (by have hq0 : M 413 3 = v1 := e1; omega) (fun r6 z6  => ?_)) (Nat.le_of_ble_eq_true rfl))
      refine jr.icmp_eq rfl rfl (by first | (refine rgb (by assumption) ?_; exact rfl) | omega) (by first | (refine rgb (by assumption) ?_; exact rfl) | omega) (fun h26 => ?_) (fun h26 => ?_)
      · refine jr.iload rfl rfl ?_
        refine jr.if_ne rfl rfl (by first | (refine rgb (by assumption) ?_; exact rfl) | omega) (fun h33 => ?_) (fun h33 => ?_)
        · have sx33 : (1 : Int) ≤ r4 := by omega
          clear h33
          refine jr.iinc (ls' := [_, _, _, _, _]) rfl rfl (nlt rfl) rfl ?_
          refine jr.goto rfl rfl ?_
          refine jr.pick (ls := [_, _, _, _]) [2, 3, 0, 4] rfl rfl ?_
          exact ih (nM - 1) (by omega) (i + 1) (by omega) (by omega) (by omega) (by have hq0 : M 413 3 = v1 := e1; omega) (by omega)
        · refine jr.iconst rfl ?_
          exact jr.ireturn rfl rfl rfl (q _ (by first | exact rgq rfl | omega) )
      · refine jr.iconst rfl ?_
        exact jr.ireturn rfl rfl rfl (q _ (by first | exact rgq rfl | omega) )
theorem c_Parser_isSameWord {A : Nat → Option (Nat × (Nat → Int32))} [HA A] {Q : Option Value → jm → Prop} {M : jm} (hC_M : CI M) {x : Int} (h_x : (-2147483648) ≤ x ∧ x ≤ 2147483647) {y : Int} (h_y : (-2147483648) ≤ y ∧ y ≤ 2147483647) (p0 : 1 ≤ M 413 3 ∧ M 413 3 ≤ 1) (q : ∀ (r : Int), 0 ≤ r ∧ r ≤ 1 → Q (some (.int (Int32.ofInt r))) M) : jc A 2 210 [.ref (413), .int (Int32.ofInt (x)), .int (Int32.ofInt (y))] M Q := by
  refine jc_of (m := xm_210) rfl (Nat.le_of_ble_eq_true rfl) rfl ?_
  obtain ⟨v1, e1⟩ : ∃ z_, M 413 3 = z_ := ⟨_, rfl⟩
  have b1 : 1 ≤ v1 ∧ v1 ≤ 419 := by rw [← e1]; exact (CI.r hC_M (show kd 413 = 44 from rfl) (by decide) 3)
  have b2 : 1 ≤ v1 ∧ v1 ≤ 1 := by rw [← e1]; exact p0
  refine jr.iconst rfl ?_
  refine jr.istore_n (ls' := [_, _, _, _]) rfl (nlt rfl) rfl ?_
  refine jr.pick (ls := [_, _, _, _]) [2, 3, 0, 1] rfl rfl ?_
  exact c_Parser_isSameWord_L2 hC_M  q 10 0 (by omega) (by omega) (by omega) (by have hq0 : M 413 3 = v1 := e1; omega) (by omega)
theorem c_Parser_chainNamed_L2 {A : Nat → Option (Nat × (Nat → Int32))} [HA A] {Q : Option Value → jm → Prop} {M : jm} (hC_M : CI M) {x : Int} (q : ∀ (r : Int), (-1) ≤ r ∧ r ≤ 15 → Q (some (.int (Int32.ofInt r))) M) : ∀ (nM : Nat) (i : Int), (-2147483648) ≤ x ∧ x ≤ 2147483647 → 0 ≤ i ∧ i ≤ 16 → (1 ≤ M 413 3 ∧ M 413 3 ≤ 1) → 16 - i ≤ nM → jr A 2 xm_209 2 [(1, .int (Int32.ofInt (x))), (2, .int (Int32.ofInt (i))), (0, .ref (413))] [] M Q := by
  intro nM
  induction nM using Nat.strongRecOn with
  | ind nM ih =>
    intro i h_x h_i hy0 hm
    obtain ⟨v1, e1⟩ : ∃ z_, M 413 3 = z_ := ⟨_, rfl⟩
    have b1 : 1 ≤ v1 ∧ v1 ≤ 419 := by rw [← e1]; exact (CI.r hC_M (show kd 413 = 44 from rfl) (by decide) 3)
    have b2 : 1 ≤ v1 ∧ v1 ≤ 1 := by rw [← e1]; exact hy0
    refine jr.iload_n rfl rfl ?_
    refine jr.aload_n rfl rfl ?_
    obtain ⟨v3, e3⟩ : ∃ z_, M 413 2 = z_ := ⟨_, rfl⟩
    have b3 : 0 ≤ v3 ∧ v3 ≤ 597 := by rw [← e3]; exact (CI.r hC_M (show kd 413 = 44 from rfl) (by decide) 2)
    have k4 : kd (v3).toNat = 47 := ((congrArg (fun z : Int => kd z.toNat) (show M 413 2 = v3 from e3)).symm.trans (CI.x hC_M (show kd 413 = 44 from rfl) 2 rfl (by decide)))
    refine jr.getf (i := 2) (x := v3) (v := .ref (v3.toNat)) rfl rfl (nlt rfl) rfl (nlt rfl) rfl rfl e3 rfl ?_
    obtain ⟨v5, e5⟩ : ∃ z_, M ((v3.toNat)) 3 = z_ := ⟨_, rfl⟩
    have b5 : 0 ≤ v5 ∧ v5 ≤ 16 := by rw [← e5]; exact (CI.r hC_M k4 (by decide) 3)
    refine jr.getf (i := 3) (x := v5) (v := .int (Int32.ofInt (v5))) rfl rfl (Nat.lt_trans (kx_47 k4).1 (by decide)) (kx_47 k4).2 (by decide) rfl rfl e5 rfl ?_
    refine jr.icmp_ge rfl rfl (by first | (refine rgb (by assumption) ?_; exact rfl) | omega) (by first | (refine rgb (by assumption) ?_; exact rfl) | omega) (fun h10 => ?_) (fun h10 => ?_)
    · refine jr.iconst rfl ?_
      exact jr.ireturn rfl rfl rfl (q _ (by first | exact rgq rfl | omega) )
    · refine jr.aload_n rfl rfl ?_
      refine jr.aload_n rfl rfl ?_
      refine jr.getf (i := 5) (v := .ref 420) rfl rfl (nlt rfl) rfl (nlt rfl) rfl rfl rfl rfl ?_
      refine jr.iload_n rfl rfl ?_
      obtain ⟨v6, e6⟩ : ∃ z_, M 420 i = z_ := ⟨_, rfl⟩
      have b6 : (-2147483648) ≤ v6 ∧ v6 ≤ 2147483647 := by rw [← e6]; exact (CI.r hC_M (show kd 420 = 45 from rfl) (by decide) i)
      refine jr.iald (i := i) (x := v6) rfl (nlt rfl) rfl (Nat.le_of_ble_eq_true rfl) (by omega) (by omega) e6 ?_
      refine jr.iload_n rfl rfl ?_
      refine jr_v rfl rfl (Or.inl rfl) rfl rfl (nlt rfl) rfl ⟨rfl, Nat.le_of_ble_eq_true rfl, Nat.le_of_ble_eq_true rfl⟩ rfl (jc.deep (c_Parser_isSameWord hC_M (by omega) (by omega) (by have hq0 : M 413 3 = v1 := e1; omega) (fun r7 z7  => ?_)) (Nat.le_of_ble_eq_true rfl))
      refine jr.if_eq rfl rfl (by first | (refine rgb (by assumption) ?_; exact rfl) | omega) (fun h24 => ?_) (fun h24 => ?_)
      · refine jr.iinc (ls' := [_, _, _]) rfl rfl (nlt rfl) rfl ?_
        refine jr.goto rfl rfl ?_
        refine jr.pick (ls := [_, _, _]) [1, 0, 2] rfl rfl ?_
        exact ih (nM - 1) (by omega) (i + 1) (by omega) (by omega) (by have hq0 : M 413 3 = v1 := e1; omega) (by omega)
      · have sx24 : (1 : Int) ≤ r7 := by omega
        clear h24
        refine jr.iload_n rfl rfl ?_
        exact jr.ireturn rfl rfl rfl (q _ (by omega) )
theorem c_Parser_chainNamed {A : Nat → Option (Nat × (Nat → Int32))} [HA A] {Q : Option Value → jm → Prop} {M : jm} (hC_M : CI M) {x : Int} (h_x : (-2147483648) ≤ x ∧ x ≤ 2147483647) (p0 : 1 ≤ M 413 3 ∧ M 413 3 ≤ 1) (q : ∀ (r : Int), (-1) ≤ r ∧ r ≤ 15 → Q (some (.int (Int32.ofInt r))) M) : jc A 3 209 [.ref (413), .int (Int32.ofInt (x))] M Q := by
  refine jc_of (m := xm_209) rfl (Nat.le_of_ble_eq_true rfl) rfl ?_
  obtain ⟨v1, e1⟩ : ∃ z_, M 413 3 = z_ := ⟨_, rfl⟩
  have b1 : 1 ≤ v1 ∧ v1 ≤ 419 := by rw [← e1]; exact (CI.r hC_M (show kd 413 = 44 from rfl) (by decide) 3)
  have b2 : 1 ≤ v1 ∧ v1 ≤ 1 := by rw [← e1]; exact p0
  refine jr.iconst rfl ?_
  refine jr.istore_n (ls' := [_, _, _]) rfl (nlt rfl) rfl ?_
  refine jr.pick (ls := [_, _, _]) [2, 0, 1] rfl rfl ?_
  exact c_Parser_chainNamed_L2 hC_M  q 16 0 (by omega) (by omega) (by have hq0 : M 413 3 = v1 := e1; omega) (by omega)
theorem c_Parser_wordIn_L13 {A : Nat → Option (Nat × (Nat → Int32))} [HA A] {Q : Option Value → jm → Prop} {M : jm} (hC_M : CI M) {x : Nat} (k_x : sK x = true) (q : ∀ (r : Int), (-1) ≤ r ∧ r ≤ 301 → Q (some (.int (Int32.ofInt r))) M) : ∀ (nM : Nat) (w : Int) (i : Int) (b : Int) (n : Int), 0 ≤ w ∧ w ≤ 301 → 0 ≤ i ∧ i ≤ 2000 → 0 ≤ b ∧ b ≤ 1 → 0 ≤ n ∧ n ≤ 301 → (1 ≤ M 413 3 ∧ M 413 3 ≤ 1) → (i ≤ 1600 + n) → (w ≤ n) → 301 - n ≤ nM → jr A 4 xm_214 13 [(2, .int (Int32.ofInt (w))), (3, .int (Int32.ofInt (i))), (4, .int (Int32.ofInt (b))), (5, .int (Int32.ofInt (n))), (0, .ref (413)), (1, .ref (x))] [] M Q := by
  intro nM
  induction nM using Nat.strongRecOn with
  | ind nM ih =>
    intro w i b n h_w h_i h_b h_n hy0 hy1 hy2 hm
    obtain ⟨v1, e1⟩ : ∃ z_, M 413 3 = z_ := ⟨_, rfl⟩
    have b1 : 1 ≤ v1 ∧ v1 ≤ 419 := by rw [← e1]; exact (CI.r hC_M (show kd 413 = 44 from rfl) (by decide) 3)
    have b2 : 1 ≤ v1 ∧ v1 ≤ 1 := by rw [← e1]; exact hy0
    refine jr.iload rfl rfl ?_
    refine jr.aload_n rfl rfl ?_
    refine jr_v8 rfl rfl rfl k_x ⟨Nat.le_of_ble_eq_true rfl, Nat.le_of_ble_eq_true rfl⟩ rfl (jc.deep (c_java_lang_String_length hC_M k_x (fun r3 z3 w3_0 => ?_)) (by decide))
    refine jr.icmp_gt rfl rfl (by first | (refine rgb (by assumption) ?_; exact rfl) | omega) (by first | (refine rgb (by assumption) ?_; exact rfl) | omega) (fun h19 => ?_) (fun h19 => ?_)
    · refine jr.iconst rfl ?_
      exact jr.ireturn rfl rfl rfl (q _ (by first | exact rgq rfl | omega) )
    · refine jr.iload rfl rfl ?_
      refine jr.aload_n rfl rfl ?_
      refine jr_v8 rfl rfl rfl k_x ⟨Nat.le_of_ble_eq_true rfl, Nat.le_of_ble_eq_true rfl⟩ rfl (jc.deep (c_java_lang_String_length hC_M k_x (fun r4 z4 w4_0 => ?_)) (by decide))
      refine jr.icmp_ge rfl rfl (by first | (refine rgb (by assumption) ?_; exact rfl) | omega) (by first | (refine rgb (by assumption) ?_; exact rfl) | omega) (fun h28 => ?_) (fun h28 => ?_)
      · refine jr.bipush rfl (jbp _ (nlt rfl)) ?_
        refine jr.istore (ls' := [_, _, _, _, _, _, _]) rfl (nlt rfl) rfl ?_
        refine jr.iload rfl rfl ?_
        refine jr.bipush rfl (jbp _ (nlt rfl)) ?_
        refine jr.icmp_eq rfl rfl (by first | exact rgl rfl | omega) (rgl rfl) (fun _ => ?_) (fun h => absurd (by decide) h)
        refine jr.iload rfl rfl ?_
        refine jr.if_eq rfl rfl (by first | (refine rgb (by assumption) ?_; exact rfl) | omega) (fun h90 => ?_) (fun h90 => ?_)
        · refine jr.iinc (ls' := [_, _, _, _, _, _, _]) rfl rfl (nlt rfl) rfl ?_
          refine jr.aload_n rfl rfl ?_
          obtain ⟨v5, e5⟩ : ∃ z_, M 413 7 = z_ := ⟨_, rfl⟩
          have b5 : 0 ≤ v5 ∧ v5 ≤ 1600 := by rw [← e5]; exact (CI.r hC_M (show kd 413 = 44 from rfl) (by decide) 7)
          refine jr.getf (i := 7) (x := v5) (v := .int (Int32.ofInt (v5))) rfl rfl (nlt rfl) rfl (nlt rfl) rfl rfl e5 rfl ?_
          refine jr.istore_n (ls' := [_, _, _, _, _, _, _]) rfl (nlt rfl) rfl ?_
          refine jr.iconst rfl ?_
          refine jr.istore (ls' := [_, _, _, _, _, _, _]) rfl (nlt rfl) rfl ?_
          refine jr.iinc (ls' := [_, _, _, _, _, _, _]) rfl rfl (nlt rfl) rfl ?_
          refine jr.goto rfl rfl ?_
          refine jr.pick (ls := [_, _, _, _, _, _]) [3, 2, 1, 0, 5, 6] rfl rfl ?_
          exact ih (nM - 1) (by omega) (w + 1) v5 1 (n + 1) (by omega) (by omega) (by omega) (by omega) (by have hq0 : M 413 3 = v1 := e1; omega) (by omega) (by omega) (by omega)
        · have sx90 : (1 : Int) ≤ b := by omega
          clear h90
          refine jr.iload_n rfl rfl ?_
          refine jr.aload_n rfl rfl ?_
          obtain ⟨v6, e6⟩ : ∃ z_, M 413 8 = z_ := ⟨_, rfl⟩
          have b6 : 0 ≤ v6 ∧ v6 ≤ 1600 := by rw [← e6]; exact (CI.r hC_M (show kd 413 = 44 from rfl) (by decide) 8)
          refine jr.getf (i := 8) (x := v6) (v := .int (Int32.ofInt (v6))) rfl rfl (nlt rfl) rfl (nlt rfl) rfl rfl e6 rfl ?_
          refine jr.icmp_ne rfl rfl (by first | (refine rgb (by assumption) ?_; exact rfl) | omega) (by first | (refine rgb (by assumption) ?_; exact rfl) | omega) (fun h98 => ?_) (fun h98 => ?_)
          · refine jr.iinc (ls' := [_, _, _, _, _, _, _]) rfl rfl (nlt rfl) rfl ?_
            refine jr.aload_n rfl rfl ?_
            obtain ⟨v7, e7⟩ : ∃ z_, M 413 7 = z_ := ⟨_, rfl⟩
            have b7 : 0 ≤ v7 ∧ v7 ≤ 1600 := by rw [← e7]; exact (CI.r hC_M (show kd 413 = 44 from rfl) (by decide) 7)
            refine jr.getf (i := 7) (x := v7) (v := .int (Int32.ofInt (v7))) rfl rfl (nlt rfl) rfl (nlt rfl) rfl rfl e7 rfl ?_
            refine jr.istore_n (ls' := [_, _, _, _, _, _, _]) rfl (nlt rfl) rfl ?_
            refine jr.iconst rfl ?_
            refine jr.istore (ls' := [_, _, _, _, _, _, _]) rfl (nlt rfl) rfl ?_
            refine jr.iinc (ls' := [_, _, _, _, _, _, _]) rfl rfl (nlt rfl) rfl ?_
            refine jr.goto rfl rfl ?_
            refine jr.pick (ls := [_, _, _, _, _, _]) [3, 2, 1, 0, 5, 6] rfl rfl ?_
            exact ih (nM - 1) (by omega) (w + 1) v7 1 (n + 1) (by omega) (by omega) (by omega) (by omega) (by have hq0 : M 413 3 = v1 := e1; omega) (by omega) (by omega) (by omega)
          · refine jr.iload_n rfl rfl ?_
            exact jr.ireturn rfl rfl rfl (q _ (by omega) )
      · refine jr.aload_n rfl rfl ?_
        refine jr.iload rfl rfl ?_
        refine jr_v8 rfl rfl rfl k_x ⟨Nat.le_of_ble_eq_true rfl, Nat.le_of_ble_eq_true rfl⟩ rfl (jc.deep (c_java_lang_String_charAt hC_M k_x (by omega) (by omega) (fun r8 z8  => ?_)) (by decide))
        refine jr.goto rfl rfl ?_
        refine jr.istore (ls' := [_, _, _, _, _, _, _]) rfl (nlt rfl) rfl ?_
        refine jr.iload rfl rfl ?_
        refine jr.bipush rfl (jbp _ (nlt rfl)) ?_
        refine jr.icmp_eq rfl rfl (by first | (refine rgb (by assumption) ?_; exact rfl) | omega) (rgl rfl) (fun h48 => ?_) (fun h48 => ?_)
        · refine jr.iload rfl rfl ?_
          refine jr.if_eq rfl rfl (by first | (refine rgb (by assumption) ?_; exact rfl) | omega) (fun h90 => ?_) (fun h90 => ?_)
          · refine jr.iinc (ls' := [_, _, _, _, _, _, _]) rfl rfl (nlt rfl) rfl ?_
            refine jr.aload_n rfl rfl ?_
            obtain ⟨v9, e9⟩ : ∃ z_, M 413 7 = z_ := ⟨_, rfl⟩
            have b9 : 0 ≤ v9 ∧ v9 ≤ 1600 := by rw [← e9]; exact (CI.r hC_M (show kd 413 = 44 from rfl) (by decide) 7)
            refine jr.getf (i := 7) (x := v9) (v := .int (Int32.ofInt (v9))) rfl rfl (nlt rfl) rfl (nlt rfl) rfl rfl e9 rfl ?_
            refine jr.istore_n (ls' := [_, _, _, _, _, _, _]) rfl (nlt rfl) rfl ?_
            refine jr.iconst rfl ?_
            refine jr.istore (ls' := [_, _, _, _, _, _, _]) rfl (nlt rfl) rfl ?_
            refine jr.iinc (ls' := [_, _, _, _, _, _, _]) rfl rfl (nlt rfl) rfl ?_
            refine jr.goto rfl rfl ?_
            refine jr.pick (ls := [_, _, _, _, _, _]) [3, 2, 1, 0, 5, 6] rfl rfl ?_
            exact ih (nM - 1) (by omega) (w + 1) v9 1 (n + 1) (by omega) (by omega) (by omega) (by omega) (by have hq0 : M 413 3 = v1 := e1; omega) (by omega) (by omega) (by omega)
          · have sx90 : (1 : Int) ≤ b := by omega
            clear h90
            refine jr.iload_n rfl rfl ?_
            refine jr.aload_n rfl rfl ?_
            obtain ⟨v10, e10⟩ : ∃ z_, M 413 8 = z_ := ⟨_, rfl⟩
            have b10 : 0 ≤ v10 ∧ v10 ≤ 1600 := by rw [← e10]; exact (CI.r hC_M (show kd 413 = 44 from rfl) (by decide) 8)
            refine jr.getf (i := 8) (x := v10) (v := .int (Int32.ofInt (v10))) rfl rfl (nlt rfl) rfl (nlt rfl) rfl rfl e10 rfl ?_
            refine jr.icmp_ne rfl rfl (by first | (refine rgb (by assumption) ?_; exact rfl) | omega) (by first | (refine rgb (by assumption) ?_; exact rfl) | omega) (fun h98 => ?_) (fun h98 => ?_)
            · refine jr.iinc (ls' := [_, _, _, _, _, _, _]) rfl rfl (nlt rfl) rfl ?_
              refine jr.aload_n rfl rfl ?_
              obtain ⟨v11, e11⟩ : ∃ z_, M 413 7 = z_ := ⟨_, rfl⟩
              have b11 : 0 ≤ v11 ∧ v11 ≤ 1600 := by rw [← e11]; exact (CI.r hC_M (show kd 413 = 44 from rfl) (by decide) 7)
              refine jr.getf (i := 7) (x := v11) (v := .int (Int32.ofInt (v11))) rfl rfl (nlt rfl) rfl (nlt rfl) rfl rfl e11 rfl ?_
              refine jr.istore_n (ls' := [_, _, _, _, _, _, _]) rfl (nlt rfl) rfl ?_
              refine jr.iconst rfl ?_
              refine jr.istore (ls' := [_, _, _, _, _, _, _]) rfl (nlt rfl) rfl ?_
              refine jr.iinc (ls' := [_, _, _, _, _, _, _]) rfl rfl (nlt rfl) rfl ?_
              refine jr.goto rfl rfl ?_
              refine jr.pick (ls := [_, _, _, _, _, _]) [3, 2, 1, 0, 5, 6] rfl rfl ?_
              exact ih (nM - 1) (by omega) (w + 1) v11 1 (n + 1) (by omega) (by omega) (by omega) (by omega) (by have hq0 : M 413 3 = v1 := e1; omega) (by omega) (by omega) (by omega)
            · refine jr.iload_n rfl rfl ?_
              exact jr.ireturn rfl rfl rfl (q _ (by omega) )
        · refine jr.iload rfl rfl ?_
          refine jr.if_eq rfl rfl (by first | (refine rgb (by assumption) ?_; exact rfl) | omega) (fun h53 => ?_) (fun h53 => ?_)
          · refine jr.iconst rfl ?_
            refine jr.istore (ls' := [_, _, _, _, _, _, _]) rfl (nlt rfl) rfl ?_
            refine jr.iinc (ls' := [_, _, _, _, _, _, _]) rfl rfl (nlt rfl) rfl ?_
            refine jr.goto rfl rfl ?_
            refine jr.iinc (ls' := [_, _, _, _, _, _, _]) rfl rfl (nlt rfl) rfl ?_
            refine jr.goto rfl rfl ?_
            refine jr.pick (ls := [_, _, _, _, _, _]) [4, 1, 2, 0, 5, 6] rfl rfl ?_
            exact ih (nM - 1) (by omega) w (i + 1) 0 (n + 1) (by omega) (by omega) (by omega) (by omega) (by have hq0 : M 413 3 = v1 := e1; omega) (by omega) (by omega) (by omega)
          · have sx53 : (1 : Int) ≤ b := by omega
            clear h53
            refine jr.iload_n rfl rfl ?_
            refine jr.aload_n rfl rfl ?_
            obtain ⟨v12, e12⟩ : ∃ z_, M 413 8 = z_ := ⟨_, rfl⟩
            have b12 : 0 ≤ v12 ∧ v12 ≤ 1600 := by rw [← e12]; exact (CI.r hC_M (show kd 413 = 44 from rfl) (by decide) 8)
            refine jr.getf (i := 8) (x := v12) (v := .int (Int32.ofInt (v12))) rfl rfl (nlt rfl) rfl (nlt rfl) rfl rfl e12 rfl ?_
            refine jr.icmp_ge rfl rfl (by first | (refine rgb (by assumption) ?_; exact rfl) | omega) (by first | (refine rgb (by assumption) ?_; exact rfl) | omega) (fun h61 => ?_) (fun h61 => ?_)
            · refine jr.iconst rfl ?_
              refine jr.istore (ls' := [_, _, _, _, _, _, _]) rfl (nlt rfl) rfl ?_
              refine jr.iinc (ls' := [_, _, _, _, _, _, _]) rfl rfl (nlt rfl) rfl ?_
              refine jr.goto rfl rfl ?_
              refine jr.iinc (ls' := [_, _, _, _, _, _, _]) rfl rfl (nlt rfl) rfl ?_
              refine jr.goto rfl rfl ?_
              refine jr.pick (ls := [_, _, _, _, _, _]) [4, 1, 2, 0, 5, 6] rfl rfl ?_
              exact ih (nM - 1) (by omega) w (i + 1) 0 (n + 1) (by omega) (by omega) (by omega) (by omega) (by have hq0 : M 413 3 = v1 := e1; omega) (by omega) (by omega) (by omega)
            · refine jr.aload_n rfl rfl ?_
              have k13 : kd (v1).toNat = 43 := by rcases (show v1 = 1 by omega) with h <;> (rw [h]; rfl)
              refine jr.getf (i := 3) (x := v1) (v := .ref (v1.toNat)) rfl rfl (nlt rfl) rfl (nlt rfl) rfl rfl e1 rfl ?_
              refine jr.iload_n rfl rfl ?_
              obtain ⟨v14, e14⟩ : ∃ z_, M ((v1.toNat)) i = z_ := ⟨_, rfl⟩
              have b14 : 0 ≤ v14 ∧ v14 ≤ 255 := by rw [← e14]; exact (CI.r hC_M k13 (by decide) i)
              refine jr.iald (i := i) (x := v14) rfl (Nat.lt_trans (kx_43 k13).1 (by decide)) (kx_43 k13).2 (by decide) (by omega) (by omega) e14 ?_
              refine jr.iload rfl rfl ?_
              refine jr.icmp_ne rfl rfl (by first | (refine rgb (by assumption) ?_; exact rfl) | omega) (by first | (refine rgb (by assumption) ?_; exact rfl) | omega) (fun h72 => ?_) (fun h72 => ?_)
              · refine jr.iconst rfl ?_
                refine jr.istore (ls' := [_, _, _, _, _, _, _]) rfl (nlt rfl) rfl ?_
                refine jr.iinc (ls' := [_, _, _, _, _, _, _]) rfl rfl (nlt rfl) rfl ?_
                refine jr.goto rfl rfl ?_
                refine jr.iinc (ls' := [_, _, _, _, _, _, _]) rfl rfl (nlt rfl) rfl ?_
                refine jr.goto rfl rfl ?_
                refine jr.pick (ls := [_, _, _, _, _, _]) [4, 1, 2, 0, 5, 6] rfl rfl ?_
                exact ih (nM - 1) (by omega) w (i + 1) 0 (n + 1) (by omega) (by omega) (by omega) (by omega) (by have hq0 : M 413 3 = v1 := e1; omega) (by omega) (by omega) (by omega)
              · refine jr.iconst rfl ?_
                refine jr.goto rfl rfl ?_
                refine jr.istore (ls' := [_, _, _, _, _, _, _]) rfl (nlt rfl) rfl ?_
                refine jr.iinc (ls' := [_, _, _, _, _, _, _]) rfl rfl (nlt rfl) rfl ?_
                refine jr.goto rfl rfl ?_
                refine jr.iinc (ls' := [_, _, _, _, _, _, _]) rfl rfl (nlt rfl) rfl ?_
                refine jr.goto rfl rfl ?_
                refine jr.pick (ls := [_, _, _, _, _, _]) [4, 1, 2, 0, 5, 6] rfl rfl ?_
                exact ih (nM - 1) (by omega) w (i + 1) 1 (n + 1) (by omega) (by omega) (by omega) (by omega) (by have hq0 : M 413 3 = v1 := e1; omega) (by omega) (by omega) (by omega)
theorem c_Parser_wordIn {A : Nat → Option (Nat × (Nat → Int32))} [HA A] {Q : Option Value → jm → Prop} {M : jm} (hC_M : CI M) {x : Nat} (k_x : sK x = true) (p0 : 1 ≤ M 413 3 ∧ M 413 3 ≤ 1) (q : ∀ (r : Int), (-1) ≤ r ∧ r ≤ 301 → Q (some (.int (Int32.ofInt r))) M) : jc A 5 214 [.ref (413), .ref (x)] M Q := by
  refine jc_of (m := xm_214) rfl (Nat.le_of_ble_eq_true rfl) rfl ?_
  obtain ⟨v1, e1⟩ : ∃ z_, M 413 3 = z_ := ⟨_, rfl⟩
  have b1 : 1 ≤ v1 ∧ v1 ≤ 419 := by rw [← e1]; exact (CI.r hC_M (show kd 413 = 44 from rfl) (by decide) 3)
  have b2 : 1 ≤ v1 ∧ v1 ≤ 1 := by rw [← e1]; exact p0
  refine jr.iconst rfl ?_
  refine jr.istore_n (ls' := [_, _, _]) rfl (nlt rfl) rfl ?_
  refine jr.aload_n rfl rfl ?_
  obtain ⟨v3, e3⟩ : ∃ z_, M 413 7 = z_ := ⟨_, rfl⟩
  have b3 : 0 ≤ v3 ∧ v3 ≤ 1600 := by rw [← e3]; exact (CI.r hC_M (show kd 413 = 44 from rfl) (by decide) 7)
  refine jr.getf (i := 7) (x := v3) (v := .int (Int32.ofInt (v3))) rfl rfl (nlt rfl) rfl (nlt rfl) rfl rfl e3 rfl ?_
  refine jr.istore_n (ls' := [_, _, _, _]) rfl (nlt rfl) rfl ?_
  refine jr.iconst rfl ?_
  refine jr.istore (ls' := [_, _, _, _, _]) rfl (nlt rfl) rfl ?_
  refine jr.iconst rfl ?_
  refine jr.istore (ls' := [_, _, _, _, _, _]) rfl (nlt rfl) rfl ?_
  refine jr.pick (ls := [_, _, _, _, _, _]) [3, 2, 1, 0, 4, 5] rfl rfl ?_
  exact c_Parser_wordIn_L13 hC_M k_x q 301 0 v3 1 0 (by omega) (by omega) (by omega) (by omega) (by have hq0 : M 413 3 = v1 := e1; omega) (by omega) (by omega) (by omega)
theorem c_Parser_fieldWords {A : Nat → Option (Nat × (Nat → Int32))} [HA A] {Q : Option Value → jm → Prop} {M : jm} (hC_M : CI M) {x : Int} (h_x : (-2147483648) ≤ x ∧ x ≤ 2147483647) (q : ∀ (r : Nat), sK r = true → Q (some (.ref r)) M) : jc A 1 213 [.int (Int32.ofInt (x))] M Q := by
  refine jc_of (m := xm_213) rfl (Nat.le_of_ble_eq_true rfl) rfl ?_
  refine jr.iload_n rfl rfl ?_
  rcases (show x = 0 ∨ x = 1 ∨ x = 2 ∨ x = 3 ∨ x = 4 ∨ x = 5 ∨ x = 6 ∨ x = 7 ∨ x = 8 ∨ x = 9 ∨ x = 10 ∨ x = 11 ∨ x = 12 ∨ (x ≠ 0 ∧ x ≠ 1 ∧ x ≠ 2 ∧ x ≠ 3 ∧ x ≠ 4 ∧ x ≠ 5 ∧ x ≠ 6 ∧ x ≠ 7 ∧ x ≠ 8 ∧ x ≠ 9 ∧ x ≠ 10 ∧ x ≠ 11 ∧ x ≠ 12) by omega) with h1 | h1 | h1 | h1 | h1 | h1 | h1 | h1 | h1 | h1 | h1 | h1 | h1 | h1
  · refine jr.tsw_k 0 rfl h1 rfl ?_
    refine jr.ldcs (a := 1000102) rfl rfl ?_
    exact jr_ret rfl rfl (q _ (show sK 1000102 = true from rfl) )
  · refine jr.tsw_k 1 rfl h1 rfl ?_
    refine jr.ldcs (a := 1000103) rfl rfl ?_
    exact jr_ret rfl rfl (q _ (show sK 1000103 = true from rfl) )
  · refine jr.tsw_k 2 rfl h1 rfl ?_
    refine jr.ldcs (a := 1000104) rfl rfl ?_
    exact jr_ret rfl rfl (q _ (show sK 1000104 = true from rfl) )
  · refine jr.tsw_k 3 rfl h1 rfl ?_
    refine jr.ldcs (a := 1000105) rfl rfl ?_
    exact jr_ret rfl rfl (q _ (show sK 1000105 = true from rfl) )
  · refine jr.tsw_k 4 rfl h1 rfl ?_
    refine jr.ldcs (a := 1000106) rfl rfl ?_
    exact jr_ret rfl rfl (q _ (show sK 1000106 = true from rfl) )
  · refine jr.tsw_k 5 rfl h1 rfl ?_
    refine jr.ldcs (a := 1000107) rfl rfl ?_
    exact jr_ret rfl rfl (q _ (show sK 1000107 = true from rfl) )
  · refine jr.tsw_k 6 rfl h1 rfl ?_
    refine jr.ldcs (a := 1000108) rfl rfl ?_
    exact jr_ret rfl rfl (q _ (show sK 1000108 = true from rfl) )
  · refine jr.tsw_k 7 rfl h1 rfl ?_
    refine jr.ldcs (a := 1000109) rfl rfl ?_
    exact jr_ret rfl rfl (q _ (show sK 1000109 = true from rfl) )
  · refine jr.tsw_k 8 rfl h1 rfl ?_
    refine jr.ldcs (a := 1000110) rfl rfl ?_
    exact jr_ret rfl rfl (q _ (show sK 1000110 = true from rfl) )
  · refine jr.tsw_k 9 rfl h1 rfl ?_
    refine jr.ldcs (a := 1000111) rfl rfl ?_
    exact jr_ret rfl rfl (q _ (show sK 1000111 = true from rfl) )
  · refine jr.tsw_k 10 rfl h1 rfl ?_
    refine jr.ldcs (a := 1000112) rfl rfl ?_
    exact jr_ret rfl rfl (q _ (show sK 1000112 = true from rfl) )
  · refine jr.tsw_k 11 rfl h1 rfl ?_
    refine jr.ldcs (a := 1000113) rfl rfl ?_
    exact jr_ret rfl rfl (q _ (show sK 1000113 = true from rfl) )
  · refine jr.tsw_k 12 rfl h1 rfl ?_
    refine jr.ldcs (a := 1000114) rfl rfl ?_
    exact jr_ret rfl rfl (q _ (show sK 1000114 = true from rfl) )
  · refine jr.tsw_d rfl (by omega) (by omega) rfl ?_
    refine jr.ldcs (a := 1000115) rfl rfl ?_
    exact jr_ret rfl rfl (q _ (show sK 1000115 = true from rfl) )
noncomputable def W_c_Parser_takeNumber : List (Nat × Nat) := [(44, 6), (44, 8), (44, 9)]
theorem c_Parser_takeNumber_L5 {A : Nat → Option (Nat × (Nat → Int32))} [HA A] {Q : Option Value → jm → Prop} {T : jm} (q : ∀ (M' : jm), CI M' → FR W_c_Parser_takeNumber T M' → Q none M') : ∀ (nM : Nat) (M : jm), CI M → FR W_c_Parser_takeNumber T M → (1 ≤ M 413 3 ∧ M 413 3 ≤ 1) → 1600 - M 413 8 ≤ nM → jr A 1 xm_216 5 [(0, .ref (413))] [] M Q := by
  intro nM
  induction nM using Nat.strongRecOn with
  | ind nM ih =>
    intro M  hC_M ht_M  hy0 hm
    obtain ⟨v1, e1⟩ : ∃ z_, M 413 8 = z_ := ⟨_, rfl⟩
    have b1 : 0 ≤ v1 ∧ v1 ≤ 1600 := by rw [← e1]; exact (CI.r hC_M (show kd 413 = 44 from rfl) (by decide) 8)
    obtain ⟨v2, e2⟩ : ∃ z_, M 413 3 = z_ := ⟨_, rfl⟩
    have b2 : 1 ≤ v2 ∧ v2 ≤ 419 := by rw [← e2]; exact (CI.r hC_M (show kd 413 = 44 from rfl) (by decide) 3)
    have b3 : 1 ≤ v2 ∧ v2 ≤ 1 := by rw [← e2]; exact hy0
    refine jr.aload_n rfl rfl ?_
    refine jr.getf (i := 8) (x := v1) (v := .int (Int32.ofInt (v1))) rfl rfl (nlt rfl) rfl (nlt rfl) rfl rfl e1 rfl ?_
    refine jr.aload_n rfl rfl ?_
    obtain ⟨v4, e4⟩ : ∃ z_, M 413 4 = z_ := ⟨_, rfl⟩
    have b4 : 0 ≤ v4 ∧ v4 ≤ 1600 := by rw [← e4]; exact (CI.r hC_M (show kd 413 = 44 from rfl) (by decide) 4)
    refine jr.getf (i := 4) (x := v4) (v := .int (Int32.ofInt (v4))) rfl rfl (nlt rfl) rfl (nlt rfl) rfl rfl e4 rfl ?_
    refine jr.icmp_ge rfl rfl (by first | (refine rgb (by assumption) ?_; exact rfl) | omega) (by first | (refine rgb (by assumption) ?_; exact rfl) | omega) (fun h13 => ?_) (fun h13 => ?_)
    · refine jr.aload_n rfl rfl ?_
      refine jr.aload_n rfl rfl ?_
      refine jr.getf (i := 8) (x := v1) (v := .int (Int32.ofInt (v1))) rfl rfl (nlt rfl) rfl (nlt rfl) rfl rfl e1 rfl ?_
      refine jr.aload_n rfl rfl ?_
      obtain ⟨v5, e5⟩ : ∃ z_, M 413 7 = z_ := ⟨_, rfl⟩
      have b5 : 0 ≤ v5 ∧ v5 ≤ 1600 := by rw [← e5]; exact (CI.r hC_M (show kd 413 = 44 from rfl) (by decide) 7)
      refine jr.getf (i := 7) (x := v5) (v := .int (Int32.ofInt (v5))) rfl rfl (nlt rfl) rfl (nlt rfl) rfl rfl e5 rfl ?_
      refine jr.isub rfl ?_
      refine jr.bipush rfl (jbp _ (nlt rfl)) ?_
      refine jr.icmp_le rfl rfl (by first | (refine rgb (by assumption) ?_; exact rfl) | omega) (rgl rfl) (fun h78 => ?_) (fun h78 => ?_)
      · refine jr.iconst rfl ?_
        refine jr.putf (i := 6) (x := 2) rfl rfl (nlt rfl) rfl (nlt rfl) rfl rfl rfl rfl rfl ?_
        exact jr.vreturn rfl rfl (q _ (CI.u hC_M (i := 6) (show kd 413 = 44 from rfl) (show (-2147483648 : Int) ≤ _ ∧ _ ≤ (2147483647 : Int) from by omega) rfl) (FR.o ht_M (show kd 413 = 44 from rfl) rfl)  )
      · refine jr.iconst rfl ?_
        refine jr.goto rfl rfl ?_
        refine jr.putf (i := 6) (x := 4) rfl rfl (nlt rfl) rfl (nlt rfl) rfl rfl rfl rfl rfl ?_
        exact jr.vreturn rfl rfl (q _ (CI.u hC_M (i := 6) (show kd 413 = 44 from rfl) (show (-2147483648 : Int) ≤ _ ∧ _ ≤ (2147483647 : Int) from by omega) rfl) (FR.o ht_M (show kd 413 = 44 from rfl) rfl)  )
    · refine jr.aload_n rfl rfl ?_
      refine jr.aload_n rfl rfl ?_
      refine jr.getf (i := 8) (x := v1) (v := .int (Int32.ofInt (v1))) rfl rfl (nlt rfl) rfl (nlt rfl) rfl rfl e1 rfl ?_
      refine jr_v rfl rfl (Or.inl rfl) rfl rfl (nlt rfl) rfl ⟨rfl, Nat.le_of_ble_eq_true rfl, Nat.le_of_ble_eq_true rfl⟩ rfl (jc.deep (c_Parser_isDigitAt hC_M (by omega) (by have hq0 : M 413 3 = v2 := e2; omega) (fun r6 z6  => ?_)) (Nat.le_of_ble_eq_true rfl))
      refine jr.if_eq rfl rfl (by first | (refine rgb (by assumption) ?_; exact rfl) | omega) (fun h24 => ?_) (fun h24 => ?_)
      · refine jr.aload_n rfl rfl ?_
        refine jr.aload_n rfl rfl ?_
        refine jr.getf (i := 8) (x := v1) (v := .int (Int32.ofInt (v1))) rfl rfl (nlt rfl) rfl (nlt rfl) rfl rfl e1 rfl ?_
        refine jr.aload_n rfl rfl ?_
        obtain ⟨v7, e7⟩ : ∃ z_, M 413 7 = z_ := ⟨_, rfl⟩
        have b7 : 0 ≤ v7 ∧ v7 ≤ 1600 := by rw [← e7]; exact (CI.r hC_M (show kd 413 = 44 from rfl) (by decide) 7)
        refine jr.getf (i := 7) (x := v7) (v := .int (Int32.ofInt (v7))) rfl rfl (nlt rfl) rfl (nlt rfl) rfl rfl e7 rfl ?_
        refine jr.isub rfl ?_
        refine jr.bipush rfl (jbp _ (nlt rfl)) ?_
        refine jr.icmp_le rfl rfl (by first | (refine rgb (by assumption) ?_; exact rfl) | omega) (rgl rfl) (fun h78 => ?_) (fun h78 => ?_)
        · refine jr.iconst rfl ?_
          refine jr.putf (i := 6) (x := 2) rfl rfl (nlt rfl) rfl (nlt rfl) rfl rfl rfl rfl rfl ?_
          exact jr.vreturn rfl rfl (q _ (CI.u hC_M (i := 6) (show kd 413 = 44 from rfl) (show (-2147483648 : Int) ≤ _ ∧ _ ≤ (2147483647 : Int) from by omega) rfl) (FR.o ht_M (show kd 413 = 44 from rfl) rfl)  )
        · refine jr.iconst rfl ?_
          refine jr.goto rfl rfl ?_
          refine jr.putf (i := 6) (x := 4) rfl rfl (nlt rfl) rfl (nlt rfl) rfl rfl rfl rfl rfl ?_
          exact jr.vreturn rfl rfl (q _ (CI.u hC_M (i := 6) (show kd 413 = 44 from rfl) (show (-2147483648 : Int) ≤ _ ∧ _ ≤ (2147483647 : Int) from by omega) rfl) (FR.o ht_M (show kd 413 = 44 from rfl) rfl)  )
      · have sx24 : (1 : Int) ≤ r6 := by omega
        clear h24
        refine jr.aload_n rfl rfl ?_
        refine jr.aload_n rfl rfl ?_
        obtain ⟨v8, e8⟩ : ∃ z_, M 413 9 = z_ := ⟨_, rfl⟩
        have b8 : (-9223372036854775808) ≤ v8 ∧ v8 ≤ 9223372036854775807 := by rw [← e8]; exact (CI.r hC_M (show kd 413 = 44 from rfl) (by decide) 9)
        refine jr.getf (i := 9) (x := v8) (v := .long (Int64.ofInt (v8))) rfl rfl (nlt rfl) rfl (nlt rfl) rfl rfl e8 rfl ?_
        refine jr.ldc2 (x := 10) rfl rfl (by decide) ?_
        refine jr.lmul rfl ?_
        refine jr.lw (jl_w (v8 * 10)) (jl_w_eq _) ?_
        have b9 : -9223372036854775808 ≤ jl_w (v8 * 10) ∧ jl_w (v8 * 10) ≤ 9223372036854775807 := jbl_any _
        generalize jl_w (v8 * 10) = v9 at b9 ⊢
        refine jr.aload_n rfl rfl ?_
        have k10 : kd (v2).toNat = 43 := by rcases (show v2 = 1 by omega) with h <;> (rw [h]; rfl)
        refine jr.getf (i := 3) (x := v2) (v := .ref (v2.toNat)) rfl rfl (nlt rfl) rfl (nlt rfl) rfl rfl e2 rfl ?_
        refine jr.aload_n rfl rfl ?_
        refine jr.getf (i := 8) (x := v1) (v := .int (Int32.ofInt (v1))) rfl rfl (nlt rfl) rfl (nlt rfl) rfl rfl e1 rfl ?_
        obtain ⟨v11, e11⟩ : ∃ z_, M ((v2.toNat)) v1 = z_ := ⟨_, rfl⟩
        have b11 : 0 ≤ v11 ∧ v11 ≤ 255 := by rw [← e11]; exact (CI.r hC_M k10 (by decide) v1)
        refine jr.iald (i := v1) (x := v11) rfl (Nat.lt_trans (kx_43 k10).1 (by decide)) (kx_43 k10).2 (by decide) (by omega) (by omega) e11 ?_
        refine jr.bipush rfl (jbp _ (nlt rfl)) ?_
        refine jr.isub rfl ?_
        refine jr.i2l rfl (by omega) ?_
        refine jr.ladd rfl ?_
        refine jr.lw (jl_w (v9 + (v11 - 48))) (jl_w_eq _) ?_
        have b12 : -9223372036854775808 ≤ jl_w (v9 + (v11 - 48)) ∧ jl_w (v9 + (v11 - 48)) ≤ 9223372036854775807 := jbl_any _
        generalize jl_w (v9 + (v11 - 48)) = v12 at b12 ⊢
        refine jr.putf (i := 9) (x := v12) rfl rfl (nlt rfl) rfl (nlt rfl) rfl rfl rfl rfl rfl ?_
        refine jr.aload_n rfl rfl ?_
        refine jr.dup rfl rfl ?_
        refine jr.getf (i := 8) (x := v1) (v := .int (Int32.ofInt (v1))) rfl rfl (nlt rfl) rfl (nlt rfl) rfl rfl ((ju_i _ _ (zne (by decide))).trans e1) rfl ?_
        refine jr.iconst rfl ?_
        refine jr.iadd rfl ?_
        refine jr.putf (i := 8) (x := (v1 + 1)) rfl rfl (nlt rfl) rfl (nlt rfl) rfl rfl rfl rfl rfl ?_
        refine jr.goto rfl rfl ?_
        refine jr.pick (ls := [_]) [0] rfl rfl ?_
        exact ih (nM - 1) (by omega) ((ju (ju M 413 9 v12) 413 8 (v1 + 1)))  (CI.u (CI.u hC_M (i := 9) (show kd 413 = 44 from rfl) (show (-9223372036854775808 : Int) ≤ _ ∧ _ ≤ (9223372036854775807 : Int) from by omega) rfl) (i := 8) (show kd 413 = 44 from rfl) (show (0 : Int) ≤ _ ∧ _ ≤ (1600 : Int) from by omega) rfl) (FR.o (FR.o ht_M (show kd 413 = 44 from rfl) rfl) (show kd 413 = 44 from rfl) rfl)  (by have hq0 : (ju (ju M 413 9 v12) 413 8 (v1 + 1)) 413 3 = v2 := ((ju_i _ _ (zne (by decide))).trans ((ju_i _ _ (zne (by decide))).trans e2)); omega) (by have hq0 : (ju (ju M 413 9 v12) 413 8 (v1 + 1)) 413 8 = v1 + 1 := (ju_same _ _ _ _); omega)
theorem c_Parser_takeNumber {A : Nat → Option (Nat × (Nat → Int32))} [HA A] {Q : Option Value → jm → Prop} {T : jm} {M : jm} (hC_M : CI M) (ht_M : FR W_c_Parser_takeNumber T M) (p0 : 1 ≤ M 413 3 ∧ M 413 3 ≤ 1) (q : ∀ (M' : jm), CI M' → FR W_c_Parser_takeNumber T M' → Q none M') : jc A 2 216 [.ref (413)] M Q := by
  refine jc_of (m := xm_216) rfl (Nat.le_of_ble_eq_true rfl) rfl ?_
  obtain ⟨v1, e1⟩ : ∃ z_, M 413 3 = z_ := ⟨_, rfl⟩
  have b1 : 1 ≤ v1 ∧ v1 ≤ 419 := by rw [← e1]; exact (CI.r hC_M (show kd 413 = 44 from rfl) (by decide) 3)
  have b2 : 1 ≤ v1 ∧ v1 ≤ 1 := by rw [← e1]; exact p0
  refine jr.aload_n rfl rfl ?_
  refine jr.lconst (x := 0) rfl (by decide) ?_
  refine jr.putf (i := 9) (x := 0) rfl rfl (nlt rfl) rfl (nlt rfl) rfl rfl rfl rfl rfl ?_
  refine jr.pick (ls := [_]) [0] rfl rfl ?_
  obtain ⟨v3, e3⟩ : ∃ z_, M 413 8 = z_ := ⟨_, rfl⟩
  have b3 : 0 ≤ v3 ∧ v3 ≤ 1600 := by rw [← e3]; exact (CI.r hC_M (show kd 413 = 44 from rfl) (by decide) 8)
  exact c_Parser_takeNumber_L5  q 1600 ((ju M 413 9 0))  (CI.u hC_M (i := 9) (show kd 413 = 44 from rfl) (show (-9223372036854775808 : Int) ≤ _ ∧ _ ≤ (9223372036854775807 : Int) from by omega) rfl) (FR.o ht_M (show kd 413 = 44 from rfl) rfl)  (by have hq0 : (ju M 413 9 0) 413 3 = v1 := ((ju_i _ _ (zne (by decide))).trans e1); omega) (by have hq0 : (ju M 413 9 0) 413 8 = v3 := ((ju_i _ _ (zne (by decide))).trans e3); omega)
noncomputable def W_c_Parser_advance : List (Nat × Nat) := [(44, 6), (44, 7), (44, 8), (44, 9), (44, 10), (44, 11)]
theorem c_Parser_advance_L83 {A : Nat → Option (Nat × (Nat → Int32))} [HA A] {Q : Option Value → jm → Prop} {T : jm} (q : ∀ (M' : jm), CI M' → FR W_c_Parser_advance T M' → Q none M') : ∀ (nM : Nat) (M : jm), CI M → FR W_c_Parser_advance T M → (1 ≤ M 413 3 ∧ M 413 3 ≤ 1) → 1600 - M 413 8 ≤ nM → jr A 5 xm_215 83 [(0, .ref (413))] [] M Q := by
  intro nM
  induction nM using Nat.strongRecOn with
  | ind nM ih =>
    intro M  hC_M ht_M  hy0 hm
    obtain ⟨v1, e1⟩ : ∃ z_, M 413 8 = z_ := ⟨_, rfl⟩
    have b1 : 0 ≤ v1 ∧ v1 ≤ 1600 := by rw [← e1]; exact (CI.r hC_M (show kd 413 = 44 from rfl) (by decide) 8)
    obtain ⟨v2, e2⟩ : ∃ z_, M 413 3 = z_ := ⟨_, rfl⟩
    have b2 : 1 ≤ v2 ∧ v2 ≤ 419 := by rw [← e2]; exact (CI.r hC_M (show kd 413 = 44 from rfl) (by decide) 3)
    have b3 : 1 ≤ v2 ∧ v2 ≤ 1 := by rw [← e2]; exact hy0
    refine jr.aload_n rfl rfl ?_
    refine jr.getf (i := 8) (x := v1) (v := .int (Int32.ofInt (v1))) rfl rfl (nlt rfl) rfl (nlt rfl) rfl rfl e1 rfl ?_
    refine jr.aload_n rfl rfl ?_
    obtain ⟨v4, e4⟩ : ∃ z_, M 413 4 = z_ := ⟨_, rfl⟩
    have b4 : 0 ≤ v4 ∧ v4 ≤ 1600 := by rw [← e4]; exact (CI.r hC_M (show kd 413 = 44 from rfl) (by decide) 4)
    refine jr.getf (i := 4) (x := v4) (v := .int (Int32.ofInt (v4))) rfl rfl (nlt rfl) rfl (nlt rfl) rfl rfl e4 rfl ?_
    refine jr.icmp_ge rfl rfl (by first | (refine rgb (by assumption) ?_; exact rfl) | omega) (by first | (refine rgb (by assumption) ?_; exact rfl) | omega) (fun h91 => ?_) (fun h91 => ?_)
    · refine jr.aload_n rfl rfl ?_
      refine jr.aload_n rfl rfl ?_
      refine jr.getf (i := 8) (x := v1) (v := .int (Int32.ofInt (v1))) rfl rfl (nlt rfl) rfl (nlt rfl) rfl rfl e1 rfl ?_
      refine jr.aload_n rfl rfl ?_
      obtain ⟨v5, e5⟩ : ∃ z_, M 413 7 = z_ := ⟨_, rfl⟩
      have b5 : 0 ≤ v5 ∧ v5 ≤ 1600 := by rw [← e5]; exact (CI.r hC_M (show kd 413 = 44 from rfl) (by decide) 7)
      refine jr.getf (i := 7) (x := v5) (v := .int (Int32.ofInt (v5))) rfl rfl (nlt rfl) rfl (nlt rfl) rfl rfl e5 rfl ?_
      refine jr.isub rfl ?_
      refine jr.bipush rfl (jbp _ (nlt rfl)) ?_
      refine jr.icmp_le rfl rfl (by first | (refine rgb (by assumption) ?_; exact rfl) | omega) (rgl rfl) (fun h130 => ?_) (fun h130 => ?_)
      · refine jr.iconst rfl ?_
        refine jr.putf (i := 6) (x := 1) rfl rfl (nlt rfl) rfl (nlt rfl) rfl rfl rfl rfl rfl ?_
        refine jr.aload_n rfl rfl ?_
        refine jr.aload_n rfl rfl ?_
        refine jr.ldcs (a := 1000100) rfl rfl ?_
        refine jr_v rfl rfl (Or.inl rfl) rfl rfl (nlt rfl) rfl ⟨rfl, Nat.le_of_ble_eq_true rfl, Nat.le_of_ble_eq_true rfl⟩ rfl (jc.deep (c_Parser_wordIn (CI.u hC_M (i := 6) (show kd 413 = 44 from rfl) (show (-2147483648 : Int) ≤ _ ∧ _ ≤ (2147483647 : Int) from by omega) rfl) (show sK 1000100 = true from rfl) (by have hq0 : (ju M 413 6 1) 413 3 = v2 := ((ju_i _ _ (zne (by decide))).trans e2); omega) (fun r6 z6  => ?_)) (Nat.le_of_ble_eq_true rfl))
        refine jr.putf (i := 10) (x := r6) rfl rfl (nlt rfl) rfl (nlt rfl) rfl rfl rfl rfl rfl ?_
        refine jr.goto rfl rfl ?_
        exact jr.vreturn rfl rfl (q _ (CI.u (CI.u hC_M (i := 6) (show kd 413 = 44 from rfl) (show (-2147483648 : Int) ≤ _ ∧ _ ≤ (2147483647 : Int) from by omega) rfl) (i := 10) (show kd 413 = 44 from rfl) (show (-2147483648 : Int) ≤ _ ∧ _ ≤ (2147483647 : Int) from by omega) rfl) (FR.o (FR.o ht_M (show kd 413 = 44 from rfl) rfl) (show kd 413 = 44 from rfl) rfl)  )
      · refine jr.iconst rfl ?_
        refine jr.goto rfl rfl ?_
        refine jr.putf (i := 6) (x := 4) rfl rfl (nlt rfl) rfl (nlt rfl) rfl rfl rfl rfl rfl ?_
        refine jr.aload_n rfl rfl ?_
        refine jr.aload_n rfl rfl ?_
        refine jr.ldcs (a := 1000100) rfl rfl ?_
        refine jr_v rfl rfl (Or.inl rfl) rfl rfl (nlt rfl) rfl ⟨rfl, Nat.le_of_ble_eq_true rfl, Nat.le_of_ble_eq_true rfl⟩ rfl (jc.deep (c_Parser_wordIn (CI.u hC_M (i := 6) (show kd 413 = 44 from rfl) (show (-2147483648 : Int) ≤ _ ∧ _ ≤ (2147483647 : Int) from by omega) rfl) (show sK 1000100 = true from rfl) (by have hq0 : (ju M 413 6 4) 413 3 = v2 := ((ju_i _ _ (zne (by decide))).trans e2); omega) (fun r7 z7  => ?_)) (Nat.le_of_ble_eq_true rfl))
        refine jr.putf (i := 10) (x := r7) rfl rfl (nlt rfl) rfl (nlt rfl) rfl rfl rfl rfl rfl ?_
        refine jr.goto rfl rfl ?_
        exact jr.vreturn rfl rfl (q _ (CI.u (CI.u hC_M (i := 6) (show kd 413 = 44 from rfl) (show (-2147483648 : Int) ≤ _ ∧ _ ≤ (2147483647 : Int) from by omega) rfl) (i := 10) (show kd 413 = 44 from rfl) (show (-2147483648 : Int) ≤ _ ∧ _ ≤ (2147483647 : Int) from by omega) rfl) (FR.o (FR.o ht_M (show kd 413 = 44 from rfl) rfl) (show kd 413 = 44 from rfl) rfl)  )
    · refine jr.aload_n rfl rfl ?_
      refine jr.aload_n rfl rfl ?_
      refine jr.getf (i := 8) (x := v1) (v := .int (Int32.ofInt (v1))) rfl rfl (nlt rfl) rfl (nlt rfl) rfl rfl e1 rfl ?_
      refine jr_v rfl rfl (Or.inl rfl) rfl rfl (nlt rfl) rfl ⟨rfl, Nat.le_of_ble_eq_true rfl, Nat.le_of_ble_eq_true rfl⟩ rfl (jc.deep (c_Parser_letterAt hC_M (by omega) (by have hq0 : M 413 3 = v2 := e2; omega) (fun r8 z8  => ?_)) (Nat.le_of_ble_eq_true rfl))
      refine jr.if_eq rfl rfl (by first | (refine rgb (by assumption) ?_; exact rfl) | omega) (fun h102 => ?_) (fun h102 => ?_)
      · refine jr.aload_n rfl rfl ?_
        refine jr.aload_n rfl rfl ?_
        refine jr.getf (i := 8) (x := v1) (v := .int (Int32.ofInt (v1))) rfl rfl (nlt rfl) rfl (nlt rfl) rfl rfl e1 rfl ?_
        refine jr.aload_n rfl rfl ?_
        obtain ⟨v9, e9⟩ : ∃ z_, M 413 7 = z_ := ⟨_, rfl⟩
        have b9 : 0 ≤ v9 ∧ v9 ≤ 1600 := by rw [← e9]; exact (CI.r hC_M (show kd 413 = 44 from rfl) (by decide) 7)
        refine jr.getf (i := 7) (x := v9) (v := .int (Int32.ofInt (v9))) rfl rfl (nlt rfl) rfl (nlt rfl) rfl rfl e9 rfl ?_
        refine jr.isub rfl ?_
        refine jr.bipush rfl (jbp _ (nlt rfl)) ?_
        refine jr.icmp_le rfl rfl (by first | (refine rgb (by assumption) ?_; exact rfl) | omega) (rgl rfl) (fun h130 => ?_) (fun h130 => ?_)
        · refine jr.iconst rfl ?_
          refine jr.putf (i := 6) (x := 1) rfl rfl (nlt rfl) rfl (nlt rfl) rfl rfl rfl rfl rfl ?_
          refine jr.aload_n rfl rfl ?_
          refine jr.aload_n rfl rfl ?_
          refine jr.ldcs (a := 1000100) rfl rfl ?_
          refine jr_v rfl rfl (Or.inl rfl) rfl rfl (nlt rfl) rfl ⟨rfl, Nat.le_of_ble_eq_true rfl, Nat.le_of_ble_eq_true rfl⟩ rfl (jc.deep (c_Parser_wordIn (CI.u hC_M (i := 6) (show kd 413 = 44 from rfl) (show (-2147483648 : Int) ≤ _ ∧ _ ≤ (2147483647 : Int) from by omega) rfl) (show sK 1000100 = true from rfl) (by have hq0 : (ju M 413 6 1) 413 3 = v2 := ((ju_i _ _ (zne (by decide))).trans e2); omega) (fun r10 z10  => ?_)) (Nat.le_of_ble_eq_true rfl))
          refine jr.putf (i := 10) (x := r10) rfl rfl (nlt rfl) rfl (nlt rfl) rfl rfl rfl rfl rfl ?_
          refine jr.goto rfl rfl ?_
          exact jr.vreturn rfl rfl (q _ (CI.u (CI.u hC_M (i := 6) (show kd 413 = 44 from rfl) (show (-2147483648 : Int) ≤ _ ∧ _ ≤ (2147483647 : Int) from by omega) rfl) (i := 10) (show kd 413 = 44 from rfl) (show (-2147483648 : Int) ≤ _ ∧ _ ≤ (2147483647 : Int) from by omega) rfl) (FR.o (FR.o ht_M (show kd 413 = 44 from rfl) rfl) (show kd 413 = 44 from rfl) rfl)  )
        · refine jr.iconst rfl ?_
          refine jr.goto rfl rfl ?_
          refine jr.putf (i := 6) (x := 4) rfl rfl (nlt rfl) rfl (nlt rfl) rfl rfl rfl rfl rfl ?_
          refine jr.aload_n rfl rfl ?_
          refine jr.aload_n rfl rfl ?_
          refine jr.ldcs (a := 1000100) rfl rfl ?_
          refine jr_v rfl rfl (Or.inl rfl) rfl rfl (nlt rfl) rfl ⟨rfl, Nat.le_of_ble_eq_true rfl, Nat.le_of_ble_eq_true rfl⟩ rfl (jc.deep (c_Parser_wordIn (CI.u hC_M (i := 6) (show kd 413 = 44 from rfl) (show (-2147483648 : Int) ≤ _ ∧ _ ≤ (2147483647 : Int) from by omega) rfl) (show sK 1000100 = true from rfl) (by have hq0 : (ju M 413 6 4) 413 3 = v2 := ((ju_i _ _ (zne (by decide))).trans e2); omega) (fun r11 z11  => ?_)) (Nat.le_of_ble_eq_true rfl))
          refine jr.putf (i := 10) (x := r11) rfl rfl (nlt rfl) rfl (nlt rfl) rfl rfl rfl rfl rfl ?_
          refine jr.goto rfl rfl ?_
          exact jr.vreturn rfl rfl (q _ (CI.u (CI.u hC_M (i := 6) (show kd 413 = 44 from rfl) (show (-2147483648 : Int) ≤ _ ∧ _ ≤ (2147483647 : Int) from by omega) rfl) (i := 10) (show kd 413 = 44 from rfl) (show (-2147483648 : Int) ≤ _ ∧ _ ≤ (2147483647 : Int) from by omega) rfl) (FR.o (FR.o ht_M (show kd 413 = 44 from rfl) rfl) (show kd 413 = 44 from rfl) rfl)  )
      · have sx102 : (1 : Int) ≤ r8 := by omega
        clear h102
        refine jr.aload_n rfl rfl ?_
        refine jr.dup rfl rfl ?_
        refine jr.getf (i := 8) (x := v1) (v := .int (Int32.ofInt (v1))) rfl rfl (nlt rfl) rfl (nlt rfl) rfl rfl e1 rfl ?_
        refine jr.iconst rfl ?_
        refine jr.iadd rfl ?_
        refine jr.putf (i := 8) (x := (v1 + 1)) rfl rfl (nlt rfl) rfl (nlt rfl) rfl rfl rfl rfl rfl ?_
        refine jr.goto rfl rfl ?_
        refine jr.pick (ls := [_]) [0] rfl rfl ?_
        exact ih (nM - 1) (by omega) ((ju M 413 8 (v1 + 1)))  (CI.u hC_M (i := 8) (show kd 413 = 44 from rfl) (show (0 : Int) ≤ _ ∧ _ ≤ (1600 : Int) from by omega) rfl) (FR.o ht_M (show kd 413 = 44 from rfl) rfl)  (by have hq0 : (ju M 413 8 (v1 + 1)) 413 3 = v2 := ((ju_i _ _ (zne (by decide))).trans e2); omega) (by have hq0 : (ju M 413 8 (v1 + 1)) 413 8 = v1 + 1 := (ju_same _ _ _ _); omega)
theorem c_Parser_advance_L13 {A : Nat → Option (Nat × (Nat → Int32))} [HA A] {Q : Option Value → jm → Prop} {T : jm} (q : ∀ (M' : jm), CI M' → FR W_c_Parser_advance T M' → Q none M') : ∀ (nM : Nat) (M : jm) (i : Int), CI M → FR W_c_Parser_advance T M → 0 ≤ i ∧ i ≤ 1600 → (1 ≤ M 413 3 ∧ M 413 3 ≤ 1) → 1600 - i ≤ nM → jr A 5 xm_215 13 [(1, .int (Int32.ofInt (i))), (0, .ref (413))] [] M Q := by
  intro nM
  induction nM using Nat.strongRecOn with
  | ind nM ih =>
    intro M i hC_M ht_M h_i hy0 hm
    obtain ⟨v1, e1⟩ : ∃ z_, M 413 3 = z_ := ⟨_, rfl⟩
    have b1 : 1 ≤ v1 ∧ v1 ≤ 419 := by rw [← e1]; exact (CI.r hC_M (show kd 413 = 44 from rfl) (by decide) 3)
    have b2 : 1 ≤ v1 ∧ v1 ≤ 1 := by rw [← e1]; exact hy0
    refine jr.iload_n rfl rfl ?_
    refine jr.aload_n rfl rfl ?_
    obtain ⟨v3, e3⟩ : ∃ z_, M 413 4 = z_ := ⟨_, rfl⟩
    have b3 : 0 ≤ v3 ∧ v3 ≤ 1600 := by rw [← e3]; exact (CI.r hC_M (show kd 413 = 44 from rfl) (by decide) 4)
    refine jr.getf (i := 4) (x := v3) (v := .int (Int32.ofInt (v3))) rfl rfl (nlt rfl) rfl (nlt rfl) rfl rfl e3 rfl ?_
    refine jr.icmp_ge rfl rfl (by first | (refine rgb (by assumption) ?_; exact rfl) | omega) (by first | (refine rgb (by assumption) ?_; exact rfl) | omega) (fun h18 => ?_) (fun h18 => ?_)
    · refine jr.aload_n rfl rfl ?_
      refine jr.iload_n rfl rfl ?_
      refine jr.putf (i := 7) (x := i) rfl rfl (nlt rfl) rfl (nlt rfl) rfl rfl rfl rfl rfl ?_
      refine jr.aload_n rfl rfl ?_
      refine jr.iload_n rfl rfl ?_
      refine jr.putf (i := 8) (x := i) rfl rfl (nlt rfl) rfl (nlt rfl) rfl rfl rfl rfl rfl ?_
      refine jr.iload_n rfl rfl ?_
      refine jr.aload_n rfl rfl ?_
      refine jr.getf (i := 4) (x := v3) (v := .int (Int32.ofInt (v3))) rfl rfl (nlt rfl) rfl (nlt rfl) rfl rfl ((ju_i _ _ (zne (by decide))).trans ((ju_i _ _ (zne (by decide))).trans e3)) rfl ?_
      refine jr.icmp_lt rfl rfl (by first | (refine rgb (by assumption) ?_; exact rfl) | omega) (by first | (refine rgb (by assumption) ?_; exact rfl) | omega) (fun h64 => ?_) (fun h64 => ?_)
      · refine jr.aload_n rfl rfl ?_
        refine jr.iload_n rfl rfl ?_
        refine jr_v rfl rfl (Or.inl rfl) rfl rfl (nlt rfl) rfl ⟨rfl, Nat.le_of_ble_eq_true rfl, Nat.le_of_ble_eq_true rfl⟩ rfl (jc.deep (c_Parser_letterAt (CI.u (CI.u hC_M (i := 7) (show kd 413 = 44 from rfl) (show (0 : Int) ≤ _ ∧ _ ≤ (1600 : Int) from by omega) rfl) (i := 8) (show kd 413 = 44 from rfl) (show (0 : Int) ≤ _ ∧ _ ≤ (1600 : Int) from by omega) rfl) (by omega) (by have hq0 : (ju (ju M 413 7 i) 413 8 i) 413 3 = v1 := ((ju_i _ _ (zne (by decide))).trans ((ju_i _ _ (zne (by decide))).trans e1)); omega) (fun r4 z4  => ?_)) (Nat.le_of_ble_eq_true rfl))
        refine jr.if_eq rfl rfl (by first | (refine rgb (by assumption) ?_; exact rfl) | omega) (fun h80 => ?_) (fun h80 => ?_)
        · refine jr.aload_n rfl rfl ?_
          refine jr.iload_n rfl rfl ?_
          refine jr_v rfl rfl (Or.inl rfl) rfl rfl (nlt rfl) rfl ⟨rfl, Nat.le_of_ble_eq_true rfl, Nat.le_of_ble_eq_true rfl⟩ rfl (jc.deep (c_Parser_isDigitAt (CI.u (CI.u hC_M (i := 7) (show kd 413 = 44 from rfl) (show (0 : Int) ≤ _ ∧ _ ≤ (1600 : Int) from by omega) rfl) (i := 8) (show kd 413 = 44 from rfl) (show (0 : Int) ≤ _ ∧ _ ≤ (1600 : Int) from by omega) rfl) (by omega) (by have hq0 : (ju (ju M 413 7 i) 413 8 i) 413 3 = v1 := ((ju_i _ _ (zne (by decide))).trans ((ju_i _ _ (zne (by decide))).trans e1)); omega) (fun r5 z5  => ?_)) (Nat.le_of_ble_eq_true rfl))
          refine jr.if_eq rfl rfl (by first | (refine rgb (by assumption) ?_; exact rfl) | omega) (fun h159 => ?_) (fun h159 => ?_)
          · refine jr.aload_n rfl rfl ?_
            refine jr.aload_n rfl rfl ?_
            have k6 : kd (v1).toNat = 43 := by rcases (show v1 = 1 by omega) with h <;> (rw [h]; rfl)
            refine jr.getf (i := 3) (x := v1) (v := .ref (v1.toNat)) rfl rfl (nlt rfl) rfl (nlt rfl) rfl rfl ((ju_i _ _ (zne (by decide))).trans ((ju_i _ _ (zne (by decide))).trans e1)) rfl ?_
            refine jr.iload_n rfl rfl ?_
            obtain ⟨v7, e7⟩ : ∃ z_, M ((v1.toNat)) i = z_ := ⟨_, rfl⟩
            have b7 : 0 ≤ v7 ∧ v7 ≤ 255 := by rw [← e7]; exact (CI.r hC_M k6 (by decide) i)
            refine jr.iald (i := i) (x := v7) rfl (Nat.lt_trans (kx_43 k6).1 (by decide)) (kx_43 k6).2 (by decide) (by omega) (by omega) ((ju_c _ _ (kd_ne (by rw [k6, (show kd 413 = 44 from rfl)]; decide))).trans ((ju_c _ _ (kd_ne (by rw [k6, (show kd 413 = 44 from rfl)]; decide))).trans e7)) ?_
            refine jr.i2c rfl ?_
            rw [j_c_ex (x := v7) (by omega)]
            refine jr.putf (i := 11) (x := v7) rfl rfl (nlt rfl) rfl (nlt rfl) rfl rfl rfl (j_cr (by omega)) (j_fc (by omega)) ?_
            refine jr.aload_n rfl rfl ?_
            refine jr.ldcs (a := 1000101) rfl rfl ?_
            refine jr.aload_n rfl rfl ?_
            refine jr.getf (i := 11) (x := v7) (v := .int (Int32.ofInt (v7))) rfl rfl (nlt rfl) rfl (nlt rfl) rfl rfl (ju_same _ _ _ _) rfl ?_
            refine jr_v8 rfl rfl rfl (show sK 1000101 = true from rfl) ⟨Nat.le_of_ble_eq_true rfl, Nat.le_of_ble_eq_true rfl⟩ rfl (jc.deep (c_java_lang_String_indexOf_409 (CI.u (CI.u (CI.u hC_M (i := 7) (show kd 413 = 44 from rfl) (show (0 : Int) ≤ _ ∧ _ ≤ (1600 : Int) from by omega) rfl) (i := 8) (show kd 413 = 44 from rfl) (show (0 : Int) ≤ _ ∧ _ ≤ (1600 : Int) from by omega) rfl) (i := 11) (show kd 413 = 44 from rfl) (show (0 : Int) ≤ _ ∧ _ ≤ (255 : Int) from by omega) rfl) (show sK 1000101 = true from rfl) (by omega) (fun r8 z8  => ?_)) (by decide))
            refine jr.if_lt rfl rfl (by first | (refine rgb (by assumption) ?_; exact rfl) | omega) (fun h190 => ?_) (fun h190 => ?_)
            · refine jr.iconst rfl ?_
              refine jr.putf (i := 6) (x := 4) rfl rfl (nlt rfl) rfl (nlt rfl) rfl rfl rfl rfl rfl ?_
              refine jr.aload_n rfl rfl ?_
              refine jr.iload_n rfl rfl ?_
              refine jr.iconst rfl ?_
              refine jr.iadd rfl ?_
              refine jr.putf (i := 8) (x := (i + 1)) rfl rfl (nlt rfl) rfl (nlt rfl) rfl rfl rfl rfl rfl ?_
              exact jr.vreturn rfl rfl (q _ (CI.u (CI.u (CI.u (CI.u (CI.u hC_M (i := 7) (show kd 413 = 44 from rfl) (show (0 : Int) ≤ _ ∧ _ ≤ (1600 : Int) from by omega) rfl) (i := 8) (show kd 413 = 44 from rfl) (show (0 : Int) ≤ _ ∧ _ ≤ (1600 : Int) from by omega) rfl) (i := 11) (show kd 413 = 44 from rfl) (show (0 : Int) ≤ _ ∧ _ ≤ (255 : Int) from by omega) rfl) (i := 6) (show kd 413 = 44 from rfl) (show (-2147483648 : Int) ≤ _ ∧ _ ≤ (2147483647 : Int) from by omega) rfl) (i := 8) (show kd 413 = 44 from rfl) (show (0 : Int) ≤ _ ∧ _ ≤ (1600 : Int) from by omega) rfl) (FR.o (FR.o (FR.o (FR.o (FR.o ht_M (show kd 413 = 44 from rfl) rfl) (show kd 413 = 44 from rfl) rfl) (show kd 413 = 44 from rfl) rfl) (show kd 413 = 44 from rfl) rfl) (show kd 413 = 44 from rfl) rfl)  )
            · refine jr.iconst rfl ?_
              refine jr.goto rfl rfl ?_
              refine jr.putf (i := 6) (x := 3) rfl rfl (nlt rfl) rfl (nlt rfl) rfl rfl rfl rfl rfl ?_
              refine jr.aload_n rfl rfl ?_
              refine jr.iload_n rfl rfl ?_
              refine jr.iconst rfl ?_
              refine jr.iadd rfl ?_
              refine jr.putf (i := 8) (x := (i + 1)) rfl rfl (nlt rfl) rfl (nlt rfl) rfl rfl rfl rfl rfl ?_
              exact jr.vreturn rfl rfl (q _ (CI.u (CI.u (CI.u (CI.u (CI.u hC_M (i := 7) (show kd 413 = 44 from rfl) (show (0 : Int) ≤ _ ∧ _ ≤ (1600 : Int) from by omega) rfl) (i := 8) (show kd 413 = 44 from rfl) (show (0 : Int) ≤ _ ∧ _ ≤ (1600 : Int) from by omega) rfl) (i := 11) (show kd 413 = 44 from rfl) (show (0 : Int) ≤ _ ∧ _ ≤ (255 : Int) from by omega) rfl) (i := 6) (show kd 413 = 44 from rfl) (show (-2147483648 : Int) ≤ _ ∧ _ ≤ (2147483647 : Int) from by omega) rfl) (i := 8) (show kd 413 = 44 from rfl) (show (0 : Int) ≤ _ ∧ _ ≤ (1600 : Int) from by omega) rfl) (FR.o (FR.o (FR.o (FR.o (FR.o ht_M (show kd 413 = 44 from rfl) rfl) (show kd 413 = 44 from rfl) rfl) (show kd 413 = 44 from rfl) rfl) (show kd 413 = 44 from rfl) rfl) (show kd 413 = 44 from rfl) rfl)  )
          · have sx159 : (1 : Int) ≤ r5 := by omega
            clear h159
            refine jr.aload_n rfl rfl ?_
            refine jr_v rfl rfl (Or.inl rfl) rfl rfl (nlt rfl) rfl ⟨rfl, Nat.le_of_ble_eq_true rfl, Nat.le_of_ble_eq_true rfl⟩ rfl (jc.deep (c_Parser_takeNumber (CI.u (CI.u hC_M (i := 7) (show kd 413 = 44 from rfl) (show (0 : Int) ≤ _ ∧ _ ≤ (1600 : Int) from by omega) rfl) (i := 8) (show kd 413 = 44 from rfl) (show (0 : Int) ≤ _ ∧ _ ≤ (1600 : Int) from by omega) rfl) (FR.rfl _ ((ju (ju M 413 7 i) 413 8 i)))  (by have hq0 : (ju (ju M 413 7 i) 413 8 i) 413 3 = v1 := ((ju_i _ _ (zne (by decide))).trans ((ju_i _ _ (zne (by decide))).trans e1)); omega) (fun M9 hC_M9 hf_M9  => ?_)) (Nat.le_of_ble_eq_true rfl))
            have ht_M9 : FR W_c_Parser_advance T M9 := FR.t (FR.o (FR.o ht_M (show kd 413 = 44 from rfl) rfl) (show kd 413 = 44 from rfl) rfl) hf_M9 (kw_sub rfl)
            refine jr.goto rfl rfl ?_
            exact jr.vreturn rfl rfl (q _ hC_M9 ht_M9  )
        · have sx80 : (1 : Int) ≤ r4 := by omega
          clear h80
          refine jr.pick (ls := [_]) [1] rfl rfl ?_
          exact c_Parser_advance_L83  q 1600 ((ju (ju M 413 7 i) 413 8 i))  (CI.u (CI.u hC_M (i := 7) (show kd 413 = 44 from rfl) (show (0 : Int) ≤ _ ∧ _ ≤ (1600 : Int) from by omega) rfl) (i := 8) (show kd 413 = 44 from rfl) (show (0 : Int) ≤ _ ∧ _ ≤ (1600 : Int) from by omega) rfl) (FR.o (FR.o ht_M (show kd 413 = 44 from rfl) rfl) (show kd 413 = 44 from rfl) rfl)  (by have hq0 : (ju (ju M 413 7 i) 413 8 i) 413 3 = v1 := ((ju_i _ _ (zne (by decide))).trans ((ju_i _ _ (zne (by decide))).trans e1)); omega) (by have hq0 : (ju (ju M 413 7 i) 413 8 i) 413 8 = i := (ju_same _ _ _ _); omega)
      · refine jr.aload_n rfl rfl ?_
        refine jr.iconst rfl ?_
        refine jr.putf (i := 6) (x := 0) rfl rfl (nlt rfl) rfl (nlt rfl) rfl rfl rfl rfl rfl ?_
        refine jr.goto rfl rfl ?_
        exact jr.vreturn rfl rfl (q _ (CI.u (CI.u (CI.u hC_M (i := 7) (show kd 413 = 44 from rfl) (show (0 : Int) ≤ _ ∧ _ ≤ (1600 : Int) from by omega) rfl) (i := 8) (show kd 413 = 44 from rfl) (show (0 : Int) ≤ _ ∧ _ ≤ (1600 : Int) from by omega) rfl) (i := 6) (show kd 413 = 44 from rfl) (show (-2147483648 : Int) ≤ _ ∧ _ ≤ (2147483647 : Int) from by omega) rfl) (FR.o (FR.o (FR.o ht_M (show kd 413 = 44 from rfl) rfl) (show kd 413 = 44 from rfl) rfl) (show kd 413 = 44 from rfl) rfl)  )
    · refine jr.aload_n rfl rfl ?_
      have k10 : kd (v1).toNat = 43 := by rcases (show v1 = 1 by omega) with h <;> (rw [h]; rfl)
      refine jr.getf (i := 3) (x := v1) (v := .ref (v1.toNat)) rfl rfl (nlt rfl) rfl (nlt rfl) rfl rfl e1 rfl ?_
      refine jr.iload_n rfl rfl ?_
      obtain ⟨v11, e11⟩ : ∃ z_, M ((v1.toNat)) i = z_ := ⟨_, rfl⟩
      have b11 : 0 ≤ v11 ∧ v11 ≤ 255 := by rw [← e11]; exact (CI.r hC_M k10 (by decide) i)
      refine jr.iald (i := i) (x := v11) rfl (Nat.lt_trans (kx_43 k10).1 (by decide)) (kx_43 k10).2 (by decide) (by omega) (by omega) e11 ?_
      refine jr.bipush rfl (jbp _ (nlt rfl)) ?_
      refine jr.icmp_eq rfl rfl (by first | (refine rgb (by assumption) ?_; exact rfl) | omega) (rgl rfl) (fun h29 => ?_) (fun h29 => ?_)
      · refine jr.iinc (ls' := [_, _]) rfl rfl (nlt rfl) rfl ?_
        refine jr.goto rfl rfl ?_
        refine jr.pick (ls := [_, _]) [0, 1] rfl rfl ?_
        exact ih (nM - 1) (by omega) M (i + 1) hC_M ht_M (by omega) (by have hq0 : M 413 3 = v1 := e1; omega) (by omega)
      · refine jr.aload_n rfl rfl ?_
        have k12 : kd (v1).toNat = 43 := by rcases (show v1 = 1 by omega) with h <;> (rw [h]; rfl)
        refine jr.getf (i := 3) (x := v1) (v := .ref (v1.toNat)) rfl rfl (nlt rfl) rfl (nlt rfl) rfl rfl e1 rfl ?_
        refine jr.iload_n rfl rfl ?_
        refine jr.iald (i := i) (x := v11) rfl (Nat.lt_trans (kx_43 k12).1 (by decide)) (kx_43 k12).2 (by decide) (by omega) (by omega) e11 ?_
        refine jr.bipush rfl (jbp _ (nlt rfl)) ?_
        refine jr.icmp_ne rfl rfl (by first | (refine rgb (by assumption) ?_; exact rfl) | omega) (rgl rfl) (fun h40 => ?_) (fun h40 => ?_)
        · refine jr.aload_n rfl rfl ?_
          refine jr.iload_n rfl rfl ?_
          refine jr.putf (i := 7) (x := i) rfl rfl (nlt rfl) rfl (nlt rfl) rfl rfl rfl rfl rfl ?_
          refine jr.aload_n rfl rfl ?_
          refine jr.iload_n rfl rfl ?_
          refine jr.putf (i := 8) (x := i) rfl rfl (nlt rfl) rfl (nlt rfl) rfl rfl rfl rfl rfl ?_
          refine jr.iload_n rfl rfl ?_
          refine jr.aload_n rfl rfl ?_
          refine jr.getf (i := 4) (x := v3) (v := .int (Int32.ofInt (v3))) rfl rfl (nlt rfl) rfl (nlt rfl) rfl rfl ((ju_i _ _ (zne (by decide))).trans ((ju_i _ _ (zne (by decide))).trans e3)) rfl ?_
          refine jr.icmp_lt rfl rfl (by first | (refine rgb (by assumption) ?_; exact rfl) | omega) (by first | (refine rgb (by assumption) ?_; exact rfl) | omega) (fun h64 => ?_) (fun h64 => ?_)
          · refine jr.aload_n rfl rfl ?_
            refine jr.iload_n rfl rfl ?_
            refine jr_v rfl rfl (Or.inl rfl) rfl rfl (nlt rfl) rfl ⟨rfl, Nat.le_of_ble_eq_true rfl, Nat.le_of_ble_eq_true rfl⟩ rfl (jc.deep (c_Parser_letterAt (CI.u (CI.u hC_M (i := 7) (show kd 413 = 44 from rfl) (show (0 : Int) ≤ _ ∧ _ ≤ (1600 : Int) from by omega) rfl) (i := 8) (show kd 413 = 44 from rfl) (show (0 : Int) ≤ _ ∧ _ ≤ (1600 : Int) from by omega) rfl) (by omega) (by have hq0 : (ju (ju M 413 7 i) 413 8 i) 413 3 = v1 := ((ju_i _ _ (zne (by decide))).trans ((ju_i _ _ (zne (by decide))).trans e1)); omega) (fun r13 z13  => ?_)) (Nat.le_of_ble_eq_true rfl))
            refine jr.if_eq rfl rfl (by first | (refine rgb (by assumption) ?_; exact rfl) | omega) (fun h80 => ?_) (fun h80 => ?_)
            · refine jr.aload_n rfl rfl ?_
              refine jr.iload_n rfl rfl ?_
              refine jr_v rfl rfl (Or.inl rfl) rfl rfl (nlt rfl) rfl ⟨rfl, Nat.le_of_ble_eq_true rfl, Nat.le_of_ble_eq_true rfl⟩ rfl (jc.deep (c_Parser_isDigitAt (CI.u (CI.u hC_M (i := 7) (show kd 413 = 44 from rfl) (show (0 : Int) ≤ _ ∧ _ ≤ (1600 : Int) from by omega) rfl) (i := 8) (show kd 413 = 44 from rfl) (show (0 : Int) ≤ _ ∧ _ ≤ (1600 : Int) from by omega) rfl) (by omega) (by have hq0 : (ju (ju M 413 7 i) 413 8 i) 413 3 = v1 := ((ju_i _ _ (zne (by decide))).trans ((ju_i _ _ (zne (by decide))).trans e1)); omega) (fun r14 z14  => ?_)) (Nat.le_of_ble_eq_true rfl))
              refine jr.if_eq rfl rfl (by first | (refine rgb (by assumption) ?_; exact rfl) | omega) (fun h159 => ?_) (fun h159 => ?_)
              · refine jr.aload_n rfl rfl ?_
                refine jr.aload_n rfl rfl ?_
                have k15 : kd (v1).toNat = 43 := by rcases (show v1 = 1 by omega) with h <;> (rw [h]; rfl)
                refine jr.getf (i := 3) (x := v1) (v := .ref (v1.toNat)) rfl rfl (nlt rfl) rfl (nlt rfl) rfl rfl ((ju_i _ _ (zne (by decide))).trans ((ju_i _ _ (zne (by decide))).trans e1)) rfl ?_
                refine jr.iload_n rfl rfl ?_
                refine jr.iald (i := i) (x := v11) rfl (Nat.lt_trans (kx_43 k15).1 (by decide)) (kx_43 k15).2 (by decide) (by omega) (by omega) ((ju_c _ _ (kd_ne (by rw [k15, (show kd 413 = 44 from rfl)]; decide))).trans ((ju_c _ _ (kd_ne (by rw [k15, (show kd 413 = 44 from rfl)]; decide))).trans e11)) ?_
                refine jr.i2c rfl ?_
                rw [j_c_ex (x := v11) (by omega)]
                refine jr.putf (i := 11) (x := v11) rfl rfl (nlt rfl) rfl (nlt rfl) rfl rfl rfl (j_cr (by omega)) (j_fc (by omega)) ?_
                refine jr.aload_n rfl rfl ?_
                refine jr.ldcs (a := 1000101) rfl rfl ?_
                refine jr.aload_n rfl rfl ?_
                refine jr.getf (i := 11) (x := v11) (v := .int (Int32.ofInt (v11))) rfl rfl (nlt rfl) rfl (nlt rfl) rfl rfl (ju_same _ _ _ _) rfl ?_
                refine jr_v8 rfl rfl rfl (show sK 1000101 = true from rfl) ⟨Nat.le_of_ble_eq_true rfl, Nat.le_of_ble_eq_true rfl⟩ rfl (jc.deep (c_java_lang_String_indexOf_409 (CI.u (CI.u (CI.u hC_M (i := 7) (show kd 413 = 44 from rfl) (show (0 : Int) ≤ _ ∧ _ ≤ (1600 : Int) from by omega) rfl) (i := 8) (show kd 413 = 44 from rfl) (show (0 : Int) ≤ _ ∧ _ ≤ (1600 : Int) from by omega) rfl) (i := 11) (show kd 413 = 44 from rfl) (show (0 : Int) ≤ _ ∧ _ ≤ (255 : Int) from by omega) rfl) (show sK 1000101 = true from rfl) (by omega) (fun r16 z16  => ?_)) (by decide))
                refine jr.if_lt rfl rfl (by first | (refine rgb (by assumption) ?_; exact rfl) | omega) (fun h190 => ?_) (fun h190 => ?_)
                · refine jr.iconst rfl ?_
                  refine jr.putf (i := 6) (x := 4) rfl rfl (nlt rfl) rfl (nlt rfl) rfl rfl rfl rfl rfl ?_
                  refine jr.aload_n rfl rfl ?_
                  refine jr.iload_n rfl rfl ?_
                  refine jr.iconst rfl ?_
                  refine jr.iadd rfl ?_
                  refine jr.putf (i := 8) (x := (i + 1)) rfl rfl (nlt rfl) rfl (nlt rfl) rfl rfl rfl rfl rfl ?_
                  exact jr.vreturn rfl rfl (q _ (CI.u (CI.u (CI.u (CI.u (CI.u hC_M (i := 7) (show kd 413 = 44 from rfl) (show (0 : Int) ≤ _ ∧ _ ≤ (1600 : Int) from by omega) rfl) (i := 8) (show kd 413 = 44 from rfl) (show (0 : Int) ≤ _ ∧ _ ≤ (1600 : Int) from by omega) rfl) (i := 11) (show kd 413 = 44 from rfl) (show (0 : Int) ≤ _ ∧ _ ≤ (255 : Int) from by omega) rfl) (i := 6) (show kd 413 = 44 from rfl) (show (-2147483648 : Int) ≤ _ ∧ _ ≤ (2147483647 : Int) from by omega) rfl) (i := 8) (show kd 413 = 44 from rfl) (show (0 : Int) ≤ _ ∧ _ ≤ (1600 : Int) from by omega) rfl) (FR.o (FR.o (FR.o (FR.o (FR.o ht_M (show kd 413 = 44 from rfl) rfl) (show kd 413 = 44 from rfl) rfl) (show kd 413 = 44 from rfl) rfl) (show kd 413 = 44 from rfl) rfl) (show kd 413 = 44 from rfl) rfl)  )
                · refine jr.iconst rfl ?_
                  refine jr.goto rfl rfl ?_
                  refine jr.putf (i := 6) (x := 3) rfl rfl (nlt rfl) rfl (nlt rfl) rfl rfl rfl rfl rfl ?_
                  refine jr.aload_n rfl rfl ?_
                  refine jr.iload_n rfl rfl ?_
                  refine jr.iconst rfl ?_
                  refine jr.iadd rfl ?_
                  refine jr.putf (i := 8) (x := (i + 1)) rfl rfl (nlt rfl) rfl (nlt rfl) rfl rfl rfl rfl rfl ?_
                  exact jr.vreturn rfl rfl (q _ (CI.u (CI.u (CI.u (CI.u (CI.u hC_M (i := 7) (show kd 413 = 44 from rfl) (show (0 : Int) ≤ _ ∧ _ ≤ (1600 : Int) from by omega) rfl) (i := 8) (show kd 413 = 44 from rfl) (show (0 : Int) ≤ _ ∧ _ ≤ (1600 : Int) from by omega) rfl) (i := 11) (show kd 413 = 44 from rfl) (show (0 : Int) ≤ _ ∧ _ ≤ (255 : Int) from by omega) rfl) (i := 6) (show kd 413 = 44 from rfl) (show (-2147483648 : Int) ≤ _ ∧ _ ≤ (2147483647 : Int) from by omega) rfl) (i := 8) (show kd 413 = 44 from rfl) (show (0 : Int) ≤ _ ∧ _ ≤ (1600 : Int) from by omega) rfl) (FR.o (FR.o (FR.o (FR.o (FR.o ht_M (show kd 413 = 44 from rfl) rfl) (show kd 413 = 44 from rfl) rfl) (show kd 413 = 44 from rfl) rfl) (show kd 413 = 44 from rfl) rfl) (show kd 413 = 44 from rfl) rfl)  )
              · have sx159 : (1 : Int) ≤ r14 := by omega
                clear h159
                refine jr.aload_n rfl rfl ?_
                refine jr_v rfl rfl (Or.inl rfl) rfl rfl (nlt rfl) rfl ⟨rfl, Nat.le_of_ble_eq_true rfl, Nat.le_of_ble_eq_true rfl⟩ rfl (jc.deep (c_Parser_takeNumber (CI.u (CI.u hC_M (i := 7) (show kd 413 = 44 from rfl) (show (0 : Int) ≤ _ ∧ _ ≤ (1600 : Int) from by omega) rfl) (i := 8) (show kd 413 = 44 from rfl) (show (0 : Int) ≤ _ ∧ _ ≤ (1600 : Int) from by omega) rfl) (FR.rfl _ ((ju (ju M 413 7 i) 413 8 i)))  (by have hq0 : (ju (ju M 413 7 i) 413 8 i) 413 3 = v1 := ((ju_i _ _ (zne (by decide))).trans ((ju_i _ _ (zne (by decide))).trans e1)); omega) (fun M17 hC_M17 hf_M17  => ?_)) (Nat.le_of_ble_eq_true rfl))
                have ht_M17 : FR W_c_Parser_advance T M17 := FR.t (FR.o (FR.o ht_M (show kd 413 = 44 from rfl) rfl) (show kd 413 = 44 from rfl) rfl) hf_M17 (kw_sub rfl)
                refine jr.goto rfl rfl ?_
                exact jr.vreturn rfl rfl (q _ hC_M17 ht_M17  )
            · have sx80 : (1 : Int) ≤ r13 := by omega
              clear h80
              refine jr.pick (ls := [_]) [1] rfl rfl ?_
              exact c_Parser_advance_L83  q 1600 ((ju (ju M 413 7 i) 413 8 i))  (CI.u (CI.u hC_M (i := 7) (show kd 413 = 44 from rfl) (show (0 : Int) ≤ _ ∧ _ ≤ (1600 : Int) from by omega) rfl) (i := 8) (show kd 413 = 44 from rfl) (show (0 : Int) ≤ _ ∧ _ ≤ (1600 : Int) from by omega) rfl) (FR.o (FR.o ht_M (show kd 413 = 44 from rfl) rfl) (show kd 413 = 44 from rfl) rfl)  (by have hq0 : (ju (ju M 413 7 i) 413 8 i) 413 3 = v1 := ((ju_i _ _ (zne (by decide))).trans ((ju_i _ _ (zne (by decide))).trans e1)); omega) (by have hq0 : (ju (ju M 413 7 i) 413 8 i) 413 8 = i := (ju_same _ _ _ _); omega)
          · refine jr.aload_n rfl rfl ?_
            refine jr.iconst rfl ?_
            refine jr.putf (i := 6) (x := 0) rfl rfl (nlt rfl) rfl (nlt rfl) rfl rfl rfl rfl rfl ?_
            refine jr.goto rfl rfl ?_
            exact jr.vreturn rfl rfl (q _ (CI.u (CI.u (CI.u hC_M (i := 7) (show kd 413 = 44 from rfl) (show (0 : Int) ≤ _ ∧ _ ≤ (1600 : Int) from by omega) rfl) (i := 8) (show kd 413 = 44 from rfl) (show (0 : Int) ≤ _ ∧ _ ≤ (1600 : Int) from by omega) rfl) (i := 6) (show kd 413 = 44 from rfl) (show (-2147483648 : Int) ≤ _ ∧ _ ≤ (2147483647 : Int) from by omega) rfl) (FR.o (FR.o (FR.o ht_M (show kd 413 = 44 from rfl) rfl) (show kd 413 = 44 from rfl) rfl) (show kd 413 = 44 from rfl) rfl)  )
        · refine jr.iinc (ls' := [_, _]) rfl rfl (nlt rfl) rfl ?_
          refine jr.goto rfl rfl ?_
          refine jr.pick (ls := [_, _]) [0, 1] rfl rfl ?_
          exact ih (nM - 1) (by omega) M (i + 1) hC_M ht_M (by omega) (by have hq0 : M 413 3 = v1 := e1; omega) (by omega)
theorem c_Parser_advance {A : Nat → Option (Nat × (Nat → Int32))} [HA A] {Q : Option Value → jm → Prop} {T : jm} {M : jm} (hC_M : CI M) (ht_M : FR W_c_Parser_advance T M) (p0 : 1 ≤ M 413 3 ∧ M 413 3 ≤ 1) (q : ∀ (M' : jm), CI M' → FR W_c_Parser_advance T M' → Q none M') : jc A 6 215 [.ref (413)] M Q := by
  refine jc_of (m := xm_215) rfl (Nat.le_of_ble_eq_true rfl) rfl ?_
  obtain ⟨v1, e1⟩ : ∃ z_, M 413 3 = z_ := ⟨_, rfl⟩
  have b1 : 1 ≤ v1 ∧ v1 ≤ 419 := by rw [← e1]; exact (CI.r hC_M (show kd 413 = 44 from rfl) (by decide) 3)
  have b2 : 1 ≤ v1 ∧ v1 ≤ 1 := by rw [← e1]; exact p0
  refine jr.aload_n rfl rfl ?_
  obtain ⟨v3, e3⟩ : ∃ z_, M 413 0 = z_ := ⟨_, rfl⟩
  have b3 : (-2147483648) ≤ v3 ∧ v3 ≤ 2147483647 := by rw [← e3]; exact (CI.r hC_M (show kd 413 = 44 from rfl) (by decide) 0)
  refine jr.getf (i := 0) (x := v3) (v := .int (Int32.ofInt (v3))) rfl rfl (nlt rfl) rfl (nlt rfl) rfl rfl e3 rfl ?_
  refine jr.if_eq rfl rfl (by first | (refine rgb (by assumption) ?_; exact rfl) | omega) (fun h4 => ?_) (fun h4 => ?_)
  · refine jr.aload_n rfl rfl ?_
    obtain ⟨v4, e4⟩ : ∃ z_, M 413 8 = z_ := ⟨_, rfl⟩
    have b4 : 0 ≤ v4 ∧ v4 ≤ 1600 := by rw [← e4]; exact (CI.r hC_M (show kd 413 = 44 from rfl) (by decide) 8)
    refine jr.getf (i := 8) (x := v4) (v := .int (Int32.ofInt (v4))) rfl rfl (nlt rfl) rfl (nlt rfl) rfl rfl e4 rfl ?_
    refine jr.istore_n (ls' := [_, _]) rfl (nlt rfl) rfl ?_
    refine jr.pick (ls := [_, _]) [0, 1] rfl rfl ?_
    exact c_Parser_advance_L13  q 1600 M v4 hC_M ht_M (by omega) (by have hq0 : M 413 3 = v1 := e1; omega) (by omega)
  · exact jr.vreturn rfl rfl (q _ hC_M ht_M  )
