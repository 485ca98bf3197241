section
/-! ===== the law: its start ===== -/
theorem xstart {p : Program} {s : State} {m : MethodId} {meth : Method} {c : Code} {b L : Nat} {xs : Nat → Int32} (C0 : lw_At p s m meth c b L xs) : ∃ (D : va_G) (aC : Nat → ClassId) (tys : List (ClassId × FieldType)) (cst : Nat → Nat) (fm : Nat), cst 0 = b ∧ ∀ A : Nat → Option (Nat × (Nat → Int32)), (A = (fun _ => none) ∨ A = xs_A L xs fm) → ix_St (xT A) D xcl aC tys xon xTs xNs (ix_ad s.heap.size cst) s.heap.size s := by
  obtain ⟨hx, hb, hr, hml, hown, hts, hX, hbl, hlocks, hgv⟩ := C0
  have hwt := xwant_ok hgv
  have hAq : ∀ a : Nat, a < s.heap.size → ¬ s.heap.size ≤ a := fun a h => by omega
  obtain ⟨t1, z1, y1⟩ := xstat_ok (A := fun q => s.heap.size ≤ q) (by decide +kernel) (fun w hw => hwt w (xwm_s0 w hw)) (hts _ xw_ls0) (hts _ xw_in0) hAq
  obtain ⟨t2, z2, y2⟩ := xstat_ok (A := fun q => s.heap.size ≤ q) (by decide +kernel) (fun w hw => hwt w (xwm_s1 w hw)) (hts _ xw_ls1) (hts _ xw_in0) hAq
  obtain ⟨t3, z3, y3⟩ := xstat_ok (A := fun q => s.heap.size ≤ q) (by decide +kernel) (fun w hw => hwt w (xwm_s2 w hw)) (hts _ xw_ls2) (hts _ xw_in0) hAq
  obtain ⟨t4, z4, y4⟩ := xstat_ok (A := fun q => s.heap.size ≤ q) (by decide +kernel) (fun w hw => hwt w (xwm_s3 w hw)) (hts _ xw_ls3) (hts _ xw_in0) hAq
  obtain ⟨t5, z5, y5⟩ := xstat_ok (A := fun q => s.heap.size ≤ q) (by decide +kernel) (fun w hw => hwt w (xwm_s4 w hw)) (hts _ xw_ls4) (hts _ xw_in1) hAq
  obtain ⟨t6, z6, y6⟩ := xstat_ok (A := fun q => s.heap.size ≤ q) (by decide +kernel) (fun w hw => hwt w (xwm_s5 w hw)) (hts _ xw_ls5) (hts _ xw_in1) hAq
  obtain ⟨t7, z7, y7⟩ := xstat_ok (A := fun q => s.heap.size ≤ q) (by decide +kernel) (fun w hw => hwt w (xwm_s6 w hw)) (hts _ xw_ls6) (hts _ xw_in0) hAq
  obtain ⟨t8, z8, y8⟩ := xstat_ok (A := fun q => s.heap.size ≤ q) (by decide +kernel) (fun w hw => hwt w (xwm_s7 w hw)) (hts _ xw_ls7) (hts _ xw_in0) hAq
  have zc : va_Z "java/lang/String" "COMPACT_STRINGS" "Z" (.int 1) (fun q => s.heap.size ≤ q) s s.heap := va_Zof (hts _ xw_ls8) (hts _ xw_in2) (va_eqt (hwt _ (xwm_c0 _ List.mem_cons_self))) hAq
  have zf := va_Zqof (A := fun q => s.heap.size ≤ q) (hts _ xw_ls9) (hts _ xw_in3) (hwt _ (xwm_c0 _ (List.mem_cons_of_mem _ List.mem_cons_self))) hAq
  obtain ⟨k0, v0, e0, o0, c0, w0, b0⟩ := xstr_ok (A := fun q => s.heap.size ≤ q) (by decide +kernel) (fun w hw => hwt w (xwm_t0 w hw)) hAq
  obtain ⟨k1, v1, e1, o1, c1, w1, b1⟩ := xstr_ok (A := fun q => s.heap.size ≤ q) (by decide +kernel) (fun w hw => hwt w (xwm_t1 w hw)) hAq
  obtain ⟨k2, v2, e2, o2, c2, w2, b2⟩ := xstr_ok (A := fun q => s.heap.size ≤ q) (by decide +kernel) (fun w hw => hwt w (xwm_t2 w hw)) hAq
  obtain ⟨k3, v3, e3, o3, c3, w3, b3⟩ := xstr_ok (A := fun q => s.heap.size ≤ q) (by decide +kernel) (fun w hw => hwt w (xwm_t3 w hw)) hAq
  obtain ⟨k4, v4, e4, o4, c4, w4, b4⟩ := xstr_ok (A := fun q => s.heap.size ≤ q) (by decide +kernel) (fun w hw => hwt w (xwm_t4 w hw)) hAq
  obtain ⟨k5, v5, e5, o5, c5, w5, b5⟩ := xstr_ok (A := fun q => s.heap.size ≤ q) (by decide +kernel) (fun w hw => hwt w (xwm_t5 w hw)) hAq
  obtain ⟨k6, v6, e6, o6, c6, w6, b6⟩ := xstr_ok (A := fun q => s.heap.size ≤ q) (by decide +kernel) (fun w hw => hwt w (xwm_t6 w hw)) hAq
  obtain ⟨k7, v7, e7, o7, c7, w7, b7⟩ := xstr_ok (A := fun q => s.heap.size ≤ q) (by decide +kernel) (fun w hw => hwt w (xwm_t7 w hw)) hAq
  obtain ⟨k8, v8, e8, o8, c8, w8, b8⟩ := xstr_ok (A := fun q => s.heap.size ≤ q) (by decide +kernel) (fun w hw => hwt w (xwm_t8 w hw)) hAq
  obtain ⟨k9, v9, e9, o9, c9, w9, b9⟩ := xstr_ok (A := fun q => s.heap.size ≤ q) (by decide +kernel) (fun w hw => hwt w (xwm_t9 w hw)) hAq
  obtain ⟨k10, v10, e10, o10, c10, w10, b10⟩ := xstr_ok (A := fun q => s.heap.size ≤ q) (by decide +kernel) (fun w hw => hwt w (xwm_t10 w hw)) hAq
  obtain ⟨k11, v11, e11, o11, c11, w11, b11⟩ := xstr_ok (A := fun q => s.heap.size ≤ q) (by decide +kernel) (fun w hw => hwt w (xwm_t11 w hw)) hAq
  obtain ⟨k12, v12, e12, o12, c12, w12, b12⟩ := xstr_ok (A := fun q => s.heap.size ≤ q) (by decide +kernel) (fun w hw => hwt w (xwm_t12 w hw)) hAq
  obtain ⟨k13, v13, e13, o13, c13, w13, b13⟩ := xstr_ok (A := fun q => s.heap.size ≤ q) (by decide +kernel) (fun w hw => hwt w (xwm_t13 w hw)) hAq
  obtain ⟨k14, v14, e14, o14, c14, w14, b14⟩ := xstr_ok (A := fun q => s.heap.size ≤ q) (by decide +kernel) (fun w hw => hwt w (xwm_t14 w hw)) hAq
  obtain ⟨k15, v15, e15, o15, c15, w15, b15⟩ := xstr_ok (A := fun q => s.heap.size ≤ q) (by decide +kernel) (fun w hw => hwt w (xwm_t15 w hw)) hAq
  obtain ⟨fm, tF, hfm⟩ : ∃ fm tF : Nat, va_Z "jdk/internal/util/Preconditions" "SIOOBE_FORMATTER" "Ljava/util/function/BiFunction;" (bif Nat.beq fm 0 then .null else .ref tF) (fun q => s.heap.size ≤ q) s s.heap := by
    rcases zf with q | ⟨t, q⟩
    · exact ⟨0, 0, q⟩
    · exact ⟨1, t, q⟩
  have htsT : ∀ w ∈ xTs, w.before #[Value.ref b] s = true := fun w hw => hts w (List.mem_filter.mp hw).1
  have h0 : ∀ k : Nat, ∃ x : ClassId × (Nat → Nat), ∀ q : vw_C, xcl[k]? = some q → u_Kn s q.1 q.2.1 q.2.2 x.1 x.2 := by
    intro k
    cases hq : xcl[k]? with
    | none => exact ⟨(0, fun _ => 0), fun q h => by cases h⟩
    | some q =>
      obtain ⟨h1, h2⟩ := xcl_D k q hq
      obtain ⟨cC, iS, h3⟩ := u_known htsT h1 (htsT _ h2)
      exact ⟨(cC, iS), fun q' h => by cases h; exact h3⟩
  obtain ⟨cI, hcI⟩ := Classical.axiomOfChoice h0
  obtain ⟨a0, r0, f0⟩ := xarr_p (htsT _ xw_a0)
  obtain ⟨a1, r1, f1⟩ := xarr_p (htsT _ xw_a1)
  obtain ⟨a2, r2, f2⟩ := xarr_p (htsT _ xw_a2)
  obtain ⟨a3, r3, f3⟩ := xarr_o (hts _ xw_o3)
  obtain ⟨a4, r4, f4⟩ := xarr_o (hts _ xw_o4)
  obtain ⟨a5, r5, f5⟩ := xarr_o (hts _ xw_o5)
  obtain ⟨a6, r6, f6⟩ := xarr_o (hts _ xw_o6)
  obtain ⟨a7, r7, f7⟩ := xarr_o (hts _ xw_o7)
  refine ⟨(fun k => (cI k).1, fun k => (cI k).2), fun t => ([a0, a1, a2, a3, a4, a5, a6, a7] : List ClassId).getD t 0, [(a0, .int), (a1, .long), (a2, .boolean), (a3, .object "PacketWall$Packet"), (a4, .object "PacketWall$Gathering"), (a5, .object "PacketWall$Flow"), (a6, .object "PacketWall$Row"), (a7, .object "PacketWall$Frame")], xcst b [t1, t2, t3, t4, t5, t6, t7, t8] [k0, k1, k2, k3, k4, k5, k6, k7, k8, k9, k10, k11, k12, k13, k14, k15] [v0, v1, v2, v3, v4, v5, v6, v7, v8, v9, v10, v11, v12, v13, v14, v15] tF, fm, rfl, fun A hA => ⟨⟨fun k q h => hcI k q h, ?_⟩, ⟨⟨rfl, rfl, rfl⟩, ⟨xw_a0, xw_a1, xw_a2⟩, ?_⟩, ⟨?_, ?_, ?_, ?_, ?_, ?_⟩, fun q hq => va_Nw.of rfl (hts _ (xNs_in q hq))⟩⟩
  · intro k q h
    match k, h with
    | 0, h => cases h; exact ⟨r0, f0⟩
    | 1, h => cases h; exact ⟨r1, f1⟩
    | 2, h => cases h; exact ⟨r2, f2⟩
    | 3, h => cases h; exact ⟨r3, f3⟩
    | 4, h => cases h; exact ⟨r4, f4⟩
    | 5, h => cases h; exact ⟨r5, f5⟩
    | 6, h => cases h; exact ⟨r6, f6⟩
    | 7, h => cases h; exact ⟨r7, f7⟩
    | k + 8, h => simp at h
  · intro t ci ht
    have ht : xT_E t = some ci := ht
    match t, ht with
    | 0, ht => cases ht
    | 1, ht => cases ht
    | 2, ht => cases ht
    | 3, ht => cases ht; exact ⟨_, rfl, rfl, va_AO.of (hts _ xw_o3)⟩
    | 4, ht => cases ht; exact ⟨_, rfl, rfl, va_AO.of (hts _ xw_o4)⟩
    | 5, ht => cases ht; exact ⟨_, rfl, rfl, va_AO.of (hts _ xw_o5)⟩
    | 6, ht => cases ht; exact ⟨_, rfl, rfl, va_AO.of (hts _ xw_o6)⟩
    | 7, ht => cases ht; exact ⟨_, rfl, rfl, va_AO.of (hts _ xw_o7)⟩
    | t + 8, ht => cases ht
  · intro k N f hk
    have hk : xT_A A k = some (N, f) := hk
    match k, hk with
    | 0, hk =>
      rcases hA with rfl | rfl
      · cases hk
      cases hk
      obtain ⟨scr, g1, g2, g3, g4, g5⟩ := hX
      exact ⟨scr, g1, g2, g3, by omega, by rw [g4], g5, by show ¬ s.heap.size ≤ b; omega⟩
    | 1, hk => cases hk; exact y1
    | 2, hk => cases hk; exact y2
    | 3, hk => cases hk; exact y3
    | 4, hk => cases hk; exact y4
    | 5, hk => cases hk; exact y5
    | 6, hk => cases hk; exact y6
    | 7, hk => cases hk; exact y7
    | 8, hk => cases hk; exact y8
    | k + 9, hk => cases hk
  · intro oc idx v hk
    have hk : xT_S A oc idx = some v := hk
    unfold xT_S at hk
    cases hb : (Nat.beq oc 15 && Nat.beq idx 1053) with
    | true =>
      rw [hb] at hk
      rw [Bool.and_eq_true] at hb
      obtain ⟨q1, q2⟩ := hb
      have q1 := Nat.eq_of_beq_eq_true q1
      have q2 := Nat.eq_of_beq_eq_true q2
      subst q1
      subst q2
      rcases hA with rfl | rfl
      · cases hk
      refine ⟨_, _, _, xw_fmt, ?_⟩
      have hk : (bif Nat.beq fm 0 then some (Value.null) else some (.ref 1000300)) = some v := hk
      cases h0 : Nat.beq fm 0 with
      | true => rw [h0] at hk hfm; cases hk; exact hfm
      | false => rw [h0] at hk hfm; cases hk; exact hfm
    | false =>
      rw [hb] at hk
      obtain ⟨q, z, hz, hv, hl⟩ := xS0_ok hk
      refine ⟨_, _, _, hl, ?_⟩
      subst hv
      match q, hz with
      | 0, hz => cases hz; exact z1
      | 1, hz => cases hz; exact z2
      | 2, hz => cases hz; exact z3
      | 3, hz => cases hz; exact z4
      | 4, hz => cases hz; exact z5
      | 5, hz => cases hz; exact z6
      | 6, hz => cases hz; exact z7
      | 7, hz => cases hz; exact z8
      | 8, hz => cases hz; exact zc
      | q + 9, hz => cases hz
  · intro k N f hk
    have hk : xT_B k = some (N, f) := hk
    unfold xT_B at hk
    cases hb : (Nat.ble 200 k && Nat.blt k 216) with
    | false => rw [hb] at hk; cases hk
    | true =>
      rw [hb] at hk
      rw [Bool.and_eq_true] at hb
      have q1 := Nat.le_of_ble_eq_true hb.1
      have q2 := Nat.blt_eq.mp hb.2
      obtain ⟨j, rfl⟩ : ∃ j, k = 200 + j := ⟨k - 200, by omega⟩
      rw [cond_true] at hk
      obtain ⟨e1, e2⟩ := Prod.mk.inj (Option.some.inj hk)
      subst e1
      subst e2
      rcases (show j = 0 ∨ j = 1 ∨ j = 2 ∨ j = 3 ∨ j = 4 ∨ j = 5 ∨ j = 6 ∨ j = 7 ∨ j = 8 ∨ j = 9 ∨ j = 10 ∨ j = 11 ∨ j = 12 ∨ j = 13 ∨ j = 14 ∨ j = 15 by omega) with rfl | rfl | rfl | rfl | rfl | rfl | rfl | rfl | rfl | rfl | rfl | rfl | rfl | rfl | rfl | rfl
      · exact b0
      · exact b1
      · exact b2
      · exact b3
      · exact b4
      · exact b5
      · exact b6
      · exact b7
      · exact b8
      · exact b9
      · exact b10
      · exact b11
      · exact b12
      · exact b13
      · exact b14
      · exact b15
  · intro k x hk
    have hk : xT_O k = some x := hk
    unfold xT_O at hk
    cases hb : (Nat.ble 100 k && Nat.blt k 116) with
    | false => rw [hb] at hk; cases hk
    | true =>
      rw [hb] at hk
      rw [Bool.and_eq_true] at hb
      have q1 := Nat.le_of_ble_eq_true hb.1
      have q2 := Nat.blt_eq.mp hb.2
      obtain ⟨j, rfl⟩ : ∃ j, k = 100 + j := ⟨k - 100, by omega⟩
      cases hk
      rcases (show j = 0 ∨ j = 1 ∨ j = 2 ∨ j = 3 ∨ j = 4 ∨ j = 5 ∨ j = 6 ∨ j = 7 ∨ j = 8 ∨ j = 9 ∨ j = 10 ∨ j = 11 ∨ j = 12 ∨ j = 13 ∨ j = 14 ∨ j = 15 by omega) with rfl | rfl | rfl | rfl | rfl | rfl | rfl | rfl | rfl | rfl | rfl | rfl | rfl | rfl | rfl | rfl
      · exact ⟨o0, c0, w0⟩
      · exact ⟨o1, c1, w1⟩
      · exact ⟨o2, c2, w2⟩
      · exact ⟨o3, c3, w3⟩
      · exact ⟨o4, c4, w4⟩
      · exact ⟨o5, c5, w5⟩
      · exact ⟨o6, c6, w6⟩
      · exact ⟨o7, c7, w7⟩
      · exact ⟨o8, c8, w8⟩
      · exact ⟨o9, c9, w9⟩
      · exact ⟨o10, c10, w10⟩
      · exact ⟨o11, c11, w11⟩
      · exact ⟨o12, c12, w12⟩
      · exact ⟨o13, c13, w13⟩
      · exact ⟨o14, c14, w14⟩
      · exact ⟨o15, c15, w15⟩
  · intro oc idx a hk
    have hk : xT_K oc idx = some (.ref a) := hk
    obtain ⟨q, h1, h2, h3⟩ := xKs_ok hk
    subst h2
    match q, h1, h3 with
    | 0, _, h3 => cases h3; exact ⟨_, vk_R.of (hts _ xw_sr0) e0⟩
    | 1, _, h3 => cases h3; exact ⟨_, vk_R.of (hts _ xw_sr1) e1⟩
    | 2, _, h3 => cases h3; exact ⟨_, vk_R.of (hts _ xw_sr2) e2⟩
    | 3, _, h3 => cases h3; exact ⟨_, vk_R.of (hts _ xw_sr3) e3⟩
    | 4, _, h3 => cases h3; exact ⟨_, vk_R.of (hts _ xw_sr4) e4⟩
    | 5, _, h3 => cases h3; exact ⟨_, vk_R.of (hts _ xw_sr5) e5⟩
    | 6, _, h3 => cases h3; exact ⟨_, vk_R.of (hts _ xw_sr6) e6⟩
    | 7, _, h3 => cases h3; exact ⟨_, vk_R.of (hts _ xw_sr7) e7⟩
    | 8, _, h3 => cases h3; exact ⟨_, vk_R.of (hts _ xw_sr8) e8⟩
    | 9, _, h3 => cases h3; exact ⟨_, vk_R.of (hts _ xw_sr9) e9⟩
    | 10, _, h3 => cases h3; exact ⟨_, vk_R.of (hts _ xw_sr10) e10⟩
    | 11, _, h3 => cases h3; exact ⟨_, vk_R.of (hts _ xw_sr11) e11⟩
    | 12, _, h3 => cases h3; exact ⟨_, vk_R.of (hts _ xw_sr12) e12⟩
    | 13, _, h3 => cases h3; exact ⟨_, vk_R.of (hts _ xw_sr13) e13⟩
    | 14, _, h3 => cases h3; exact ⟨_, vk_R.of (hts _ xw_sr14) e14⟩
    | 15, _, h3 => cases h3; exact ⟨_, vk_R.of (hts _ xw_sr15) e15⟩
    | q + 16, h1, _ => exact absurd h1 (by omega)
  · intro oc idx g hk
    have hk : xT_G oc idx = some g := hk
    unfold xT_G at hk
    cases h1 : Nat.beq oc 15 with
    | false => rw [h1] at hk; cases hk
    | true =>
      have q1 := Nat.eq_of_beq_eq_true h1
      subst q1
      rw [h1] at hk
      cases h2 : Nat.beq idx 9 with
      | true =>
        have q2 := Nat.eq_of_beq_eq_true h2
        subst q2
        rw [h2] at hk
        cases hk
        exact xw_gv
      | false =>
        rw [h2] at hk
        cases h3 : Nat.beq idx 15 with
        | false => rw [h3] at hk; cases hk
        | true =>
          have q3 := Nat.eq_of_beq_eq_true h3
          subst q3
          rw [h3] at hk
          cases hk
          exact xw_gc
theorem xlaw_cd (pc : Nat) (i : Instr) (h : xm_law.2.2.2.2.2.2 pc = some i) : ∃ len : Nat, decode xm_law.2.2.1 pc = .ok (i, len) ∧ (ix_len i = 0 ∨ ix_len i = len) := by
  have h1 : xc_law_c pc = some i := h
  have h2 := ix_cd_ok (b := code) (cd := xc_law_c) xc_law_ok (xg_no _ _) pc i h1
  exact h2
section XLAW
variable {p : Program} {l : Launch} {e : Env} {s : State} {m : MethodId} {below : List Frame} {meth : Method} {c : Code} {b L : Nat} {xs : Nat → Int32} {D : va_G} {aC : Nat → ClassId} {tys : List (ClassId × FieldType)} {cst : Nat → Nat}
end XLAW
end
