-- ===== end of PART A; then your names; then what follows =====
/-! THE CLAIM OUT OF ONE WALK OF THE LAW'S BODY. Your part is whole_start (and what it stands on); all else here is the same for every law, but numbers. -/
def R_law : String := "PacketWallLaw"
def lw_P (b : Addr) (xs : List Int32) (args : Array Value) (s : State) : Prop := args = #[.ref b] ∧ s.IntsAt b xs ∧ xs.length ≤ 6 ∧ (Jvm.Cond.and given_1 narrow_1).before args s = true
def lw_Q (_ : Array Value) (s : State) (o : Outcome) (t : State) : Prop := o = .returned (some (.int 1)) ∧ Framed s o t [] 600000 7302250
def lw_Z (below : List Frame) (a : Array Value) (s : State) : State → Prop := fun t => ∃ o, t.status = .running ∧ Ended t below o ∧ lw_Q a s o t
/-- the law's own end, with 1 on the stack, nothing written that was there before, its room as the claim has it -/
theorem lw_ret {p : Program} {l : Launch} {e : Env} {s : State} {m : MethodId} {below : List Frame} {meth : Method} {c : Code} {b : Nat} (hx : p.tables.exec = Jvm.exec) (hb : c.code = code) (hr : meth.sig.returnType = ret) (hlocks : meth.locks = false) {pc : Nat} {H : Heap} {ls : Array Slot} (hdg : decode code pc = .ok (.ireturn, 1)) : W p l e room_1 s m #[Value.ref b] below meth c H [] 600000 7302250 (lw_Z below #[Value.ref b] s) (F0 m pc ls [.int 1]) := by
  intro T hT X
  obtain ⟨fs, hret, hrun, hended, hW, hframe⟩ := X.leave (v := some (.int 1)) (hlocks := hlocks) (fun h => by rw [hr] at h; cases h)
  have hmeth' : T.vm.method? m = some meth := X.method'
  refine ⟨T.setFrames fs, ?_, .returned (some (.int 1)), hrun, hended, rfl, ⟨_, rfl⟩, hW, hframe⟩
  jvm_step X.here [X.here.top, hx, hb, hdg, hmeth', hr, ret, narrow_b1]
  (try refine ⟨rfl, ?_⟩); (try refine ⟨rfl, ?_⟩)
  first | (intro acts; rw [hret _ acts rfl rfl rfl]) | rw [hret _ _ rfl rfl rfl]
  exact Steps.refl _
/-- what holds at the law's entry: the machine, the code, the tables' words (any of lw_tbl by 'hts w (by decide +kernel)'), the script of L ints xs at the cell b, what the Statement gives of the start (any of its parts by flat_of_before) -/
def lw_At (p : Program) (s : State) (m : MethodId) (meth : Method) (c : Code) (b L : Nat) (xs : Nat → Int32) : Prop :=
  p.tables.exec = Jvm.exec ∧ c.code = code ∧ meth.sig.returnType = ret ∧ c.maxLocals = 4 ∧ s.vm.findClass R_law = some m.cls ∧ (∀ w ∈ lw_tbl, w.before #[Value.ref b] s = true) ∧ va_X b L xs s s.heap ∧ b < s.heap.size ∧ meth.locks = false ∧ (Jvm.Cond.and given_1 narrow_1).before #[Value.ref b] s = true

/-! ===== the law's frame over the interpreter ===== -/
def xs_A (L : Nat) (xs : Nat → Int32) : Nat → Option (Nat × (Nat → Int32)) := fun k => bif Nat.beq k 0 then some (L, xs) else none
def xh_e : ix_H := (0, 0, fun _ => .inr (0, []))
theorem xarr_p {s : State} {args : Array Value} {ty : FieldType} (h : (Cond.arrayClass ty).before args s = true) : ∃ cA : ClassId, ArrOfT s cA ty ∧ s.vm.findClass ("[" ++ ty.toString) = some cA := by
  obtain ⟨cA, kA, comp, hf, hk, hkind⟩ := Cond.arrayClass_spec h
  exact ⟨cA, fun N z => ⟨(fun k h => by cases h), kA, hk, comp, hkind⟩, hf⟩
theorem xarr_o {s : State} {args : Array Value} {C : String} (h : (Cond.arrayOver (.object C)).before args s = true) : ∃ cA : ClassId, ArrOfT s cA (.object C) ∧ va_RA s cA (.object C) := by
  obtain ⟨comp, cA, kA, h1, -, h3, h4, h5⟩ := Cond.arrayOver_spec h
  exact ⟨cA, fun N z => ⟨(fun k h => by cases h), kA, h3, comp, h4⟩, kA, comp, h3, h4, h1, h5⟩
theorem xcl_D : ∀ (k : Nat) (q : vw_C), xcl[k]? = some q → (∀ w ∈ u_ws q.1 q.2.1 q.2.2, w ∈ xTs) ∧ Cond.instantiable q.1 q.2.2 ∈ xTs := fun k q h => by
  obtain ⟨-, -, h3, -, -, -, h7, -⟩ := xok_D (fun _ => none) k q h
  exact ⟨h3, h7⟩
theorem xNs_in : ∀ q ∈ xNs, Cond.methodLinkNest q.1 q.2.1 q.2.2 ix_host ∈ lw_tbl := by
  have h : xNs.all (fun q => match xpN q.1 q.2.1 with
    | some (k, i) => decide ((xW k)[i]? = some (Cond.methodLinkNest q.1 q.2.1 q.2.2 ix_host))
    | none => false) = true := by decide +kernel
  intro q hq
  have h1 := List.all_eq_true.mp h q hq
  split at h1
  · exact xW_in _ _ (List.mem_of_getElem? (of_decide_eq_true h1))
  · cases h1
theorem xstart {p : Program} {s : State} {m : MethodId} {meth : Method} {c : Code} {b L : Nat} {xs : Nat → Int32} (C0 : lw_At p s m meth c b L xs) : ∃ (D : va_G) (aC : Nat → ClassId) (tys : List (ClassId × FieldType)), ∀ A : Nat → Option (Nat × (Nat → Int32)), (A = (fun _ => none) ∨ A = xs_A L xs) → ix_St (xT A) D xcl aC tys xon xTs xNs (ix_ad s.heap.size (fun _ => b)) s.heap.size s := by
  obtain ⟨hx, hb, hr, hml, hown, hts, hX, hbl, hlocks, hgv⟩ := C0
  have htsT : ∀ w ∈ xTs, w.before #[Value.ref b] s = true := fun w hw => hts w (List.mem_filter.mp hw).1
  have h0 : ∀ k : Nat, ∃ x : ClassId × (Nat → Nat), ∀ q : vw_C, xcl[k]? = some q → u_Kn s q.1 q.2.1 q.2.2 x.1 x.2 := by
    intro k
    cases hq : xcl[k]? with
    | none => exact ⟨(0, fun _ => 0), fun q h => by cases h⟩
    | some q =>
      obtain ⟨h1, h2⟩ := xcl_D k q hq
      obtain ⟨cC, iS, h3⟩ := u_known htsT h1 (htsT _ h2)
      exact ⟨(cC, iS), fun q' h => by cases h; exact h3⟩
  obtain ⟨cI, hcI⟩ := Classical.axiomOfChoice h0
  obtain ⟨a0, r0, f0⟩ := xarr_p (htsT _ xw_a0)
  obtain ⟨a1, r1, f1⟩ := xarr_p (htsT _ xw_a1)
  obtain ⟨a2, r2, f2⟩ := xarr_p (htsT _ xw_a2)
  obtain ⟨a3, r3, f3⟩ := xarr_o (hts _ xw_o3)
  obtain ⟨a4, r4, f4⟩ := xarr_o (hts _ xw_o4)
  obtain ⟨a5, r5, f5⟩ := xarr_o (hts _ xw_o5)
  obtain ⟨a6, r6, f6⟩ := xarr_o (hts _ xw_o6)
  obtain ⟨a7, r7, f7⟩ := xarr_o (hts _ xw_o7)
  refine ⟨(fun k => (cI k).1, fun k => (cI k).2), fun t => ([a0, a1, a2, a3, a4, a5, a6, a7] : List ClassId).getD t 0, [(a0, .int), (a1, .long), (a2, .boolean), (a3, .object "PacketWall$Packet"), (a4, .object "PacketWall$Gathering"), (a5, .object "PacketWall$Flow"), (a6, .object "PacketWall$Row"), (a7, .object "PacketWall$Frame")], fun A hA => ⟨⟨fun k q h => hcI k q h, ?_⟩, ⟨⟨rfl, rfl, rfl⟩, ⟨xw_a0, xw_a1, xw_a2⟩, ?_⟩, ⟨?_, ?_⟩, fun q hq => va_Nw.of rfl (hts _ (xNs_in q hq))⟩⟩
  · intro k q h
    match k, h with
    | 0, h => cases h; exact ⟨r0, f0⟩
    | 1, h => cases h; exact ⟨r1, f1⟩
    | 2, h => cases h; exact ⟨r2, f2⟩
    | 3, h => cases h; exact ⟨r3, f3⟩
    | 4, h => cases h; exact ⟨r4, f4⟩
    | 5, h => cases h; exact ⟨r5, f5⟩
    | 6, h => cases h; exact ⟨r6, f6⟩
    | 7, h => cases h; exact ⟨r7, f7⟩
    | k + 8, h => simp at h
  · intro t ci ht
    have ht : xT_E t = some ci := ht
    match t, ht with
    | 0, ht => cases ht
    | 1, ht => cases ht
    | 2, ht => cases ht
    | 3, ht => cases ht; exact ⟨_, rfl, rfl, va_AO.of (hts _ xw_o3)⟩
    | 4, ht => cases ht; exact ⟨_, rfl, rfl, va_AO.of (hts _ xw_o4)⟩
    | 5, ht => cases ht; exact ⟨_, rfl, rfl, va_AO.of (hts _ xw_o5)⟩
    | 6, ht => cases ht; exact ⟨_, rfl, rfl, va_AO.of (hts _ xw_o6)⟩
    | 7, ht => cases ht; exact ⟨_, rfl, rfl, va_AO.of (hts _ xw_o7)⟩
    | t + 8, ht => cases ht
  · intro k N f hk
    have hk : A k = some (N, f) := hk
    rcases hA with rfl | rfl
    · cases hk
    · unfold xs_A at hk
      cases hb0 : Nat.beq k 0 with
      | false => rw [hb0] at hk; cases hk
      | true =>
        rw [hb0] at hk
        cases hk
        have := Nat.eq_of_beq_eq_true hb0
        subst this
        obtain ⟨scr, g1, g2, g3, g4, g5⟩ := hX
        exact ⟨scr, g1, g2, g3, by omega, by rw [g4], g5, by show ¬ s.heap.size ≤ b; omega⟩
  · intro oc idx k hk
    cases hk
theorem xlaw_cd (pc : Nat) (i : Instr) (h : xm_law.2.2.2.2.2.2 pc = some i) : ∃ len : Nat, decode xm_law.2.2.1 pc = .ok (i, len) ∧ (ix_len i = 0 ∨ ix_len i = len) := by
  have h1 : xc_law_c pc = some i := h
  have h2 := ix_cd_ok (b := code) (cd := xc_law_c) xc_law_ok (xg_no 1344 xc_law) pc i h1
  exact h2
section XLAW
variable {p : Program} {l : Launch} {e : Env} {s : State} {m : MethodId} {below : List Frame} {meth : Method} {c : Code} {b L : Nat} {xs : Nat → Int32} {D : va_G} {aC : Nat → ClassId} {tys : List (ClassId × FieldType)}
set_option maxRecDepth 100000 in
/-- a piece of the law's run -/
theorem xstep (C0 : lw_At p s m meth c b L xs) {A : Nat → Option (Nat × (Nat → Int32))} (hSt : ix_St (xT A) D xcl aC tys xon xTs xNs (ix_ad s.heap.size (fun _ => b)) s.heap.size s) {k d j : Nat} (hd : d ≤ 1000) {σ : ix_S} {res : ix_S ⊕ (Option Value × ix_H)} (h : ix_iter (xT A) (ix_run (xT A) k d) xm_law j σ = some res) (h1 : (ix_rh res).1 ≤ 600000) (h2 : (ix_rh res).2.1 ≤ 7302250)
    (hE : ix_End p l e room_1 s m #[Value.ref b] below meth c (lw_Z below #[Value.ref b] s) D xcl aC (ix_ad s.heap.size (fun _ => b)) s.heap.size 0 0 xm_law res) : ix_End p l e room_1 s m #[Value.ref b] below meth c (lw_Z below #[Value.ref b] s) D xcl aC (ix_ad s.heap.size (fun _ => b)) s.heap.size 0 0 xm_law (.inl σ) := by
  obtain ⟨hx, hb, hr, hml, hown, hts, hX, hbl, hlocks, hgv⟩ := C0
  have had : ∀ a : Nat, a < 1000000 → ix_ad s.heap.size (fun _ => b) a = s.heap.size + a := fun a ha => ix_ad_lt ha
  have hsnd : ix_Snd l (xT A) D xcl aC tys xon xTs xNs (ix_ad s.heap.size (fun _ => b)) s.heap.size d (ix_run (xT A) k d) := ix_run_ok l had (xok A) k d
  refine (ix_iter_ok (n0 := 0) (k0 := 0) (ix_run_mono (xT A) k d) hx hb hml had (fun w hw => hts w (List.mem_filter.mp hw).1) hown (xok A) hSt (Nat.add_zero _).symm hsnd ?_ ?_ (fun q => by cases q) xlaw_cd j σ res h).2 (Nat.zero_le _) (Nat.zero_le _) ?_ ?_ hE
  · show d + 1 ≤ 2048
    omega
  · show 64 * (d + 1) ≤ 84000
    omega
  · show (ix_rh res).1 - 0 ≤ 600000
    omega
  · show (ix_rh res).2.1 - 0 ≤ 7302250
    omega
/-- the law's end -/
theorem xend (C0 : lw_At p s m meth c b L xs) {hp : ix_H} (h1 : hp.1 ≤ 600000) (h2 : hp.2.1 ≤ 7302250) : ix_End p l e room_1 s m #[Value.ref b] below meth c (lw_Z below #[Value.ref b] s) D xcl aC (ix_ad s.heap.size (fun _ => b)) s.heap.size 0 0 xm_law (.inr (some (.int 1), hp)) := by
  obtain ⟨hx, hb, hr, hml, hown, hts, hX, hbl, hlocks, hgv⟩ := C0
  intro H1 locs1 arr1 pc' i st' hW hi hret
  unfold ix_ret at hret
  split at hret
  · split at hret <;> cases hret
  · split at hret
    · split at hret
      · cases hret
        obtain ⟨len, hdc, hlen⟩ := xlaw_cd pc' _ hi
        refine va_forget (fun q hq => hW.2.2.2.2.2 q hq) ?_
        refine W.widen (k := 600000) (n := 7302250) (by omega) (by omega) ?_
        have e9 : ix_len Instr.ireturn = len := hlen.resolve_left (by decide)
        rw [← e9] at hdc
        exact lw_ret hx hb hr hlocks hdc
      · cases hret
    · cases hret
  · split at hret <;> cases hret
  · split at hret <;> cases hret
  · cases hret
/-- from the entry -/
theorem xentry (C0 : lw_At p s m meth c b L xs) (hE : ix_End p l e room_1 s m #[Value.ref b] below meth c (lw_Z below #[Value.ref b] s) D xcl aC (ix_ad s.heap.size (fun _ => b)) s.heap.size 0 0 xm_law (.inl (0, [(0, .ref 1000000)], [], xh_e))) : W p l e room_1 s m #[Value.ref b] below meth c s.heap [] 0 0 (lw_Z below #[Value.ref b] s) (entryFrame m ([Value.ref b] : List Value).toArray 4) := by
  rw [lg_entry_eq]
  have hl := lv_entry ([Value.ref b]) (n := 4) (Nat.le_of_ble_eq_true rfl)
  exact hE s.heap [] _ ⟨Nat.zero_le _, fun k q h => by simp [ix_ws, xh_e] at h, ⟨fun i j x y h => by simp [ix_ws, xh_e] at h, fun k q h => by simp [ix_ws, xh_e] at h⟩, va_S.rf⟩ hl
end XLAW
