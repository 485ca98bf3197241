-- ===== end of PART A; then your names; then what follows =====
/-! THE CLAIM OUT OF ONE WALK OF THE LAW'S BODY. Your part is whole_start (and what it stands on); all else here is the same for every law, but numbers. -/
def R_law : String := "PacketWallLaw"
def lw_P (b : Addr) (xs : List Int32) (args : Array Value) (s : State) : Prop := args = #[.ref b] ∧ s.IntsAt b xs ∧ xs.length ≤ 3072 ∧ (Jvm.Cond.and given_1 narrow_1).before args s = true
def lw_Q (_ : Array Value) (s : State) (o : Outcome) (t : State) : Prop := o = .returned (some (.int 1)) ∧ Framed s o t [] 600000 7302250
def lw_Z (below : List Frame) (a : Array Value) (s : State) : State → Prop := fun t => ∃ o, t.status = .running ∧ Ended t below o ∧ lw_Q a s o t
/-- the law's own end, with 1 on the stack, nothing written that was there before, its room as the claim has it -/
theorem lw_ret {p : Program} {l : Launch} {e : Env} {s : State} {m : MethodId} {below : List Frame} {meth : Method} {c : Code} {b : Nat} (hx : p.tables.exec = Jvm.exec) (hb : c.code = code) (hr : meth.sig.returnType = ret) (hlocks : meth.locks = false) {pc : Nat} {H : Heap} {ls : Array Slot} (hdg : decode code pc = .ok (.ireturn, 1)) : W p l e room_1 s m #[Value.ref b] below meth c H [] 600000 7302250 (lw_Z below #[Value.ref b] s) (F0 m pc ls [.int 1]) := by
  intro T hT X
  obtain ⟨fs, hret, hrun, hended, hW, hframe⟩ := X.leave (v := some (.int 1)) (hlocks := hlocks) (fun h => by rw [hr] at h; cases h)
  have hmeth' : T.vm.method? m = some meth := X.method'
  refine ⟨T.setFrames fs, ?_, .returned (some (.int 1)), hrun, hended, rfl, ⟨_, rfl⟩, hW, hframe⟩
  jvm_step X.here [X.here.top, hx, hb, hdg, hmeth', hr, ret, narrow_b1]
  (try refine ⟨rfl, ?_⟩); (try refine ⟨rfl, ?_⟩)
  first | (intro acts; rw [hret _ acts rfl rfl rfl]) | rw [hret _ _ rfl rfl rfl]
  exact Steps.refl _
/-- what holds at the law's entry: the machine, the code, the tables' words (any of lw_tbl by 'hts w (by decide +kernel)'), the script of L ints xs at the cell b, what the Statement gives of the start (any of its parts by flat_of_before) -/
def lw_At (p : Program) (s : State) (m : MethodId) (meth : Method) (c : Code) (b L : Nat) (xs : Nat → Int32) : Prop :=
  p.tables.exec = Jvm.exec ∧ c.code = code ∧ meth.sig.returnType = ret ∧ c.maxLocals = 4 ∧ s.vm.findClass R_law = some m.cls ∧ (∀ w ∈ lw_tbl, w.before #[Value.ref b] s = true) ∧ va_X b L xs s s.heap ∧ b < s.heap.size ∧ meth.locks = false ∧ (Jvm.Cond.and given_1 narrow_1).before #[Value.ref b] s = true

/-! ===== what the start gives of static rows and Strings ===== -/
def xeatL : List Cond → List Cond → List Cond
  | [], ws => ws
  | _ :: _, [] => []
  | c :: cs, w :: r => bif decide (c = w) then xeatL cs r else xeatL cs (w :: r)
theorem xeatL_ok : ∀ (cs ws : List Cond), ∀ w ∈ ws, w ∈ xeatL cs ws ∨ w ∈ cs
  | [], ws, w, h => Or.inl h
  | _ :: _, [], w, h => by cases h
  | c :: cs, v :: r, w, h => by
    unfold xeatL
    cases hd : decide (c = v) with
    | true =>
      have e : c = v := of_decide_eq_true hd
      rcases List.mem_cons.mp h with rfl | h
      · exact Or.inr (by rw [e]; exact List.mem_cons_self)
      · exact (xeatL_ok cs r w h).imp id (fun q => List.mem_cons_of_mem _ q)
    | false => exact (xeatL_ok cs (v :: r) w h).imp id (fun q => List.mem_cons_of_mem _ q)
def xwStat (C n : String) (v : List Int32) : List Cond := Cond.arrayOf (.static C n "[I") .int :: Cond.eq (.length (.static C n "[I")) (.int (Int32.ofNat v.length)) :: (List.range v.length).map (fun j => Cond.eq (.elem (.static C n "[I") (.int (Int32.ofNat j))) (.int (v.getD j 0)))
def xwStr (C : String) (k : Nat) (v : List Int32) : List Cond := Cond.exactly (.string C k) "java/lang/String" :: Cond.eq (.field (.string C k) "java/lang/String" "coder" "B") (.int 0) :: Cond.arrayOf (.field (.string C k) "java/lang/String" "value" "[B") .byte :: Cond.eq (.length (.field (.string C k) "java/lang/String" "value" "[B")) (.int (Int32.ofNat v.length)) :: (List.range v.length).map (fun j => Cond.eq (.elem (.field (.string C k) "java/lang/String" "value" "[B") (.int (Int32.ofNat j))) (.int (v.getD j 0)))
def xwant : List Cond := xwStat "PacketWall$Headers" "LEAST" xv_1 ++ xwStat "PacketWall$Headers" "FIELD_COUNTS" xv_2 ++ xwStat "PacketWall$Headers" "FIRST_FORM" xv_3 ++ xwStat "PacketWall$Headers" "FORMS" xv_4 ++ xwStat "PacketWall$Flow" "NEXT_STATES" xv_5 ++ xwStat "PacketWall$Flow" "STREAM_LIVES" xv_6 ++ [Cond.eq (.static "java/lang/String" "COMPACT_STRINGS" "Z") (.int 1), Cond.isRef (.static "jdk/internal/util/Preconditions" "SIOOBE_FORMATTER" "Ljava/util/function/BiFunction;")] ++ xwStat "PacketWall$Headers" "NET_IN_SIX" xv_7 ++ xwStat "PacketWall$Headers" "NET_IN_FOUR" xv_8 ++ xwStr "PacketWall$Parser" 209 xs_0 ++ xwStr "PacketWall$Parser" 217 xs_1 ++ xwStr "PacketWall$Parser" 173 xs_2 ++ xwStr "PacketWall$Parser" 175 xs_3 ++ xwStr "PacketWall$Parser" 177 xs_4 ++ xwStr "PacketWall$Parser" 179 xs_5 ++ xwStr "PacketWall$Parser" 181 xs_6 ++ xwStr "PacketWall$Parser" 183 xs_7 ++ xwStr "PacketWall$Parser" 185 xs_8 ++ xwStr "PacketWall$Parser" 187 xs_9 ++ xwStr "PacketWall$Parser" 189 xs_10 ++ xwStr "PacketWall$Parser" 191 xs_11 ++ xwStr "PacketWall$Parser" 193 xs_12 ++ xwStr "PacketWall$Parser" 195 xs_13 ++ xwStr "PacketWall$Parser" 197 xs_14 ++ xwStr "PacketWall$Parser" 199 xs_15
set_option maxRecDepth 100000 in
theorem xwant_eat : xeatL (flatC narrow_1) xwant = [] := by decide +kernel
theorem xwant_ok {args : Array Value} {s : State} (h : (Jvm.Cond.and given_1 narrow_1).before args s = true) : ∀ w ∈ xwant, w.before args s = true := by
  rw [Cond.before_and, Bool.and_eq_true] at h
  intro w hw
  rcases xeatL_ok (flatC narrow_1) xwant w hw with q | q
  · rw [xwant_eat] at q; cases q
  · exact flat_of_before _ h.2 w q
