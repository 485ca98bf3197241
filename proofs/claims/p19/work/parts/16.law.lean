-- ===== end of PART A; then your names; then what follows =====
/-! THE CLAIM OUT OF ONE WALK OF THE LAW'S BODY. Your part is whole_start (and what it stands on); all else here is the same for every law, but numbers. -/
def R_law : String := "PacketWallLaw"
def lw_P (b : Addr) (xs : List Int32) (args : Array Value) (s : State) : Prop := args = #[.ref b] ∧ s.IntsAt b xs ∧ xs.length ≤ 3072 ∧ (Jvm.Cond.and given_1 narrow_1).before args s = true
def lw_Q (_ : Array Value) (s : State) (o : Outcome) (t : State) : Prop := o = .returned (some (.int 1)) ∧ Framed s o t [] 600000 7302250
def lw_Z (below : List Frame) (a : Array Value) (s : State) : State → Prop := fun t => ∃ o, t.status = .running ∧ Ended t below o ∧ lw_Q a s o t
/-- the law's own end, with 1 on the stack, nothing written that was there before, its room as the claim has it -/
theorem lw_ret {p : Program} {l : Launch} {e : Env} {s : State} {m : MethodId} {below : List Frame} {meth : Method} {c : Code} {b : Nat} (hx : p.tables.exec = Jvm.exec) (hb : c.code = code) (hr : meth.sig.returnType = ret) (hlocks : meth.locks = false) {pc : Nat} {H : Heap} {ls : Array Slot} (hdg : decode code pc = .ok (.ireturn, 1)) : W p l e room_1 s m #[Value.ref b] below meth c H [] 600000 7302250 (lw_Z below #[Value.ref b] s) (F0 m pc ls [.int 1]) := by
  intro T hT X
  obtain ⟨fs, hret, hrun, hended, hW, hframe⟩ := X.leave (v := some (.int 1)) (hlocks := hlocks) (fun h => by rw [hr] at h; cases h)
  have hmeth' : T.vm.method? m = some meth := X.method'
  refine ⟨T.setFrames fs, ?_, .returned (some (.int 1)), hrun, hended, rfl, ⟨_, rfl⟩, hW, hframe⟩
  jvm_step X.here [X.here.top, hx, hb, hdg, hmeth', hr, ret, narrow_b1]
  (try refine ⟨rfl, ?_⟩); (try refine ⟨rfl, ?_⟩)
  first | (intro acts; rw [hret _ acts rfl rfl rfl]) | rw [hret _ _ rfl rfl rfl]
  exact Steps.refl _
/-- what holds at the law's entry: the machine, the code, the tables' words (any of lw_tbl by 'hts w (by decide +kernel)'), the script of L ints xs at the cell b, what the Statement gives of the start (any of its parts by flat_of_before) -/
def lw_At (p : Program) (s : State) (m : MethodId) (meth : Method) (c : Code) (b L : Nat) (xs : Nat → Int32) : Prop :=
  p.tables.exec = Jvm.exec ∧ c.code = code ∧ meth.sig.returnType = ret ∧ c.maxLocals = 4 ∧ s.vm.findClass R_law = some m.cls ∧ (∀ w ∈ lw_tbl, w.before #[Value.ref b] s = true) ∧ va_X b L xs s s.heap ∧ b < s.heap.size ∧ meth.locks = false ∧ (Jvm.Cond.and given_1 narrow_1).before #[Value.ref b] s = true

/-! ===== what the start gives of static rows and Strings ===== -/
def xeatL : List Cond → List Cond → List Cond
  | [], ws => ws
  | _ :: _, [] => []
  | c :: cs, w :: r => bif decide (c = w) then xeatL cs r else xeatL cs (w :: r)
theorem xeatL_ok : ∀ (cs ws : List Cond), ∀ w ∈ ws, w ∈ xeatL cs ws ∨ w ∈ cs
  | [], ws, w, h => Or.inl h
  | _ :: _, [], w, h => by cases h
  | c :: cs, v :: r, w, h => by
    unfold xeatL
    cases hd : decide (c = v) with
    | true =>
      have e : c = v := of_decide_eq_true hd
      rcases List.mem_cons.mp h with rfl | h
      · exact Or.inr (by rw [e]; exact List.mem_cons_self)
      · exact (xeatL_ok cs r w h).imp id (fun q => List.mem_cons_of_mem _ q)
    | false => exact (xeatL_ok cs (v :: r) w h).imp id (fun q => List.mem_cons_of_mem _ q)
def xwStat (C n : String) (v : List Int32) : List Cond := Cond.arrayOf (.static C n "[I") .int :: Cond.eq (.length (.static C n "[I")) (.int (Int32.ofNat v.length)) :: (List.range v.length).map (fun j => Cond.eq (.elem (.static C n "[I") (.int (Int32.ofNat j))) (.int (v.getD j 0)))
def xwStr (C : String) (k : Nat) (v : List Int32) : List Cond := Cond.exactly (.string C k) "java/lang/String" :: Cond.eq (.field (.string C k) "java/lang/String" "coder" "B") (.int 0) :: Cond.arrayOf (.field (.string C k) "java/lang/String" "value" "[B") .byte :: Cond.eq (.length (.field (.string C k) "java/lang/String" "value" "[B")) (.int (Int32.ofNat v.length)) :: (List.range v.length).map (fun j => Cond.eq (.elem (.field (.string C k) "java/lang/String" "value" "[B") (.int (Int32.ofNat j))) (.int (v.getD j 0)))
def xwant : List Cond := xwStat "PacketWall$Headers" "LEAST" xv_1 ++ xwStat "PacketWall$Headers" "FIELD_COUNTS" xv_2 ++ xwStat "PacketWall$Headers" "FIRST_FORM" xv_3 ++ xwStat "PacketWall$Headers" "FORMS" xv_4 ++ xwStat "PacketWall$Flow" "NEXT_STATES" xv_5 ++ xwStat "PacketWall$Flow" "STREAM_LIVES" xv_6 ++ [Cond.eq (.static "java/lang/String" "COMPACT_STRINGS" "Z") (.int 1), Cond.isRef (.static "jdk/internal/util/Preconditions" "SIOOBE_FORMATTER" "Ljava/util/function/BiFunction;")] ++ xwStat "PacketWall$Headers" "NET_IN_SIX" xv_7 ++ xwStat "PacketWall$Headers" "NET_IN_FOUR" xv_8 ++ xwStr "PacketWall$Parser" 209 xs_0 ++ xwStr "PacketWall$Parser" 217 xs_1 ++ xwStr "PacketWall$Parser" 173 xs_2 ++ xwStr "PacketWall$Parser" 175 xs_3 ++ xwStr "PacketWall$Parser" 177 xs_4 ++ xwStr "PacketWall$Parser" 179 xs_5 ++ xwStr "PacketWall$Parser" 181 xs_6 ++ xwStr "PacketWall$Parser" 183 xs_7 ++ xwStr "PacketWall$Parser" 185 xs_8 ++ xwStr "PacketWall$Parser" 187 xs_9 ++ xwStr "PacketWall$Parser" 189 xs_10 ++ xwStr "PacketWall$Parser" 191 xs_11 ++ xwStr "PacketWall$Parser" 193 xs_12 ++ xwStr "PacketWall$Parser" 195 xs_13 ++ xwStr "PacketWall$Parser" 197 xs_14 ++ xwStr "PacketWall$Parser" 199 xs_15
set_option maxRecDepth 100000 in
theorem xwant_eat : xeatL (flatC narrow_1) xwant = [] := by decide +kernel
theorem xwant_ok {args : Array Value} {s : State} (h : (Jvm.Cond.and given_1 narrow_1).before args s = true) : ∀ w ∈ xwant, w.before args s = true := by
  rw [Cond.before_and, Bool.and_eq_true] at h
  intro w hw
  rcases xeatL_ok (flatC narrow_1) xwant w hw with q | q
  · rw [xwant_eat] at q; cases q
  · exact flat_of_before _ h.2 w q
theorem xwm_s0 : ∀ w ∈ (xwStat "PacketWall$Headers" "LEAST" xv_1 : List Cond), w ∈ xwant := fun w hw => List.mem_append_left _ (List.mem_append_left _ (List.mem_append_left _ (List.mem_append_left _ (List.mem_append_left _ (List.mem_append_left _ (List.mem_append_left _ (List.mem_append_left _ (List.mem_append_left _ (List.mem_append_left _ (List.mem_append_left _ (List.mem_append_left _ (List.mem_append_left _ (List.mem_append_left _ (List.mem_append_left _ (List.mem_append_left _ (List.mem_append_left _ (List.mem_append_left _ (List.mem_append_left _ (List.mem_append_left _ (List.mem_append_left _ (List.mem_append_left _ (List.mem_append_left _ (List.mem_append_left _ (hw))))))))))))))))))))))))
theorem xwm_s1 : ∀ w ∈ (xwStat "PacketWall$Headers" "FIELD_COUNTS" xv_2 : List Cond), w ∈ xwant := fun w hw => List.mem_append_left _ (List.mem_append_left _ (List.mem_append_left _ (List.mem_append_left _ (List.mem_append_left _ (List.mem_append_left _ (List.mem_append_left _ (List.mem_append_left _ (List.mem_append_left _ (List.mem_append_left _ (List.mem_append_left _ (List.mem_append_left _ (List.mem_append_left _ (List.mem_append_left _ (List.mem_append_left _ (List.mem_append_left _ (List.mem_append_left _ (List.mem_append_left _ (List.mem_append_left _ (List.mem_append_left _ (List.mem_append_left _ (List.mem_append_left _ (List.mem_append_left _ (List.mem_append_right _ hw)))))))))))))))))))))))
theorem xwm_s2 : ∀ w ∈ (xwStat "PacketWall$Headers" "FIRST_FORM" xv_3 : List Cond), w ∈ xwant := fun w hw => List.mem_append_left _ (List.mem_append_left _ (List.mem_append_left _ (List.mem_append_left _ (List.mem_append_left _ (List.mem_append_left _ (List.mem_append_left _ (List.mem_append_left _ (List.mem_append_left _ (List.mem_append_left _ (List.mem_append_left _ (List.mem_append_left _ (List.mem_append_left _ (List.mem_append_left _ (List.mem_append_left _ (List.mem_append_left _ (List.mem_append_left _ (List.mem_append_left _ (List.mem_append_left _ (List.mem_append_left _ (List.mem_append_left _ (List.mem_append_left _ (List.mem_append_right _ hw))))))))))))))))))))))
theorem xwm_s3 : ∀ w ∈ (xwStat "PacketWall$Headers" "FORMS" xv_4 : List Cond), w ∈ xwant := fun w hw => List.mem_append_left _ (List.mem_append_left _ (List.mem_append_left _ (List.mem_append_left _ (List.mem_append_left _ (List.mem_append_left _ (List.mem_append_left _ (List.mem_append_left _ (List.mem_append_left _ (List.mem_append_left _ (List.mem_append_left _ (List.mem_append_left _ (List.mem_append_left _ (List.mem_append_left _ (List.mem_append_left _ (List.mem_append_left _ (List.mem_append_left _ (List.mem_append_left _ (List.mem_append_left _ (List.mem_append_left _ (List.mem_append_left _ (List.mem_append_right _ hw)))))))))))))))))))))
theorem xwm_s4 : ∀ w ∈ (xwStat "PacketWall$Flow" "NEXT_STATES" xv_5 : List Cond), w ∈ xwant := fun w hw => List.mem_append_left _ (List.mem_append_left _ (List.mem_append_left _ (List.mem_append_left _ (List.mem_append_left _ (List.mem_append_left _ (List.mem_append_left _ (List.mem_append_left _ (List.mem_append_left _ (List.mem_append_left _ (List.mem_append_left _ (List.mem_append_left _ (List.mem_append_left _ (List.mem_append_left _ (List.mem_append_left _ (List.mem_append_left _ (List.mem_append_left _ (List.mem_append_left _ (List.mem_append_left _ (List.mem_append_left _ (List.mem_append_right _ hw))))))))))))))))))))
theorem xwm_s5 : ∀ w ∈ (xwStat "PacketWall$Flow" "STREAM_LIVES" xv_6 : List Cond), w ∈ xwant := fun w hw => List.mem_append_left _ (List.mem_append_left _ (List.mem_append_left _ (List.mem_append_left _ (List.mem_append_left _ (List.mem_append_left _ (List.mem_append_left _ (List.mem_append_left _ (List.mem_append_left _ (List.mem_append_left _ (List.mem_append_left _ (List.mem_append_left _ (List.mem_append_left _ (List.mem_append_left _ (List.mem_append_left _ (List.mem_append_left _ (List.mem_append_left _ (List.mem_append_left _ (List.mem_append_left _ (List.mem_append_right _ hw)))))))))))))))))))
theorem xwm_c0 : ∀ w ∈ ([Cond.eq (.static "java/lang/String" "COMPACT_STRINGS" "Z") (.int 1), Cond.isRef (.static "jdk/internal/util/Preconditions" "SIOOBE_FORMATTER" "Ljava/util/function/BiFunction;")] : List Cond), w ∈ xwant := fun w hw => List.mem_append_left _ (List.mem_append_left _ (List.mem_append_left _ (List.mem_append_left _ (List.mem_append_left _ (List.mem_append_left _ (List.mem_append_left _ (List.mem_append_left _ (List.mem_append_left _ (List.mem_append_left _ (List.mem_append_left _ (List.mem_append_left _ (List.mem_append_left _ (List.mem_append_left _ (List.mem_append_left _ (List.mem_append_left _ (List.mem_append_left _ (List.mem_append_left _ (List.mem_append_right _ hw))))))))))))))))))
theorem xwm_s6 : ∀ w ∈ (xwStat "PacketWall$Headers" "NET_IN_SIX" xv_7 : List Cond), w ∈ xwant := fun w hw => List.mem_append_left _ (List.mem_append_left _ (List.mem_append_left _ (List.mem_append_left _ (List.mem_append_left _ (List.mem_append_left _ (List.mem_append_left _ (List.mem_append_left _ (List.mem_append_left _ (List.mem_append_left _ (List.mem_append_left _ (List.mem_append_left _ (List.mem_append_left _ (List.mem_append_left _ (List.mem_append_left _ (List.mem_append_left _ (List.mem_append_left _ (List.mem_append_right _ hw)))))))))))))))))
theorem xwm_s7 : ∀ w ∈ (xwStat "PacketWall$Headers" "NET_IN_FOUR" xv_8 : List Cond), w ∈ xwant := fun w hw => List.mem_append_left _ (List.mem_append_left _ (List.mem_append_left _ (List.mem_append_left _ (List.mem_append_left _ (List.mem_append_left _ (List.mem_append_left _ (List.mem_append_left _ (List.mem_append_left _ (List.mem_append_left _ (List.mem_append_left _ (List.mem_append_left _ (List.mem_append_left _ (List.mem_append_left _ (List.mem_append_left _ (List.mem_append_left _ (List.mem_append_right _ hw))))))))))))))))
theorem xwm_t0 : ∀ w ∈ (xwStr "PacketWall$Parser" 209 xs_0 : List Cond), w ∈ xwant := fun w hw => List.mem_append_left _ (List.mem_append_left _ (List.mem_append_left _ (List.mem_append_left _ (List.mem_append_left _ (List.mem_append_left _ (List.mem_append_left _ (List.mem_append_left _ (List.mem_append_left _ (List.mem_append_left _ (List.mem_append_left _ (List.mem_append_left _ (List.mem_append_left _ (List.mem_append_left _ (List.mem_append_left _ (List.mem_append_right _ hw)))))))))))))))
theorem xwm_t1 : ∀ w ∈ (xwStr "PacketWall$Parser" 217 xs_1 : List Cond), w ∈ xwant := fun w hw => List.mem_append_left _ (List.mem_append_left _ (List.mem_append_left _ (List.mem_append_left _ (List.mem_append_left _ (List.mem_append_left _ (List.mem_append_left _ (List.mem_append_left _ (List.mem_append_left _ (List.mem_append_left _ (List.mem_append_left _ (List.mem_append_left _ (List.mem_append_left _ (List.mem_append_left _ (List.mem_append_right _ hw))))))))))))))
theorem xwm_t2 : ∀ w ∈ (xwStr "PacketWall$Parser" 173 xs_2 : List Cond), w ∈ xwant := fun w hw => List.mem_append_left _ (List.mem_append_left _ (List.mem_append_left _ (List.mem_append_left _ (List.mem_append_left _ (List.mem_append_left _ (List.mem_append_left _ (List.mem_append_left _ (List.mem_append_left _ (List.mem_append_left _ (List.mem_append_left _ (List.mem_append_left _ (List.mem_append_left _ (List.mem_append_right _ hw)))))))))))))
theorem xwm_t3 : ∀ w ∈ (xwStr "PacketWall$Parser" 175 xs_3 : List Cond), w ∈ xwant := fun w hw => List.mem_append_left _ (List.mem_append_left _ (List.mem_append_left _ (List.mem_append_left _ (List.mem_append_left _ (List.mem_append_left _ (List.mem_append_left _ (List.mem_append_left _ (List.mem_append_left _ (List.mem_append_left _ (List.mem_append_left _ (List.mem_append_left _ (List.mem_append_right _ hw))))))))))))
theorem xwm_t4 : ∀ w ∈ (xwStr "PacketWall$Parser" 177 xs_4 : List Cond), w ∈ xwant := fun w hw => List.mem_append_left _ (List.mem_append_left _ (List.mem_append_left _ (List.mem_append_left _ (List.mem_append_left _ (List.mem_append_left _ (List.mem_append_left _ (List.mem_append_left _ (List.mem_append_left _ (List.mem_append_left _ (List.mem_append_left _ (List.mem_append_right _ hw)))))))))))
theorem xwm_t5 : ∀ w ∈ (xwStr "PacketWall$Parser" 179 xs_5 : List Cond), w ∈ xwant := fun w hw => List.mem_append_left _ (List.mem_append_left _ (List.mem_append_left _ (List.mem_append_left _ (List.mem_append_left _ (List.mem_append_left _ (List.mem_append_left _ (List.mem_append_left _ (List.mem_append_left _ (List.mem_append_left _ (List.mem_append_right _ hw))))))))))
theorem xwm_t6 : ∀ w ∈ (xwStr "PacketWall$Parser" 181 xs_6 : List Cond), w ∈ xwant := fun w hw => List.mem_append_left _ (List.mem_append_left _ (List.mem_append_left _ (List.mem_append_left _ (List.mem_append_left _ (List.mem_append_left _ (List.mem_append_left _ (List.mem_append_left _ (List.mem_append_left _ (List.mem_append_right _ hw)))))))))
theorem xwm_t7 : ∀ w ∈ (xwStr "PacketWall$Parser" 183 xs_7 : List Cond), w ∈ xwant := fun w hw => List.mem_append_left _ (List.mem_append_left _ (List.mem_append_left _ (List.mem_append_left _ (List.mem_append_left _ (List.mem_append_left _ (List.mem_append_left _ (List.mem_append_left _ (List.mem_append_right _ hw))))))))
theorem xwm_t8 : ∀ w ∈ (xwStr "PacketWall$Parser" 185 xs_8 : List Cond), w ∈ xwant := fun w hw => List.mem_append_left _ (List.mem_append_left _ (List.mem_append_left _ (List.mem_append_left _ (List.mem_append_left _ (List.mem_append_left _ (List.mem_append_left _ (List.mem_append_right _ hw)))))))
theorem xwm_t9 : ∀ w ∈ (xwStr "PacketWall$Parser" 187 xs_9 : List Cond), w ∈ xwant := fun w hw => List.mem_append_left _ (List.mem_append_left _ (List.mem_append_left _ (List.mem_append_left _ (List.mem_append_left _ (List.mem_append_left _ (List.mem_append_right _ hw))))))
theorem xwm_t10 : ∀ w ∈ (xwStr "PacketWall$Parser" 189 xs_10 : List Cond), w ∈ xwant := fun w hw => List.mem_append_left _ (List.mem_append_left _ (List.mem_append_left _ (List.mem_append_left _ (List.mem_append_left _ (List.mem_append_right _ hw)))))
theorem xwm_t11 : ∀ w ∈ (xwStr "PacketWall$Parser" 191 xs_11 : List Cond), w ∈ xwant := fun w hw => List.mem_append_left _ (List.mem_append_left _ (List.mem_append_left _ (List.mem_append_left _ (List.mem_append_right _ hw))))
theorem xwm_t12 : ∀ w ∈ (xwStr "PacketWall$Parser" 193 xs_12 : List Cond), w ∈ xwant := fun w hw => List.mem_append_left _ (List.mem_append_left _ (List.mem_append_left _ (List.mem_append_right _ hw)))
theorem xwm_t13 : ∀ w ∈ (xwStr "PacketWall$Parser" 195 xs_13 : List Cond), w ∈ xwant := fun w hw => List.mem_append_left _ (List.mem_append_left _ (List.mem_append_right _ hw))
theorem xwm_t14 : ∀ w ∈ (xwStr "PacketWall$Parser" 197 xs_14 : List Cond), w ∈ xwant := fun w hw => List.mem_append_left _ (List.mem_append_right _ hw)
theorem xwm_t15 : ∀ w ∈ (xwStr "PacketWall$Parser" 199 xs_15 : List Cond), w ∈ xwant := fun w hw => List.mem_append_right _ hw
theorem xstat_ok {args : Array Value} {s : State} {C n : String} {v : List Int32} {A : Nat → Prop} (hN : v.length < 2 ^ 31) (hw : ∀ w ∈ xwStat C n v, w.before args s = true) (hl : (Cond.laysStatic C n "[I").before args s = true) (hini : (Cond.initialized C).before args s = true) (hA : ∀ a : Nat, a < s.heap.size → ¬ A a) : ∃ t : Nat, va_Z C n "[I" (.ref t) A s s.heap ∧ va_T .int t v.length (fun j => .int (v.getD j 0)) A s s.heap := by
  obtain ⟨t, h1, h2⟩ := va_Tof (tm := .static C n "[I") (ty := .int) (f := fun j => .int (v.getD j 0)) (A := A) hN (hw _ List.mem_cons_self) (va_eqt (hw _ (List.mem_cons_of_mem _ List.mem_cons_self))) (fun j hj => va_eqt (hw _ (List.mem_cons_of_mem _ (List.mem_cons_of_mem _ (List.mem_map.mpr ⟨j, List.mem_range.mpr hj, rfl⟩))))) hA
  exact ⟨t, va_Zof hl hini h1 hA, h2⟩
theorem xstr_ok {args : Array Value} {s : State} {C : String} {k : Nat} {v : List Int32} {A : Nat → Prop} (hN : v.length < 2 ^ 31) (hw : ∀ w ∈ xwStr C k v, w.before args s = true) (hA : ∀ a : Nat, a < s.heap.size → ¬ A a) : ∃ a t : Nat, (Term.string C k).eval args s none [] s = some (.ref a) ∧ va_O "java/lang/String" a A s s.heap ∧ va_OF "java/lang/String" "coder" "B" (.int 0) a A s s.heap ∧ va_OF "java/lang/String" "value" "[B" (.ref t) a A s s.heap ∧ va_T .byte t v.length (fun j => .int (v.getD j 0)) A s s.heap := by
  obtain ⟨a, c, cA, kA, q1, q2, q3, q4, q5, q6, -⟩ := Cond.exactly_spec (args := args) (first := s) (o := none) (s := s) (idx := []) (t := .string C k) (cls := "java/lang/String") (hw _ List.mem_cons_self)
  obtain ⟨t, ht, hT⟩ := va_Tof (f := fun j => .int (v.getD j 0)) (A := A) hN (hw _ (List.mem_cons_of_mem _ (List.mem_cons_of_mem _ List.mem_cons_self))) (va_eqt (hw _ (List.mem_cons_of_mem _ (List.mem_cons_of_mem _ (List.mem_cons_of_mem _ List.mem_cons_self))))) (fun j hj => va_eqt (hw _ (List.mem_cons_of_mem _ (List.mem_cons_of_mem _ (List.mem_cons_of_mem _ (List.mem_cons_of_mem _ (List.mem_map.mpr ⟨j, List.mem_range.mpr hj, rfl⟩))))))) hA
  exact ⟨a, t, q1, ⟨cA, q3, q5, by rw [q6]; exact q2, hA a (Array.getElem?_eq_some_iff.mp q3).1⟩, vk_OFof q1 (va_eqt (hw _ (List.mem_cons_of_mem _ List.mem_cons_self))) hA, vk_OFof q1 ht hA, hT⟩
def xqS_0 (_ : Nat) : Option (Nat × Nat × Nat) := none
def xqS_1 (idx : Nat) : Option (Nat × Nat × Nat) := bif Nat.blt idx 140 then (bif Nat.beq idx 134 then some ((5, 5, 21)) else none) else (bif Nat.beq idx 140 then some ((4, 5, 9)) else none)
def xqS_2 (_ : Nat) : Option (Nat × Nat × Nat) := none
def xqS_3 (_ : Nat) : Option (Nat × Nat × Nat) := none
def xqS_4 (_ : Nat) : Option (Nat × Nat × Nat) := none
def xqS_5 (idx : Nat) : Option (Nat × Nat × Nat) := bif Nat.blt idx 92 then (bif Nat.blt idx 65 then (bif Nat.beq idx 53 then some ((1, 3, 207)) else none) else (bif Nat.blt idx 71 then (bif Nat.beq idx 65 then some ((2, 3, 210)) else none) else (bif Nat.beq idx 71 then some ((3, 3, 212)) else none))) else (bif Nat.blt idx 95 then (bif Nat.beq idx 92 then some ((6, 6, 232)) else none) else (bif Nat.blt idx 155 then (bif Nat.beq idx 95 then some ((7, 6, 234)) else none) else (bif Nat.beq idx 155 then some ((0, 3, 150)) else none)))
def xqS_6 (_ : Nat) : Option (Nat × Nat × Nat) := none
def xqS_7 (_ : Nat) : Option (Nat × Nat × Nat) := none
def xqS_8 (_ : Nat) : Option (Nat × Nat × Nat) := none
def xqS_9 (_ : Nat) : Option (Nat × Nat × Nat) := none
def xqS_10 (_ : Nat) : Option (Nat × Nat × Nat) := none
def xqS_11 (_ : Nat) : Option (Nat × Nat × Nat) := none
def xqS_12 (_ : Nat) : Option (Nat × Nat × Nat) := none
def xqS_13 (_ : Nat) : Option (Nat × Nat × Nat) := none
def xqS_14 (_ : Nat) : Option (Nat × Nat × Nat) := none
def xqS_15 (idx : Nat) : Option (Nat × Nat × Nat) := bif Nat.beq idx 38 then some ((8, 5, 114)) else none
def xqS_16 (_ : Nat) : Option (Nat × Nat × Nat) := none
def xqS_17 (_ : Nat) : Option (Nat × Nat × Nat) := none
def xqS (oc idx : Nat) : Option (Nat × Nat × Nat) := match oc with
  | 0 => xqS_0 idx
  | 1 => xqS_1 idx
  | 2 => xqS_2 idx
  | 3 => xqS_3 idx
  | 4 => xqS_4 idx
  | 5 => xqS_5 idx
  | 6 => xqS_6 idx
  | 7 => xqS_7 idx
  | 8 => xqS_8 idx
  | 9 => xqS_9 idx
  | 10 => xqS_10 idx
  | 11 => xqS_11 idx
  | 12 => xqS_12 idx
  | 13 => xqS_13 idx
  | 14 => xqS_14 idx
  | 15 => xqS_15 idx
  | 16 => xqS_16 idx
  | 17 => xqS_17 idx
  | _ => none
def xst9 : List (String × String × String × Value) := [("PacketWall$Headers", "LEAST", "[I", .ref 1000001), ("PacketWall$Headers", "FIELD_COUNTS", "[I", .ref 1000002), ("PacketWall$Headers", "FIRST_FORM", "[I", .ref 1000003), ("PacketWall$Headers", "FORMS", "[I", .ref 1000004), ("PacketWall$Flow", "NEXT_STATES", "[I", .ref 1000005), ("PacketWall$Flow", "STREAM_LIVES", "[I", .ref 1000006), ("PacketWall$Headers", "NET_IN_SIX", "[I", .ref 1000007), ("PacketWall$Headers", "NET_IN_FOUR", "[I", .ref 1000008), ("java/lang/String", "COMPACT_STRINGS", "Z", .int 1)]
def xchkS (oc : Nat) : Bool := (List.range 1063).all (fun idx => match xT_S0 oc idx with
  | none => true
  | some v => match xqS oc idx with
    | none => false
    | some (q, k, i) => match xst9[q]? with
      | none => false
      | some z => decide (z.2.2.2 = v) && xat (some (k, i)) (Cond.fieldLink (xon oc) idx z.1 z.2.1 z.2.2.1))
theorem xchkS_0 : xchkS 0 = true := by decide +kernel
theorem xchkS_1 : xchkS 1 = true := by decide +kernel
theorem xchkS_2 : xchkS 2 = true := by decide +kernel
theorem xchkS_3 : xchkS 3 = true := by decide +kernel
theorem xchkS_4 : xchkS 4 = true := by decide +kernel
theorem xchkS_5 : xchkS 5 = true := by decide +kernel
theorem xchkS_6 : xchkS 6 = true := by decide +kernel
theorem xchkS_7 : xchkS 7 = true := by decide +kernel
theorem xchkS_8 : xchkS 8 = true := by decide +kernel
theorem xchkS_9 : xchkS 9 = true := by decide +kernel
theorem xchkS_10 : xchkS 10 = true := by decide +kernel
theorem xchkS_11 : xchkS 11 = true := by decide +kernel
theorem xchkS_12 : xchkS 12 = true := by decide +kernel
theorem xchkS_13 : xchkS 13 = true := by decide +kernel
theorem xchkS_14 : xchkS 14 = true := by decide +kernel
theorem xchkS_15 : xchkS 15 = true := by decide +kernel
theorem xchkS_16 : xchkS 16 = true := by decide +kernel
theorem xchkS_17 : xchkS 17 = true := by decide +kernel
theorem xchkS_all : ∀ oc, oc < 18 → xchkS oc = true
  | 0, _ => xchkS_0
  | 1, _ => xchkS_1
  | 2, _ => xchkS_2
  | 3, _ => xchkS_3
  | 4, _ => xchkS_4
  | 5, _ => xchkS_5
  | 6, _ => xchkS_6
  | 7, _ => xchkS_7
  | 8, _ => xchkS_8
  | 9, _ => xchkS_9
  | 10, _ => xchkS_10
  | 11, _ => xchkS_11
  | 12, _ => xchkS_12
  | 13, _ => xchkS_13
  | 14, _ => xchkS_14
  | 15, _ => xchkS_15
  | 16, _ => xchkS_16
  | 17, _ => xchkS_17
  | n + 18, h => absurd h (by omega)
theorem xT_S0_out {oc idx : Nat} {x : Value} (h : xT_S0 oc idx = some x) : oc < 18 ∧ idx < 1063 := by
  unfold xT_S0 at h
  cases hb : Nat.blt idx 1063 with
  | false => rw [hb] at h; cases h
  | true =>
    refine ⟨?_, Nat.blt_eq.mp hb⟩
    rw [hb] at h
    rcases Nat.lt_or_ge oc 18 with h1 | h1
    · exact h1
    · obtain ⟨n, rfl⟩ : ∃ n, oc = n + 18 := ⟨oc - 18, by omega⟩
      cases h
theorem xS0_ok {oc idx : Nat} {v : Value} (h : xT_S0 oc idx = some v) : ∃ (q : Nat) (z : String × String × String × Value), xst9[q]? = some z ∧ z.2.2.2 = v ∧ Cond.fieldLink (xon oc) idx z.1 z.2.1 z.2.2.1 ∈ xTs := by
  obtain ⟨h1, h2⟩ := xT_S0_out h
  have h3 := List.all_eq_true.mp (xchkS_all oc h1) idx (List.mem_range.mpr h2)
  rw [h] at h3
  simp only at h3
  split at h3
  · cases h3
  · split at h3
    · cases h3
    · rename_i z hz
      rw [Bool.and_eq_true] at h3
      exact ⟨_, z, hz, of_decide_eq_true h3.1, xat_ok h3.2 rfl⟩
theorem xw_fmt : Cond.fieldLink "java/lang/String" 1053 "jdk/internal/util/Preconditions" "SIOOBE_FORMATTER" "Ljava/util/function/BiFunction;" ∈ xTs := xat_ok (q := some (5, 130)) (by decide +kernel) rfl
theorem xw_gv : Cond.fieldLink "java/lang/String" 9 "java/lang/String" "value" "[B" ∈ xTs := xat_ok (q := some (12, 160)) (by decide +kernel) rfl
theorem xw_gc : Cond.fieldLink "java/lang/String" 15 "java/lang/String" "coder" "B" ∈ xTs := xat_ok (q := some (12, 161)) (by decide +kernel) rfl
theorem xw_ls0 : Cond.laysStatic "PacketWall$Headers" "LEAST" "[I" ∈ lw_tbl := xW_in 3 _ (List.mem_of_getElem? (i := 151) (by decide +kernel))
theorem xw_ls1 : Cond.laysStatic "PacketWall$Headers" "FIELD_COUNTS" "[I" ∈ lw_tbl := xW_in 3 _ (List.mem_of_getElem? (i := 208) (by decide +kernel))
theorem xw_ls2 : Cond.laysStatic "PacketWall$Headers" "FIRST_FORM" "[I" ∈ lw_tbl := xW_in 3 _ (List.mem_of_getElem? (i := 211) (by decide +kernel))
theorem xw_ls3 : Cond.laysStatic "PacketWall$Headers" "FORMS" "[I" ∈ lw_tbl := xW_in 3 _ (List.mem_of_getElem? (i := 213) (by decide +kernel))
theorem xw_ls4 : Cond.laysStatic "PacketWall$Flow" "NEXT_STATES" "[I" ∈ lw_tbl := xW_in 5 _ (List.mem_of_getElem? (i := 10) (by decide +kernel))
theorem xw_ls5 : Cond.laysStatic "PacketWall$Flow" "STREAM_LIVES" "[I" ∈ lw_tbl := xW_in 5 _ (List.mem_of_getElem? (i := 22) (by decide +kernel))
theorem xw_ls6 : Cond.laysStatic "PacketWall$Headers" "NET_IN_SIX" "[I" ∈ lw_tbl := xW_in 6 _ (List.mem_of_getElem? (i := 233) (by decide +kernel))
theorem xw_ls7 : Cond.laysStatic "PacketWall$Headers" "NET_IN_FOUR" "[I" ∈ lw_tbl := xW_in 6 _ (List.mem_of_getElem? (i := 235) (by decide +kernel))
theorem xw_ls8 : Cond.laysStatic "java/lang/String" "COMPACT_STRINGS" "Z" ∈ lw_tbl := xW_in 5 _ (List.mem_of_getElem? (i := 115) (by decide +kernel))
theorem xw_ls9 : Cond.laysStatic "jdk/internal/util/Preconditions" "SIOOBE_FORMATTER" "Ljava/util/function/BiFunction;" ∈ lw_tbl := xW_in 5 _ (List.mem_of_getElem? (i := 131) (by decide +kernel))
theorem xw_in0 : Cond.initialized "PacketWall$Headers" ∈ lw_tbl := xW_in 1 _ (List.mem_of_getElem? (i := 2) (by decide +kernel))
theorem xw_in1 : Cond.initialized "PacketWall$Flow" ∈ lw_tbl := xW_in 1 _ (List.mem_of_getElem? (i := 6) (by decide +kernel))
theorem xw_in2 : Cond.initialized "java/lang/String" ∈ lw_tbl := xW_in 1 _ (List.mem_of_getElem? (i := 16) (by decide +kernel))
theorem xw_in3 : Cond.initialized "jdk/internal/util/Preconditions" ∈ lw_tbl := xW_in 1 _ (List.mem_of_getElem? (i := 18) (by decide +kernel))
theorem xw_sr0 : Cond.stringRef "PacketWall$Parser" 209 "chain behind else if take drop answer return jump try mark count log learn put copy fresh list fail time size flow state failure has byte spend long in row head link tag four six hops route part control stream datagram tunnel rest net carried" ∈ lw_tbl := xW_in 5 _ (List.mem_of_getElem? (i := 101) (by decide +kernel))
theorem xw_sr1 : Cond.stringRef "PacketWall$Parser" 217 "{}()[];,.=<>+-*/%&|!" ∈ lw_tbl := xW_in 5 _ (List.mem_of_getElem? (i := 163) (by decide +kernel))
theorem xw_sr2 : Cond.stringRef "PacketWall$Parser" 173 "to from kind" ∈ lw_tbl := xW_in 6 _ (List.mem_of_getElem? (i := 59) (by decide +kernel))
theorem xw_sr3 : Cond.stringRef "PacketWall$Parser" 175 "rank id kind" ∈ lw_tbl := xW_in 6 _ (List.mem_of_getElem? (i := 60) (by decide +kernel))
theorem xw_sr4 : Cond.stringRef "PacketWall$Parser" 177 "words mark total number flags offset life next sum from to" ∈ lw_tbl := xW_in 6 _ (List.mem_of_getElem? (i := 61) (by decide +kernel))
theorem xw_sr5 : Cond.stringRef "PacketWall$Parser" 179 "mark length next life label from to" ∈ lw_tbl := xW_in 6 _ (List.mem_of_getElem? (i := 62) (by decide +kernel))
theorem xw_sr6 : Cond.stringRef "PacketWall$Parser" 181 "next n" ∈ lw_tbl := xW_in 6 _ (List.mem_of_getElem? (i := 63) (by decide +kernel))
theorem xw_sr7 : Cond.stringRef "PacketWall$Parser" 183 "next n left" ∈ lw_tbl := xW_in 6 _ (List.mem_of_getElem? (i := 64) (by decide +kernel))
theorem xw_sr8 : Cond.stringRef "PacketWall$Parser" 185 "next offset more number" ∈ lw_tbl := xW_in 6 _ (List.mem_of_getElem? (i := 65) (by decide +kernel))
theorem xw_sr9 : Cond.stringRef "PacketWall$Parser" 187 "type code sum rest" ∈ lw_tbl := xW_in 6 _ (List.mem_of_getElem? (i := 66) (by decide +kernel))
theorem xw_sr10 : Cond.stringRef "PacketWall$Parser" 189 "from to sequence ack words flags window sum" ∈ lw_tbl := xW_in 6 _ (List.mem_of_getElem? (i := 67) (by decide +kernel))
theorem xw_sr11 : Cond.stringRef "PacketWall$Parser" 191 "from to length sum" ∈ lw_tbl := xW_in 6 _ (List.mem_of_getElem? (i := 68) (by decide +kernel))
theorem xw_sr12 : Cond.stringRef "PacketWall$Parser" 193 "flags kind" ∈ lw_tbl := xW_in 6 _ (List.mem_of_getElem? (i := 69) (by decide +kernel))
theorem xw_sr13 : Cond.stringRef "PacketWall$Parser" 195 "bytes" ∈ lw_tbl := xW_in 6 _ (List.mem_of_getElem? (i := 70) (by decide +kernel))
theorem xw_sr14 : Cond.stringRef "PacketWall$Parser" 197 "mark life next from to" ∈ lw_tbl := xW_in 6 _ (List.mem_of_getElem? (i := 71) (by decide +kernel))
theorem xw_sr15 : Cond.stringRef "PacketWall$Parser" 199 "sum" ∈ lw_tbl := xW_in 6 _ (List.mem_of_getElem? (i := 72) (by decide +kernel))
/-! ===== the law's frame over the interpreter ===== -/
/-- the script; whether the formatter is null (0) or a reference (1) -/
def xs_A (L : Nat) (xs : Nat → Int32) (fm : Nat) : Nat → Option (Nat × (Nat → Int32)) := fun k => bif Nat.beq k 0 then some (L, xs) else bif Nat.beq k 300 then some (fm, fun _ => 0) else none
def xcst (b : Nat) (tR : List Nat) (aK aV : List Nat) (tF : Nat) (k : Nat) : Nat := bif Nat.beq k 0 then b else bif Nat.blt k 100 then tR.getD (k - 1) 0 else bif Nat.blt k 200 then aK.getD (k - 100) 0 else bif Nat.blt k 300 then aV.getD (k - 200) 0 else tF
def xh_e : ix_H := (0, 0, fun _ => .inr (0, []))
theorem xarr_p {s : State} {args : Array Value} {ty : FieldType} (h : (Cond.arrayClass ty).before args s = true) : ∃ cA : ClassId, ArrOfT s cA ty ∧ s.vm.findClass ("[" ++ ty.toString) = some cA := by
  obtain ⟨cA, kA, comp, hf, hk, hkind⟩ := Cond.arrayClass_spec h
  exact ⟨cA, fun N z => ⟨(fun k h => by cases h), kA, hk, comp, hkind⟩, hf⟩
theorem xarr_o {s : State} {args : Array Value} {C : String} (h : (Cond.arrayOver (.object C)).before args s = true) : ∃ cA : ClassId, ArrOfT s cA (.object C) ∧ va_RA s cA (.object C) := by
  obtain ⟨comp, cA, kA, h1, -, h3, h4, h5⟩ := Cond.arrayOver_spec h
  exact ⟨cA, fun N z => ⟨(fun k h => by cases h), kA, h3, comp, h4⟩, kA, comp, h3, h4, h1, h5⟩
theorem xcl_D : ∀ (k : Nat) (q : vw_C), xcl[k]? = some q → (∀ w ∈ u_ws q.1 q.2.1 q.2.2, w ∈ xTs) ∧ Cond.instantiable q.1 q.2.2 ∈ xTs := fun k q h => by
  obtain ⟨-, -, h3, -, -, -, h7, -⟩ := xok_D (fun _ => none) k q h
  exact ⟨h3, h7⟩
theorem xNs_in : ∀ q ∈ xNs, Cond.methodLinkNest q.1 q.2.1 q.2.2 ix_host ∈ lw_tbl := by
  have h : xNs.all (fun q => match xpN q.1 q.2.1 with
    | some (k, i) => decide ((xW k)[i]? = some (Cond.methodLinkNest q.1 q.2.1 q.2.2 ix_host))
    | none => false) = true := by decide +kernel
  intro q hq
  have h1 := List.all_eq_true.mp h q hq
  split at h1
  · exact xW_in _ _ (List.mem_of_getElem? (of_decide_eq_true h1))
  · cases h1
def xks : List (Nat × Nat) := [(9, 209), (9, 217), (9, 173), (9, 175), (9, 177), (9, 179), (9, 181), (9, 183), (9, 185), (9, 187), (9, 189), (9, 191), (9, 193), (9, 195), (9, 197), (9, 199)]
def xchkKs (oc : Nat) : Bool := (List.range 1063).all (fun idx => match xT_K oc idx with
  | some (.ref a) => Nat.ble 1000100 a && (Nat.blt a 1000116 && decide (xks[a - 1000100]? = some (oc, idx)))
  | _ => true)
theorem xchkKs_0 : xchkKs 0 = true := by decide +kernel
theorem xchkKs_1 : xchkKs 1 = true := by decide +kernel
theorem xchkKs_2 : xchkKs 2 = true := by decide +kernel
theorem xchkKs_3 : xchkKs 3 = true := by decide +kernel
theorem xchkKs_4 : xchkKs 4 = true := by decide +kernel
theorem xchkKs_5 : xchkKs 5 = true := by decide +kernel
theorem xchkKs_6 : xchkKs 6 = true := by decide +kernel
theorem xchkKs_7 : xchkKs 7 = true := by decide +kernel
theorem xchkKs_8 : xchkKs 8 = true := by decide +kernel
theorem xchkKs_9 : xchkKs 9 = true := by decide +kernel
theorem xchkKs_10 : xchkKs 10 = true := by decide +kernel
theorem xchkKs_11 : xchkKs 11 = true := by decide +kernel
theorem xchkKs_12 : xchkKs 12 = true := by decide +kernel
theorem xchkKs_13 : xchkKs 13 = true := by decide +kernel
theorem xchkKs_14 : xchkKs 14 = true := by decide +kernel
theorem xchkKs_15 : xchkKs 15 = true := by decide +kernel
theorem xchkKs_16 : xchkKs 16 = true := by decide +kernel
theorem xchkKs_17 : xchkKs 17 = true := by decide +kernel
theorem xchkKs_all : ∀ oc, oc < 18 → xchkKs oc = true
  | 0, _ => xchkKs_0
  | 1, _ => xchkKs_1
  | 2, _ => xchkKs_2
  | 3, _ => xchkKs_3
  | 4, _ => xchkKs_4
  | 5, _ => xchkKs_5
  | 6, _ => xchkKs_6
  | 7, _ => xchkKs_7
  | 8, _ => xchkKs_8
  | 9, _ => xchkKs_9
  | 10, _ => xchkKs_10
  | 11, _ => xchkKs_11
  | 12, _ => xchkKs_12
  | 13, _ => xchkKs_13
  | 14, _ => xchkKs_14
  | 15, _ => xchkKs_15
  | 16, _ => xchkKs_16
  | 17, _ => xchkKs_17
  | n + 18, h => absurd h (by omega)
def xks_o (q : Nat) : String := xon ((xks.getD q (0, 0)).1)
theorem xKs_ok {oc idx a : Nat} (h : xT_K oc idx = some (.ref a)) : ∃ q : Nat, q < 16 ∧ a = 1000100 + q ∧ (oc, idx) = xks.getD q (0, 0) := by
  obtain ⟨h1, h2⟩ := xT_K_out h
  have h3 := List.all_eq_true.mp (xchkKs_all oc h1) idx (List.mem_range.mpr h2)
  rw [h] at h3
  simp only [Bool.and_eq_true, decide_eq_true_eq] at h3
  obtain ⟨a1, a2, a3⟩ := h3
  have a1 := Nat.le_of_ble_eq_true a1
  have a2 := Nat.blt_eq.mp a2
  exact ⟨a - 1000100, by omega, by omega, by rw [List.getD_eq_getElem?_getD, a3]; rfl⟩
theorem xstart {p : Program} {s : State} {m : MethodId} {meth : Method} {c : Code} {b L : Nat} {xs : Nat → Int32} (C0 : lw_At p s m meth c b L xs) : ∃ (D : va_G) (aC : Nat → ClassId) (tys : List (ClassId × FieldType)) (cst : Nat → Nat) (fm : Nat), ∀ A : Nat → Option (Nat × (Nat → Int32)), (A = (fun _ => none) ∨ A = xs_A L xs fm) → ix_St (xT A) D xcl aC tys xon xTs xNs (ix_ad s.heap.size cst) s.heap.size s := by
  obtain ⟨hx, hb, hr, hml, hown, hts, hX, hbl, hlocks, hgv⟩ := C0
  have hwt := xwant_ok hgv
  have hAq : ∀ a : Nat, a < s.heap.size → ¬ s.heap.size ≤ a := fun a h => by omega
  obtain ⟨t1, z1, y1⟩ := xstat_ok (A := fun q => s.heap.size ≤ q) (by decide) (fun w hw => hwt w (xwm_s0 w hw)) (hts _ xw_ls0) (hts _ xw_in0) hAq
  obtain ⟨t2, z2, y2⟩ := xstat_ok (A := fun q => s.heap.size ≤ q) (by decide) (fun w hw => hwt w (xwm_s1 w hw)) (hts _ xw_ls1) (hts _ xw_in0) hAq
  obtain ⟨t3, z3, y3⟩ := xstat_ok (A := fun q => s.heap.size ≤ q) (by decide) (fun w hw => hwt w (xwm_s2 w hw)) (hts _ xw_ls2) (hts _ xw_in0) hAq
  obtain ⟨t4, z4, y4⟩ := xstat_ok (A := fun q => s.heap.size ≤ q) (by decide) (fun w hw => hwt w (xwm_s3 w hw)) (hts _ xw_ls3) (hts _ xw_in0) hAq
  obtain ⟨t5, z5, y5⟩ := xstat_ok (A := fun q => s.heap.size ≤ q) (by decide) (fun w hw => hwt w (xwm_s4 w hw)) (hts _ xw_ls4) (hts _ xw_in1) hAq
  obtain ⟨t6, z6, y6⟩ := xstat_ok (A := fun q => s.heap.size ≤ q) (by decide) (fun w hw => hwt w (xwm_s5 w hw)) (hts _ xw_ls5) (hts _ xw_in1) hAq
  obtain ⟨t7, z7, y7⟩ := xstat_ok (A := fun q => s.heap.size ≤ q) (by decide) (fun w hw => hwt w (xwm_s6 w hw)) (hts _ xw_ls6) (hts _ xw_in0) hAq
  obtain ⟨t8, z8, y8⟩ := xstat_ok (A := fun q => s.heap.size ≤ q) (by decide) (fun w hw => hwt w (xwm_s7 w hw)) (hts _ xw_ls7) (hts _ xw_in0) hAq
  have zc : va_Z "java/lang/String" "COMPACT_STRINGS" "Z" (.int 1) (fun q => s.heap.size ≤ q) s s.heap := va_Zof (hts _ xw_ls8) (hts _ xw_in2) (va_eqt (hwt _ (xwm_c0 _ List.mem_cons_self))) hAq
  have zf := va_Zqof (A := fun q => s.heap.size ≤ q) (hts _ xw_ls9) (hts _ xw_in3) (hwt _ (xwm_c0 _ (List.mem_cons_of_mem _ List.mem_cons_self))) hAq
  obtain ⟨k0, v0, e0, o0, c0, w0, b0⟩ := xstr_ok (A := fun q => s.heap.size ≤ q) (by decide) (fun w hw => hwt w (xwm_t0 w hw)) hAq
  obtain ⟨k1, v1, e1, o1, c1, w1, b1⟩ := xstr_ok (A := fun q => s.heap.size ≤ q) (by decide) (fun w hw => hwt w (xwm_t1 w hw)) hAq
  obtain ⟨k2, v2, e2, o2, c2, w2, b2⟩ := xstr_ok (A := fun q => s.heap.size ≤ q) (by decide) (fun w hw => hwt w (xwm_t2 w hw)) hAq
  obtain ⟨k3, v3, e3, o3, c3, w3, b3⟩ := xstr_ok (A := fun q => s.heap.size ≤ q) (by decide) (fun w hw => hwt w (xwm_t3 w hw)) hAq
  obtain ⟨k4, v4, e4, o4, c4, w4, b4⟩ := xstr_ok (A := fun q => s.heap.size ≤ q) (by decide) (fun w hw => hwt w (xwm_t4 w hw)) hAq
  obtain ⟨k5, v5, e5, o5, c5, w5, b5⟩ := xstr_ok (A := fun q => s.heap.size ≤ q) (by decide) (fun w hw => hwt w (xwm_t5 w hw)) hAq
  obtain ⟨k6, v6, e6, o6, c6, w6, b6⟩ := xstr_ok (A := fun q => s.heap.size ≤ q) (by decide) (fun w hw => hwt w (xwm_t6 w hw)) hAq
  obtain ⟨k7, v7, e7, o7, c7, w7, b7⟩ := xstr_ok (A := fun q => s.heap.size ≤ q) (by decide) (fun w hw => hwt w (xwm_t7 w hw)) hAq
  obtain ⟨k8, v8, e8, o8, c8, w8, b8⟩ := xstr_ok (A := fun q => s.heap.size ≤ q) (by decide) (fun w hw => hwt w (xwm_t8 w hw)) hAq
  obtain ⟨k9, v9, e9, o9, c9, w9, b9⟩ := xstr_ok (A := fun q => s.heap.size ≤ q) (by decide) (fun w hw => hwt w (xwm_t9 w hw)) hAq
  obtain ⟨k10, v10, e10, o10, c10, w10, b10⟩ := xstr_ok (A := fun q => s.heap.size ≤ q) (by decide) (fun w hw => hwt w (xwm_t10 w hw)) hAq
  obtain ⟨k11, v11, e11, o11, c11, w11, b11⟩ := xstr_ok (A := fun q => s.heap.size ≤ q) (by decide) (fun w hw => hwt w (xwm_t11 w hw)) hAq
  obtain ⟨k12, v12, e12, o12, c12, w12, b12⟩ := xstr_ok (A := fun q => s.heap.size ≤ q) (by decide) (fun w hw => hwt w (xwm_t12 w hw)) hAq
  obtain ⟨k13, v13, e13, o13, c13, w13, b13⟩ := xstr_ok (A := fun q => s.heap.size ≤ q) (by decide) (fun w hw => hwt w (xwm_t13 w hw)) hAq
  obtain ⟨k14, v14, e14, o14, c14, w14, b14⟩ := xstr_ok (A := fun q => s.heap.size ≤ q) (by decide) (fun w hw => hwt w (xwm_t14 w hw)) hAq
  obtain ⟨k15, v15, e15, o15, c15, w15, b15⟩ := xstr_ok (A := fun q => s.heap.size ≤ q) (by decide) (fun w hw => hwt w (xwm_t15 w hw)) hAq
  obtain ⟨fm, tF, hfm⟩ : ∃ fm tF : Nat, va_Z "jdk/internal/util/Preconditions" "SIOOBE_FORMATTER" "Ljava/util/function/BiFunction;" (bif Nat.beq fm 0 then .null else .ref tF) (fun q => s.heap.size ≤ q) s s.heap := by
    rcases zf with q | ⟨t, q⟩
    · exact ⟨0, 0, q⟩
    · exact ⟨1, t, q⟩
  have htsT : ∀ w ∈ xTs, w.before #[Value.ref b] s = true := fun w hw => hts w (List.mem_filter.mp hw).1
  have h0 : ∀ k : Nat, ∃ x : ClassId × (Nat → Nat), ∀ q : vw_C, xcl[k]? = some q → u_Kn s q.1 q.2.1 q.2.2 x.1 x.2 := by
    intro k
    cases hq : xcl[k]? with
    | none => exact ⟨(0, fun _ => 0), fun q h => by cases h⟩
    | some q =>
      obtain ⟨h1, h2⟩ := xcl_D k q hq
      obtain ⟨cC, iS, h3⟩ := u_known htsT h1 (htsT _ h2)
      exact ⟨(cC, iS), fun q' h => by cases h; exact h3⟩
  obtain ⟨cI, hcI⟩ := Classical.axiomOfChoice h0
  obtain ⟨a0, r0, f0⟩ := xarr_p (htsT _ xw_a0)
  obtain ⟨a1, r1, f1⟩ := xarr_p (htsT _ xw_a1)
  obtain ⟨a2, r2, f2⟩ := xarr_p (htsT _ xw_a2)
  obtain ⟨a3, r3, f3⟩ := xarr_o (hts _ xw_o3)
  obtain ⟨a4, r4, f4⟩ := xarr_o (hts _ xw_o4)
  obtain ⟨a5, r5, f5⟩ := xarr_o (hts _ xw_o5)
  obtain ⟨a6, r6, f6⟩ := xarr_o (hts _ xw_o6)
  obtain ⟨a7, r7, f7⟩ := xarr_o (hts _ xw_o7)
  refine ⟨(fun k => (cI k).1, fun k => (cI k).2), fun t => ([a0, a1, a2, a3, a4, a5, a6, a7] : List ClassId).getD t 0, [(a0, .int), (a1, .long), (a2, .boolean), (a3, .object "PacketWall$Packet"), (a4, .object "PacketWall$Gathering"), (a5, .object "PacketWall$Flow"), (a6, .object "PacketWall$Row"), (a7, .object "PacketWall$Frame")], xcst b [t1, t2, t3, t4, t5, t6, t7, t8] [k0, k1, k2, k3, k4, k5, k6, k7, k8, k9, k10, k11, k12, k13, k14, k15] [v0, v1, v2, v3, v4, v5, v6, v7, v8, v9, v10, v11, v12, v13, v14, v15] tF, fm, fun A hA => ⟨⟨fun k q h => hcI k q h, ?_⟩, ⟨⟨rfl, rfl, rfl⟩, ⟨xw_a0, xw_a1, xw_a2⟩, ?_⟩, ⟨?_, ?_, ?_, ?_, ?_, ?_⟩, fun q hq => va_Nw.of rfl (hts _ (xNs_in q hq))⟩⟩
  · intro k q h
    match k, h with
    | 0, h => cases h; exact ⟨r0, f0⟩
    | 1, h => cases h; exact ⟨r1, f1⟩
    | 2, h => cases h; exact ⟨r2, f2⟩
    | 3, h => cases h; exact ⟨r3, f3⟩
    | 4, h => cases h; exact ⟨r4, f4⟩
    | 5, h => cases h; exact ⟨r5, f5⟩
    | 6, h => cases h; exact ⟨r6, f6⟩
    | 7, h => cases h; exact ⟨r7, f7⟩
    | k + 8, h => simp at h
  · intro t ci ht
    have ht : xT_E t = some ci := ht
    match t, ht with
    | 0, ht => cases ht
    | 1, ht => cases ht
    | 2, ht => cases ht
    | 3, ht => cases ht; exact ⟨_, rfl, rfl, va_AO.of (hts _ xw_o3)⟩
    | 4, ht => cases ht; exact ⟨_, rfl, rfl, va_AO.of (hts _ xw_o4)⟩
    | 5, ht => cases ht; exact ⟨_, rfl, rfl, va_AO.of (hts _ xw_o5)⟩
    | 6, ht => cases ht; exact ⟨_, rfl, rfl, va_AO.of (hts _ xw_o6)⟩
    | 7, ht => cases ht; exact ⟨_, rfl, rfl, va_AO.of (hts _ xw_o7)⟩
    | t + 8, ht => cases ht
  · intro k N f hk
    have hk : xT_A A k = some (N, f) := hk
    match k, hk with
    | 0, hk =>
      rcases hA with rfl | rfl
      · cases hk
      cases hk
      obtain ⟨scr, g1, g2, g3, g4, g5⟩ := hX
      exact ⟨scr, g1, g2, g3, by omega, by rw [g4], g5, by show ¬ s.heap.size ≤ b; omega⟩
    | 1, hk => cases hk; exact y1
    | 2, hk => cases hk; exact y2
    | 3, hk => cases hk; exact y3
    | 4, hk => cases hk; exact y4
    | 5, hk => cases hk; exact y5
    | 6, hk => cases hk; exact y6
    | 7, hk => cases hk; exact y7
    | 8, hk => cases hk; exact y8
    | k + 9, hk => cases hk
  · intro oc idx v hk
    have hk : xT_S A oc idx = some v := hk
    unfold xT_S at hk
    cases hb : (Nat.beq oc 15 && Nat.beq idx 1053) with
    | true =>
      rw [hb] at hk
      rw [Bool.and_eq_true] at hb
      obtain ⟨q1, q2⟩ := hb
      have q1 := Nat.eq_of_beq_eq_true q1
      have q2 := Nat.eq_of_beq_eq_true q2
      subst q1
      subst q2
      rcases hA with rfl | rfl
      · cases hk
      refine ⟨_, _, _, xw_fmt, ?_⟩
      have hk : (bif Nat.beq fm 0 then some (Value.null) else some (.ref 1000300)) = some v := hk
      cases h0 : Nat.beq fm 0 with
      | true => rw [h0] at hk hfm; cases hk; exact hfm
      | false => rw [h0] at hk hfm; cases hk; exact hfm
    | false =>
      rw [hb] at hk
      obtain ⟨q, z, hz, hv, hl⟩ := xS0_ok hk
      refine ⟨_, _, _, hl, ?_⟩
      subst hv
      match q, hz with
      | 0, hz => cases hz; exact z1
      | 1, hz => cases hz; exact z2
      | 2, hz => cases hz; exact z3
      | 3, hz => cases hz; exact z4
      | 4, hz => cases hz; exact z5
      | 5, hz => cases hz; exact z6
      | 6, hz => cases hz; exact z7
      | 7, hz => cases hz; exact z8
      | 8, hz => cases hz; exact zc
      | q + 9, hz => cases hz
  · intro k N f hk
    have hk : xT_B k = some (N, f) := hk
    unfold xT_B at hk
    cases hb : (Nat.ble 200 k && Nat.blt k 216) with
    | false => rw [hb] at hk; cases hk
    | true =>
      rw [hb] at hk
      rw [Bool.and_eq_true] at hb
      have q1 := Nat.le_of_ble_eq_true hb.1
      have q2 := Nat.blt_eq.mp hb.2
      obtain ⟨j, rfl⟩ : ∃ j, k = 200 + j := ⟨k - 200, by omega⟩
      cases hk
      rcases (show j = 0 ∨ j = 1 ∨ j = 2 ∨ j = 3 ∨ j = 4 ∨ j = 5 ∨ j = 6 ∨ j = 7 ∨ j = 8 ∨ j = 9 ∨ j = 10 ∨ j = 11 ∨ j = 12 ∨ j = 13 ∨ j = 14 ∨ j = 15 by omega) with rfl | rfl | rfl | rfl | rfl | rfl | rfl | rfl | rfl | rfl | rfl | rfl | rfl | rfl | rfl | rfl
      · exact b0
      · exact b1
      · exact b2
      · exact b3
      · exact b4
      · exact b5
      · exact b6
      · exact b7
      · exact b8
      · exact b9
      · exact b10
      · exact b11
      · exact b12
      · exact b13
      · exact b14
      · exact b15
  · intro k x hk
    have hk : xT_O k = some x := hk
    unfold xT_O at hk
    cases hb : (Nat.ble 100 k && Nat.blt k 116) with
    | false => rw [hb] at hk; cases hk
    | true =>
      rw [hb] at hk
      rw [Bool.and_eq_true] at hb
      have q1 := Nat.le_of_ble_eq_true hb.1
      have q2 := Nat.blt_eq.mp hb.2
      obtain ⟨j, rfl⟩ : ∃ j, k = 100 + j := ⟨k - 100, by omega⟩
      cases hk
      rcases (show j = 0 ∨ j = 1 ∨ j = 2 ∨ j = 3 ∨ j = 4 ∨ j = 5 ∨ j = 6 ∨ j = 7 ∨ j = 8 ∨ j = 9 ∨ j = 10 ∨ j = 11 ∨ j = 12 ∨ j = 13 ∨ j = 14 ∨ j = 15 by omega) with rfl | rfl | rfl | rfl | rfl | rfl | rfl | rfl | rfl | rfl | rfl | rfl | rfl | rfl | rfl | rfl
      · exact ⟨o0, c0, w0⟩
      · exact ⟨o1, c1, w1⟩
      · exact ⟨o2, c2, w2⟩
      · exact ⟨o3, c3, w3⟩
      · exact ⟨o4, c4, w4⟩
      · exact ⟨o5, c5, w5⟩
      · exact ⟨o6, c6, w6⟩
      · exact ⟨o7, c7, w7⟩
      · exact ⟨o8, c8, w8⟩
      · exact ⟨o9, c9, w9⟩
      · exact ⟨o10, c10, w10⟩
      · exact ⟨o11, c11, w11⟩
      · exact ⟨o12, c12, w12⟩
      · exact ⟨o13, c13, w13⟩
      · exact ⟨o14, c14, w14⟩
      · exact ⟨o15, c15, w15⟩
  · intro oc idx a hk
    have hk : xT_K oc idx = some (.ref a) := hk
    obtain ⟨q, h1, h2, h3⟩ := xKs_ok hk
    subst h2
    match q, h1, h3 with
    | 0, _, h3 => cases h3; exact ⟨_, vk_R.of (hts _ xw_sr0) e0⟩
    | 1, _, h3 => cases h3; exact ⟨_, vk_R.of (hts _ xw_sr1) e1⟩
    | 2, _, h3 => cases h3; exact ⟨_, vk_R.of (hts _ xw_sr2) e2⟩
    | 3, _, h3 => cases h3; exact ⟨_, vk_R.of (hts _ xw_sr3) e3⟩
    | 4, _, h3 => cases h3; exact ⟨_, vk_R.of (hts _ xw_sr4) e4⟩
    | 5, _, h3 => cases h3; exact ⟨_, vk_R.of (hts _ xw_sr5) e5⟩
    | 6, _, h3 => cases h3; exact ⟨_, vk_R.of (hts _ xw_sr6) e6⟩
    | 7, _, h3 => cases h3; exact ⟨_, vk_R.of (hts _ xw_sr7) e7⟩
    | 8, _, h3 => cases h3; exact ⟨_, vk_R.of (hts _ xw_sr8) e8⟩
    | 9, _, h3 => cases h3; exact ⟨_, vk_R.of (hts _ xw_sr9) e9⟩
    | 10, _, h3 => cases h3; exact ⟨_, vk_R.of (hts _ xw_sr10) e10⟩
    | 11, _, h3 => cases h3; exact ⟨_, vk_R.of (hts _ xw_sr11) e11⟩
    | 12, _, h3 => cases h3; exact ⟨_, vk_R.of (hts _ xw_sr12) e12⟩
    | 13, _, h3 => cases h3; exact ⟨_, vk_R.of (hts _ xw_sr13) e13⟩
    | 14, _, h3 => cases h3; exact ⟨_, vk_R.of (hts _ xw_sr14) e14⟩
    | 15, _, h3 => cases h3; exact ⟨_, vk_R.of (hts _ xw_sr15) e15⟩
    | q + 16, h1, _ => exact absurd h1 (by omega)
  · intro oc idx g hk
    have hk : xT_G oc idx = some g := hk
    unfold xT_G at hk
    cases h1 : Nat.beq oc 15 with
    | false => rw [h1] at hk; cases hk
    | true =>
      have q1 := Nat.eq_of_beq_eq_true h1
      subst q1
      rw [h1] at hk
      cases h2 : Nat.beq idx 9 with
      | true =>
        have q2 := Nat.eq_of_beq_eq_true h2
        subst q2
        rw [h2] at hk
        cases hk
        exact xw_gv
      | false =>
        rw [h2] at hk
        cases h3 : Nat.beq idx 15 with
        | false => rw [h3] at hk; cases hk
        | true =>
          have q3 := Nat.eq_of_beq_eq_true h3
          subst q3
          rw [h3] at hk
          cases hk
          exact xw_gc
theorem xlaw_cd (pc : Nat) (i : Instr) (h : xm_law.2.2.2.2.2.2 pc = some i) : ∃ len : Nat, decode xm_law.2.2.1 pc = .ok (i, len) ∧ (ix_len i = 0 ∨ ix_len i = len) := by
  have h1 : xc_law_c pc = some i := h
  have h2 := ix_cd_ok (b := code) (cd := xc_law_c) xc_law_ok (xg_no 1344 xc_law) pc i h1
  exact h2
section XLAW
variable {p : Program} {l : Launch} {e : Env} {s : State} {m : MethodId} {below : List Frame} {meth : Method} {c : Code} {b L : Nat} {xs : Nat → Int32} {D : va_G} {aC : Nat → ClassId} {tys : List (ClassId × FieldType)} {cst : Nat → Nat}
set_option maxRecDepth 100000 in
/-- a piece of the law's run -/
theorem xstep (C0 : lw_At p s m meth c b L xs) {A : Nat → Option (Nat × (Nat → Int32))} (hSt : ix_St (xT A) D xcl aC tys xon xTs xNs (ix_ad s.heap.size cst) s.heap.size s) {k d j : Nat} (hd : d ≤ 1000) {σ : ix_S} {res : ix_S ⊕ (Option Value × ix_H)} (h : ix_iter (xT A) (ix_run (xT A) k d) xm_law j σ = some res) (h1 : (ix_rh res).1 ≤ 600000) (h2 : (ix_rh res).2.1 ≤ 7302250)
    (hE : ix_End p l e room_1 s m #[Value.ref b] below meth c (lw_Z below #[Value.ref b] s) D xcl aC (ix_ad s.heap.size cst) s.heap.size 0 0 xm_law res) : ix_End p l e room_1 s m #[Value.ref b] below meth c (lw_Z below #[Value.ref b] s) D xcl aC (ix_ad s.heap.size cst) s.heap.size 0 0 xm_law (.inl σ) := by
  obtain ⟨hx, hb, hr, hml, hown, hts, hX, hbl, hlocks, hgv⟩ := C0
  have had : ∀ a : Nat, a < 1000000 → ix_ad s.heap.size cst a = s.heap.size + a := fun a ha => ix_ad_lt ha
  have hsnd : ix_Snd l (xT A) D xcl aC tys xon xTs xNs (ix_ad s.heap.size cst) s.heap.size d (ix_run (xT A) k d) := ix_run_ok l had (xok A) k d
  refine (ix_iter_ok (n0 := 0) (k0 := 0) (ix_run_mono (xT A) k d) hx hb hml had (fun w hw => hts w (List.mem_filter.mp hw).1) hown (xok A) hSt (Nat.add_zero _).symm hsnd ?_ ?_ (fun q => by cases q) xlaw_cd j σ res h).2 (Nat.zero_le _) (Nat.zero_le _) ?_ ?_ hE
  · show d + 1 ≤ 2048
    omega
  · show 64 * (d + 1) ≤ 84000
    omega
  · show (ix_rh res).1 - 0 ≤ 600000
    omega
  · show (ix_rh res).2.1 - 0 ≤ 7302250
    omega
/-- the law's end -/
theorem xend (C0 : lw_At p s m meth c b L xs) {hp : ix_H} (h1 : hp.1 ≤ 600000) (h2 : hp.2.1 ≤ 7302250) : ix_End p l e room_1 s m #[Value.ref b] below meth c (lw_Z below #[Value.ref b] s) D xcl aC (ix_ad s.heap.size cst) s.heap.size 0 0 xm_law (.inr (some (.int 1), hp)) := by
  obtain ⟨hx, hb, hr, hml, hown, hts, hX, hbl, hlocks, hgv⟩ := C0
  intro H1 locs1 arr1 pc' i st' hW hi hret
  unfold ix_ret at hret
  split at hret
  · split at hret <;> cases hret
  · split at hret
    · split at hret
      · cases hret
        obtain ⟨len, hdc, hlen⟩ := xlaw_cd pc' _ hi
        refine va_forget (fun q hq => hW.2.2.2.2.2 q hq) ?_
        refine W.widen (k := 600000) (n := 7302250) (by omega) (by omega) ?_
        have e9 : ix_len Instr.ireturn = len := hlen.resolve_left (by decide)
        rw [← e9] at hdc
        exact lw_ret hx hb hr hlocks hdc
      · cases hret
    · cases hret
  · split at hret <;> cases hret
  · split at hret <;> cases hret
  · cases hret
/-- from the entry -/
theorem xentry (C0 : lw_At p s m meth c b L xs) (hE : ix_End p l e room_1 s m #[Value.ref b] below meth c (lw_Z below #[Value.ref b] s) D xcl aC (ix_ad s.heap.size cst) s.heap.size 0 0 xm_law (.inl (0, [(0, .ref 1000000)], [], xh_e))) : W p l e room_1 s m #[Value.ref b] below meth c s.heap [] 0 0 (lw_Z below #[Value.ref b] s) (entryFrame m ([Value.ref b] : List Value).toArray 4) := by
  rw [lg_entry_eq]
  have hl := lv_entry ([Value.ref b]) (n := 4) (Nat.le_of_ble_eq_true rfl)
  exact hE s.heap [] _ ⟨Nat.zero_le _, fun k q h => by simp [ix_ws, xh_e] at h, ⟨fun i j x y h => by simp [ix_ws, xh_e] at h, fun k q h => by simp [ix_ws, xh_e] at h⟩, va_S.rf⟩ hl
end XLAW
