section
theorem lw_c6 : ("PacketWall$Machine" ≠ "java/lang/invoke/MethodHandle" ∧ "PacketWall$Machine" ≠ "java/lang/invoke/VarHandle") ∧ Cond.instantiable "PacketWall$Machine" 20 ∈ tables_1 := ⟨⟨by decide +kernel, by decide +kernel⟩, List.mem_of_getElem? (i := 342) (by decide +kernel)⟩
theorem lw_c7 : ("PacketWall$Row" ≠ "java/lang/invoke/MethodHandle" ∧ "PacketWall$Row" ≠ "java/lang/invoke/VarHandle") ∧ Cond.instantiable "PacketWall$Row" 4 ∈ tables_1 := ⟨⟨by decide +kernel, by decide +kernel⟩, List.mem_of_getElem? (i := 390) (by decide +kernel)⟩
theorem lw_c8 : ("PacketWallModel" ≠ "java/lang/invoke/MethodHandle" ∧ "PacketWallModel" ≠ "java/lang/invoke/VarHandle") ∧ Cond.instantiable "PacketWallModel" 148 ∈ tables_1 := ⟨⟨by decide +kernel, by decide +kernel⟩, List.mem_of_getElem? (i := 1684) (by decide +kernel)⟩
theorem lw_cls_ok : ∀ c ∈ lw_cls, (c.1 ≠ "java/lang/invoke/MethodHandle" ∧ c.1 ≠ "java/lang/invoke/VarHandle") ∧ Cond.instantiable c.1 c.2 ∈ tables_1 := List.forall_mem_cons.mpr ⟨lw_c0, List.forall_mem_cons.mpr ⟨lw_c1, List.forall_mem_cons.mpr ⟨lw_c2, List.forall_mem_cons.mpr ⟨lw_c3, List.forall_mem_cons.mpr ⟨lw_c4, List.forall_mem_cons.mpr ⟨lw_c5, List.forall_mem_cons.mpr ⟨lw_c6, List.forall_mem_cons.mpr ⟨lw_c7, List.forall_mem_cons.mpr ⟨lw_c8, fun _ h => absurd h List.not_mem_nil⟩⟩⟩⟩⟩⟩⟩⟩⟩
theorem lw_cls_in : lw_privs.all (fun q => lw_cls.any (fun c => decide (q.1.cls = c.1) && decide (q.2 = c.2))) = true := by decide +kernel
theorem lw_privs_ok : ∀ q ∈ lw_privs, lw_okq q := by
  intro q hq
  have h1 := List.all_eq_true.mp lw_cls_in q hq
  obtain ⟨c, hc, e⟩ := List.any_eq_true.mp h1
  rw [Bool.and_eq_true] at e
  have e1 : q.1.cls = c.1 := of_decide_eq_true e.1
  have e2 : q.2 = c.2 := of_decide_eq_true e.2
  have h2 := lw_cls_ok c hc
  rw [← e1, ← e2] at h2
  have h3 := lw_go_ok _ _ _ _ lw_go_1 q hq
  exact ⟨h2.1, h2.2, h3.1, h3.2⟩
end

