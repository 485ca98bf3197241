section
section XLAW
variable {p : Program} {l : Launch} {e : Env} {s : State} {m : MethodId} {below : List Frame} {meth : Method} {c : Code} {b L : Nat} {xs : Nat → Int32} {D : va_G} {aC : Nat → ClassId} {tys : List (ClassId × FieldType)} {cst : Nat → Nat}
set_option maxRecDepth 100000 in
/-- a piece of the law's run -/
theorem xstep (C0 : lw_At p s m meth c b L xs) {A : Nat → Option (Nat × (Nat → Int32))} (hSt : ix_St (xT A) D xcl aC tys xon xTs xNs (ix_ad s.heap.size cst) s.heap.size s) {k d j : Nat} (hd : d ≤ 1000) {σ : ix_S} {res : ix_S ⊕ (Option Value × ix_H)} (h : ix_iter (xT A) (ix_run (xT A) k d) xm_law j σ = some res) (h1 : (ix_rh res).1 ≤ 600000) (h2 : (ix_rh res).2.1 ≤ 7302250)
    (hE : ix_End p l e room_1 s m #[Value.ref b] below meth c (lw_Z below #[Value.ref b] s) D xcl aC (ix_ad s.heap.size cst) s.heap.size 0 0 xm_law res) : ix_End p l e room_1 s m #[Value.ref b] below meth c (lw_Z below #[Value.ref b] s) D xcl aC (ix_ad s.heap.size cst) s.heap.size 0 0 xm_law (.inl σ) := by
  obtain ⟨hx, hb, hr, hml, hown, hts, hX, hbl, hlocks, hgv⟩ := C0
  have had : ∀ a : Nat, a < 1000000 → ix_ad s.heap.size cst a = s.heap.size + a := fun a ha => ix_ad_lt ha
  have hsnd : ix_Snd l (xT A) D xcl aC tys xon xTs xNs (ix_ad s.heap.size cst) s.heap.size d (ix_run (xT A) k d) := ix_run_ok l had (xok A) k d
  refine (ix_iter_ok (n0 := 0) (k0 := 0) (ix_run_mono (xT A) k d) hx hb hml had (fun w hw => hts w (List.mem_filter.mp hw).1) hown (xok A) hSt (Nat.add_zero _).symm hsnd ?_ ?_ (fun q => by cases q) xlaw_cd j σ res h).2 (Nat.zero_le _) (Nat.zero_le _) ?_ ?_ hE
  · show d + 1 ≤ 2048
    omega
  · show 64 * (d + 1) ≤ 84000
    omega
  · show (ix_rh res).1 - 0 ≤ 600000
    omega
  · show (ix_rh res).2.1 - 0 ≤ 7302250
    omega
/-- the law's end -/
theorem xend (C0 : lw_At p s m meth c b L xs) {hp : ix_H} (h1 : hp.1 ≤ 600000) (h2 : hp.2.1 ≤ 7302250) : ix_End p l e room_1 s m #[Value.ref b] below meth c (lw_Z below #[Value.ref b] s) D xcl aC (ix_ad s.heap.size cst) s.heap.size 0 0 xm_law (.inr (some (.int 1), hp)) := by
  obtain ⟨hx, hb, hr, hml, hown, hts, hX, hbl, hlocks, hgv⟩ := C0
  intro H1 locs1 arr1 pc' i st' hW hi hret
  unfold ix_ret at hret
  split at hret
  · split at hret <;> cases hret
  · split at hret
    · split at hret
      · cases hret
        obtain ⟨len, hdc, hlen⟩ := xlaw_cd pc' _ hi
        refine va_forget (fun q hq => hW.2.2.2.2.2 q hq) ?_
        refine W.widen (k := 600000) (n := 7302250) (by omega) (by omega) ?_
        have e9 : ix_len Instr.ireturn = len := hlen.resolve_left (by decide)
        rw [← e9] at hdc
        exact lw_ret hx hb hr hlocks hdc
      · cases hret
    · cases hret
  · split at hret <;> cases hret
  · split at hret <;> cases hret
  · cases hret
/-- from the entry -/
theorem xentry (C0 : lw_At p s m meth c b L xs) (hcst : cst 0 = b) (hE : ix_End p l e room_1 s m #[Value.ref b] below meth c (lw_Z below #[Value.ref b] s) D xcl aC (ix_ad s.heap.size cst) s.heap.size 0 0 xm_law (.inl (0, [(0, .ref 1000000)], [], xh_e))) : W p l e room_1 s m #[Value.ref b] below meth c s.heap [] 0 0 (lw_Z below #[Value.ref b] s) (entryFrame m ([Value.ref b] : List Value).toArray 4) := by
  rw [lg_entry_eq]
  have hl := lv_entry ([Value.ref b]) (n := 4) (Nat.le_of_ble_eq_true rfl)
  exact hE s.heap [] _ ⟨Nat.zero_le _, fun k q h => by simp [ix_ws, xh_e] at h, ⟨fun i j x y h => by simp [ix_ws, xh_e] at h, fun k q h => by simp [ix_ws, xh_e] at h⟩, va_S.rf⟩ (by
    have e : lv_args 0 [Value.ref b] = ix_l (ix_ad s.heap.size cst) [(0, Value.ref 1000000)] := by
      show [(0, Value.ref b)] = [(0, Value.ref (cst 0))]
      rw [hcst]
    rw [← e]
    exact hl)
end XLAW
end

