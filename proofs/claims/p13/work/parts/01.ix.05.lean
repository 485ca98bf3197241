section
section IX2
variable {p : Program} {l : Launch} {e : Env} {R : Room} {s : State} {m : MethodId} {args : Array Value} {below : List Frame} {meth : Method} {c : Code} {H : Heap} {locs : List Loc} {cells slots : Nat} {Q : State → Prop}
variable {cc : ByteArray} {pc : Nat} {arr : Array Slot} {ad : Nat → Nat}
set_option maxHeartbeats 4000000 in
theorem ix_loc_ok (hx : p.tables.exec = Jvm.exec) (hb : c.code = cc) {i : Instr} {st st' : List Value} {nL : Nat} {ls ls' : ix_L} (hl : lv_has arr nL (ix_l ad ls)) (hd : decode cc pc = .ok (i, ix_len i)) (h : ix_loc i nL ls st = some (ls', st')) (k : ∀ arr' : Array Slot, lv_has arr' nL (ix_l ad ls') → W p l e R s m args below meth c H locs cells slots Q (F0 m (pc + ix_len i) arr' (st'.map (ix_v ad)))) : W p l e R s m args below meth c H locs cells slots Q (F0 m pc arr (st.map (ix_v ad))) := by
  unfold ix_loc at h
  split at h
  · split at h
    · rename_i hx1
      cases h
      exact lv_iload_n hx hb hd rfl (ix_ld_has hl hx1) (k arr hl)
    · cases h
  · split at h
    · rename_i hx1
      cases h
      exact lv_iload hx hb hd (ix_ld_has hl hx1) (k arr hl)
    · cases h
  · split at h
    · rename_i hx1
      cases h
      exact lv_lload_n hx hb hd rfl (ix_ld_has hl hx1) (k arr hl)
    · cases h
  · split at h
    · rename_i hx1
      cases h
      exact lv_lload hx hb hd (ix_ld_has hl hx1) (k arr hl)
    · cases h
  · split at h
    · rename_i hx1
      cases h
      exact lv_aload_n hx hb hd rfl (ix_ld_has hl hx1) (k arr hl)
    · cases h
  · split at h
    · rename_i hx1
      cases h
      exact lv_aload hx hb hd (ix_ld_has hl hx1) (k arr hl)
    · cases h
  · split at h
    · rename_i hn
      cases h
      exact lv_istore_n hx hb hd rfl hl hn (ix_l_st1 ad ls _ (.int _)) k
    · cases h
  · split at h
    · rename_i hn
      cases h
      exact lv_istore hx hb hd hl hn (ix_l_st1 ad ls _ (.int _)) k
    · cases h
  · split at h
    · rename_i hn
      cases h
      exact lv_lstore_n hx hb hd rfl hl hn (ix_l_st2 ad ls _ (.long _)) k
    · cases h
  · split at h
    · rename_i hn
      cases h
      exact lv_lstore hx hb hd hl hn (ix_l_st2 ad ls _ (.long _)) k
    · cases h
  · split at h
    · rename_i hn
      cases h
      exact lv_astore_n hx hb hd rfl hl hn (ix_l_st1 ad ls _ (.ref _)) k
    · cases h
  · split at h
    · rename_i hn
      cases h
      exact lv_astore hx hb hd hl hn (ix_l_st1 ad ls _ (.ref _)) k
    · cases h
  · split at h
    · rename_i hx1
      split at h
      · rename_i hn
        cases h
        obtain ⟨k0, hk0⟩ := List.getElem?_of_mem (List.mem_map.mpr ⟨_, ix_ld_mem hx1, rfl⟩ : _ ∈ ix_l ad ls)
        exact lv_iinc hx hb hd hl hk0 rfl hn (ix_l_st1 ad ls _ (.int _)) k
      · cases h
    · cases h
  · cases h
theorem ix_if_ok (hx : p.tables.exec = Jvm.exec) (hb : c.code = cc) {cd : Jvm.ClassFile.Cond} {off : Int} {x : Int32} {t : Nat} {rest : List Value} (hd : decode cc pc = .ok (.ifCond cd off, 3)) (ht : ix_tg pc off = some t) (kt : ix_cb cd x 0 = true → W p l e R s m args below meth c H locs cells slots Q (F0 m t arr rest)) (kf : ix_cb cd x 0 = false → W p l e R s m args below meth c H locs cells slots Q (F0 m (pc + 3) arr rest)) : W p l e R s m args below meth c H locs cells slots Q (F0 m pc arr (.int x :: rest)) := by
  cases cd with
  | eq => exact lv_if_eq hx hb hd (ix_tg_ok ht) (fun q => kt (decide_eq_true q)) (fun q => kf (decide_eq_false q))
  | ne => exact lv_if_ne hx hb hd (ix_tg_ok ht) (fun q => kt (decide_eq_true q)) (fun q => kf (decide_eq_false (fun z => z q)))
  | lt => exact lv_if_lt hx hb hd (ix_tg_ok ht) (fun q => kt (decide_eq_true q)) (fun q => kf (decide_eq_false q))
  | ge => exact lv_if_ge hx hb hd (ix_tg_ok ht) (fun q => kt (decide_eq_true q)) (fun q => kf (decide_eq_false q))
  | gt => exact lv_if_gt hx hb hd (ix_tg_ok ht) (fun q => kt (decide_eq_true q)) (fun q => kf (decide_eq_false q))
  | le => exact lv_if_le hx hb hd (ix_tg_ok ht) (fun q => kt (decide_eq_true q)) (fun q => kf (decide_eq_false q))
theorem ix_icmp_ok (hx : p.tables.exec = Jvm.exec) (hb : c.code = cc) {cd : Jvm.ClassFile.Cond} {off : Int} {x y : Int32} {t : Nat} {rest : List Value} (hd : decode cc pc = .ok (.if_icmp cd off, 3)) (ht : ix_tg pc off = some t) (kt : ix_cb cd x y = true → W p l e R s m args below meth c H locs cells slots Q (F0 m t arr rest)) (kf : ix_cb cd x y = false → W p l e R s m args below meth c H locs cells slots Q (F0 m (pc + 3) arr rest)) : W p l e R s m args below meth c H locs cells slots Q (F0 m pc arr (.int y :: .int x :: rest)) := by
  cases cd with
  | eq => exact lv_icmp_eq hx hb hd (ix_tg_ok ht) (fun q => kt (decide_eq_true q)) (fun q => kf (decide_eq_false q))
  | ne => exact lv_icmp_ne hx hb hd (ix_tg_ok ht) (fun q => kt (decide_eq_true q)) (fun q => kf (decide_eq_false (fun z => z q)))
  | lt => exact lv_icmp_lt hx hb hd (ix_tg_ok ht) (fun q => kt (decide_eq_true q)) (fun q => kf (decide_eq_false q))
  | ge => exact lv_icmp_ge hx hb hd (ix_tg_ok ht) (fun q => kt (decide_eq_true q)) (fun q => kf (decide_eq_false q))
  | gt => exact lv_icmp_gt hx hb hd (ix_tg_ok ht) (fun q => kt (decide_eq_true q)) (fun q => kf (decide_eq_false q))
  | le => exact lv_icmp_le hx hb hd (ix_tg_ok ht) (fun q => kt (decide_eq_true q)) (fun q => kf (decide_eq_false q))
theorem ix_d3 {i : Instr} {len n : Nat} (hd : decode cc pc = .ok (i, len)) (hlen : ix_len i = 0 ∨ ix_len i = len) (hn : ix_len i = n + 1) : decode cc pc = .ok (i, n + 1) := by
  rcases hlen with h | h
  · omega
  · rw [hd, ← h, hn]
set_option maxHeartbeats 4000000 in
theorem ix_br_ok (hx : p.tables.exec = Jvm.exec) (hb : c.code = cc) {base : Nat} (had : ∀ a : Nat, a < 1000000 → ad a = base + a) {i : Instr} {len pc' : Nat} {st st' : List Value} (hd : decode cc pc = .ok (i, len)) (hlen : ix_len i = 0 ∨ ix_len i = len) (h : ix_br i pc st = some (pc', st')) (k : W p l e R s m args below meth c H locs cells slots Q (F0 m pc' arr (st'.map (ix_v ad)))) : W p l e R s m args below meth c H locs cells slots Q (F0 m pc arr (st.map (ix_v ad))) := by
  unfold ix_br at h
  split at h
  · have hd := ix_d3 hd hlen rfl
    split at h
    · rename_i ht
      cases h
      exact lv_goto hx hb hd (ix_tg_ok ht) k
    · cases h
  · have hd := ix_d3 hd hlen rfl
    split at h
    · rename_i ht
      refine ix_if_ok hx hb hd ht (fun hc => ?_) (fun hc => ?_)
      · rw [hc] at h
        cases h
        exact k
      · rw [hc] at h
        cases h
        exact k
    · cases h
  · have hd := ix_d3 hd hlen rfl
    split at h
    · rename_i ht
      refine ix_icmp_ok hx hb hd ht (fun hc => ?_) (fun hc => ?_)
      · rw [hc] at h
        cases h
        exact k
      · rw [hc] at h
        cases h
        exact k
    · cases h
  · have hd := ix_d3 hd hlen rfl
    split at h
    · rename_i y x st0 _ _ t ht
      split at h
      · rename_i hxy
        refine lv_acmp_ne (rx := some (ad x)) (ry := some (ad y)) hx hb hd (ix_tg_ok ht) (fun hn => ?_) (fun hn => ?_)
        · cases hc : Nat.beq x y with
          | true =>
            have e : x = y := Nat.eq_of_beq_eq_true hc
            exact absurd (by rw [e]) hn
          | false =>
            rw [hc] at h
            cases h
            exact k
        · have e : x = y := by
            have := Option.some.inj hn
            rw [had x hxy.1, had y hxy.2] at this
            exact Nat.add_left_cancel this
          subst e
          have hc : Nat.beq x x = true := by simp
          rw [hc] at h
          cases h
          exact k
      · cases h
    · cases h
  · split at h
    · rename_i ho
      split at h
      · rename_i ht
        cases h
        exact lv_tableOut hx hb hd ho (ix_tg_ok ht) k
      · cases h
    · rename_i ho
      split at h
      · rename_i off hoff
        split at h
        · rename_i ht
          cases h
          exact lv_tableIn hx hb hd (fun q => ho (Or.inl q)) (fun q => ho (Or.inr q)) hoff (ix_tg_ok ht) k
        · cases h
      · cases h
  · split at h
    · rename_i hs
      split at h
      · rename_i ht
        cases h
        exact lv_lookup hx hb hd hs rfl (ix_tg_ok ht) k
      · cases h
    · cases h
  · cases h
end IX2
end
section
end
