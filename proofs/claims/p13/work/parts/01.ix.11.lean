section
section IX5
variable {p : Program} {l : Launch} {e : Env} {R : Room} {s : State} {m : MethodId} {args : Array Value} {below : List Frame} {meth : Method} {c : Code} {H : Heap} {locs : List Loc} {Q : State → Prop}
variable {cc : ByteArray} {pc : Nat} {arr : Array Slot} {ad : Nat → Nat} {rest : List Value}
variable {T : ix_T} {D : va_G} {cl : List vw_C} {aC : Nat → ClassId} {tys : List (ClassId × FieldType)} {on : Nat → String} {Ts : List Cond} {base : Nat} {hp : ix_H} {oc : Nat}
set_option maxHeartbeats 4000000 in
theorem ix_hp_ok (hx : p.tables.exec = Jvm.exec) (hb : c.code = cc) (had : ∀ a : Nat, a < 1000000 → ad a = base + a) (hts : ∀ w ∈ Ts, w.before args s = true) (hown : s.vm.findClass (on oc) = some m.cls) (hK : va_K D cl tys s) (hF : ix_okF T cl on Ts) (hO : ix_okD T cl on Ts) (hC : ix_okC T cl on Ts) (hKK : ix_okK T on Ts) (hY : ix_okY T cl aC tys Ts s) (hA : ix_okA T on Ts ad base s s.heap) (hW : ix_W D cl aC ad base hp s H locs)
    {n0 k0 : Nat} (h0 : s.heap.size = base + n0) (hn0 : n0 ≤ hp.1) (hk0 : k0 ≤ hp.2.1) {ini : Bool} (hini : ini = true → meth.name = "<init>") {i : Instr} {st st' : List Value} {hp' : ix_H} (hd : decode cc pc = .ok (i, ix_len i)) (h : ix_hp T oc ini i st hp = some (st', hp')) (hR : hp'.1 - n0 ≤ R.cells) (hR2 : hp'.2.1 - k0 ≤ R.slots)
    (k : ∀ (H1 : Heap) (locs1 : List Loc), ix_W D cl aC ad base hp' s H1 locs1 → W p l e R s m args below meth c H1 locs1 (hp'.1 - n0) (hp'.2.1 - k0) Q (F0 m (pc + ix_len i) arr (st'.map (ix_v ad)))) : W p l e R s m args below meth c H locs (hp.1 - n0) (hp.2.1 - k0) Q (F0 m pc arr (st.map (ix_v ad))) := by
  unfold ix_hp at h
  split at h
  · split at h
    · rename_i ci j cx fs h1 h2
      split at h
      · rename_i hc
        subst hc
        split at h
        · rename_i h3
          cases h
          exact ix_getf hx hb had hts hown hK hF hO hW h1 h2 h3 hd (k _ _ hW)
        · cases h
      · cases h
    · split at h
      · rename_i h1 h2
        cases h
        exact ix_sget hx hb hts hown hA hW h1 h2 hd (k _ _ hW)
      · rename_i h1 h2
        cases h
        exact ix_sget hx hb hts hown hA hW h1 h2 hd (k _ _ hW)
      · cases h
  · split at h
    · rename_i ci j cx fs h1 h2
      split at h
      · rename_i hc
        obtain ⟨hc, hj, hn, hf, hfin⟩ := hc
        subst hc
        cases h
        exact ix_putf hx hb had hts hown hK hF hO hW h1 h2 hj hn hf (hfin.imp id (fun q => ⟨hini q.1, q.2⟩)) hd k
      · cases h
    · cases h
  · split at h
    · rename_i h2
      split at h
      · rename_i ht
        cases h
        exact ix_alen hx hb had hK hY hW h2 ht hd (k _ _ hW)
      · cases h
    · split at h
      · rename_i h3
        cases h
        exact ix_clen hx hb hA hW h3 hd (k _ _ hW)
      · split at h
        · rename_i h4
          cases h
          exact ix_blen hx hb hA hW h4 hd (k _ _ hW)
        · cases h
  · split at h
    · rename_i h2
      split at h
      · cases h
      · rename_i hi
        cases h
        exact ix_iald hx hb had hK hY hW h2 hi hd (k _ _ hW)
    · cases h
    · split at h
      · rename_i h3
        split at h
        · cases h
        · rename_i hi
          cases h
          exact ix_cald hx hb hA hW h3 hi hd (k _ _ hW)
      · cases h
  · split at h
    · rename_i h2
      cases h
      exact ix_gets hx hb hts hown hA hW h2 hd (k _ _ hW)
    · cases h
  · split at h
    · rename_i h2
      split at h
      · cases h
      · rename_i hi
        cases h
        exact ix_lald hx hb had hK hY hW h2 hi hd (k _ _ hW)
    · cases h
  · split at h
    · rename_i h2
      split at h
      · cases h
      · rename_i hi
        cases h
        exact ix_zald hx hb had hK hY hW h2 hi hd (k _ _ hW)
    · cases h
    · split at h
      · rename_i h3
        split at h
        · cases h
        · rename_i hi
          cases h
          exact ix_bald hx hb hA hW h3 hi hd (k _ _ hW)
      · cases h
  · split at h
    · rename_i h2
      split at h
      · rename_i hi
        cases h
        exact ix_aald hx hb had hK hY hW h2 hi.1 hi.2 hd (k _ _ hW)
      · cases h
    · cases h
  · split at h
    · rename_i h2
      split at h
      · cases h
      · rename_i hi
        cases h
        exact ix_iast hx hb had hK hY hW h2 hi hd k
    · cases h
  · split at h
    · rename_i h2
      split at h
      · cases h
      · rename_i hi
        cases h
        exact ix_last hx hb had hK hY hW h2 hi hd k
    · cases h
  · split at h
    · rename_i h2
      split at h
      · cases h
      · rename_i hi
        cases h
        exact ix_zast hx hb had hK hY hW h2 hi hd k
    · cases h
  · split at h
    · rename_i h2 h3
      split at h
      · rename_i hi
        cases h
        exact ix_aast hx hb had hK hY hW h2 h3 hi.1 hi.2 hd k
      · cases h
    · cases h
  · split at h
    · rename_i h1
      split at h
      · rename_i h2
        cases h
        exact ix_newo hx hb had hts hown hK hC hO hW h0 hn0 hk0 h1 h2 hR hR2 hd (fun H1 => k H1 locs)
      · cases h
    · cases h
  · split at h
    · rename_i h1
      split at h
      · rename_i h2
        cases h
        exact ix_newa hx hb had hts hK hY hW h0 hn0 hk0 h1 h2.1 h2.2.1 h2.2.2 hR hR2 hd (fun H1 => k H1 locs)
      · cases h
    · cases h
  · split at h
    · rename_i h1
      split at h
      · rename_i h2
        cases h
        exact ix_anew hx hb had hts hown hK hC hY hW h0 hn0 hk0 h1 h2.2.2.2 h2.1 h2.2.1 h2.2.2.1 hR hR2 hd (fun H1 => k H1 locs)
      · cases h
    · cases h
  · split at h
    · rename_i h1
      cases h
      exact lv_ldc hx hb hown (hts _ (hKK.1 _ _ _ h1)) hd (k _ _ hW)
    · rename_i h1
      cases h
      exact ix_ldcs hx hb hown hA h1 hd (k _ _ hW)
    · cases h
  · split at h
    · rename_i h1
      cases h
      exact lv_ldcw hx hb hown (hts _ (hKK.1 _ _ _ h1)) hd (k _ _ hW)
    · cases h
  · split at h
    · rename_i h1
      cases h
      exact lv_ldc2 hx hb hown (hts _ (hKK.2 _ _ _ h1)) hd (k _ _ hW)
    · cases h
  · cases h
theorem ix_hp_mono {ini : Bool} {i : Instr} {st st' : List Value} {hp' : ix_H} (h : ix_hp T oc ini i st hp = some (st', hp')) : hp.1 ≤ hp'.1 ∧ hp.2.1 ≤ hp'.2.1 := by
  unfold ix_hp at h
  split at h <;> (repeat' (split at h)) <;> first | (cases h; done) | (cases h; exact ⟨Nat.le_refl _, Nat.le_refl _⟩) | (cases h; exact ⟨Nat.le_succ _, Nat.le_add_right _ _⟩)
end IX5
end
