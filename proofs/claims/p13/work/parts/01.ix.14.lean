section
section IX6
variable {p : Program} {l : Launch} {e : Env} {R : Room} {s : State} {m : MethodId} {args : Array Value} {below : List Frame} {meth : Method} {c : Code} {H : Heap} {locs : List Loc} {Q : State → Prop}
variable {cc : ByteArray} {pc : Nat} {arr : Array Slot} {ad : Nat → Nat}
variable {T : ix_T} {D : va_G} {cl : List vw_C} {aC : Nat → ClassId} {tys : List (ClassId × FieldType)} {on : Nat → String} {Ts : List Cond} {Ns : ix_Ns} {base : Nat} {hp : ix_H} {oc : Nat}
set_option maxHeartbeats 4000000 in
/-- a call, over the soundness of what is called -/
theorem ix_cal_ok (hx : p.tables.exec = Jvm.exec) (hb : c.code = cc) {nL : Nat} (hml : c.maxLocals = nL) (hsz : arr.size = nL) (had : ∀ a : Nat, a < 1000000 → ad a = base + a) (hts : ∀ w ∈ Ts, w.before args s = true) (hown : s.vm.findClass (on oc) = some m.cls) (hT : ix_okT T cl on Ts Ns) (hSt : ix_St T D cl aC tys on Ts Ns ad base s) (hW : ix_W D cl aC ad base hp s H locs)
    {n0 k0 : Nat} (h0 : s.heap.size = base + n0) (hn0 : n0 ≤ hp.1) (hk0 : k0 ≤ hp.2.1) {d : Nat} {f : ix_F} (hf : ix_Snd l T D cl aC tys on Ts Ns ad base d f) (hfr : d + 1 ≤ R.frames) (hlo : 64 * (d + 1) ≤ R.locals)
    {i : Instr} {st st' : List Value} {hp' : ix_H} (hd : decode cc pc = .ok (i, ix_len i)) (h : ix_cal T f oc i st hp = some (st', hp')) (hR : hp'.1 - n0 ≤ R.cells) (hR2 : hp'.2.1 - k0 ≤ R.slots)
    (k : ∀ (H1 : Heap) (locs1 : List Loc), ix_W D cl aC ad base hp' s H1 locs1 → W p l e R s m args below meth c H1 locs1 (hp'.1 - n0) (hp'.2.1 - k0) Q (F0 m (pc + ix_len i) arr (st'.map (ix_v ad)))) : W p l e R s m args below meth c H locs (hp.1 - n0) (hp.2.1 - k0) Q (F0 m pc arr (st.map (ix_v ad))) := by
  obtain ⟨hF, hO, hC, hKK, hI, hM, hgood⟩ := hT
  refine ix_size (fun hu => ?_)
  have hsize : H.size = base + hp.1 := hW.eqs h0 hn0 hu
  have pre : ∀ (av : List Value) (U : State), U.heap = H → s.WarmedH U.vm → ix_Pc T D cl aC tys on Ts Ns ad base av hp (av.map (ix_v ad)).toArray U := fun av U hU hWU => ⟨rfl, by rw [hU]; exact hsize, by rw [hU]; exact ⟨hW.1, hW.2.1, hW.2.2.1⟩, hSt.warm hWU (by rw [hU]; exact hW.2.2.2.2.1)⟩
  have room : ∀ L : Nat, L ≤ 40 → d + 1 ≤ R.frames ∧ 8 + (L + 11) + 64 * d ≤ R.locals := fun L hL => ⟨hfr, by omega⟩
  unfold ix_cal at h
  split at h
  · -- invokespecial
    split at h
    · -- Object.<init>
      rename_i h1
      obtain ⟨q1, q2, q3⟩ := (hI _ _ _ _ _ h1).1 rfl
      split at h
      · split at h
        · rename_i hcat
          cases h
          exact W.objInit hx hb hown (hts _ q1) (hts _ q2) (hts _ q3) rfl (by rw [hml]; exact hsz) rfl hd (by omega) (by have := lv_room (m := m) (pc := pc) (ls := arr) (rest := []) (st := st'.map (ix_v ad)) (by rw [ix_v_cats]; exact hcat); show 2 * 0 + _ + 12 ≤ _; have h9 : 2 * 0 + ((st'.map (ix_v ad)).map fun v => v.category).sum ≤ 8 := this; omega) (k _ _ hW)
        · cases h
      · cases h
    · rename_i kd mid na hne h1
      split at h
      · rename_i hkd
        split at h
        · rename_i a rest hdrop
          split at h
          · rename_i hcat
            split at h
            · rename_i hp1 hrun
              cases h
              obtain ⟨M, hM1, hpar, hl1, hl2, hini, -⟩ := (hI _ _ _ _ _ h1).2.2.2.2.2.2 (by omega) (by omega)
              obtain ⟨hin1, hin2, hin3⟩ := hini hkd
              obtain ⟨g1, -, g3, g4, g5, g6, -⟩ := hM _ _ hM1
              obtain ⟨m1, m2, hMet⟩ := hf mid M _ hp hp' none hM1 hrun
              have hstk : st.map (ix_v ad) = (((st.take na).reverse).map (ix_v ad)).reverse ++ .ref (ad a) :: st'.map (ix_v ad) := by rw [ix_split hcat.2, hdrop]; rfl
              have hk : ∀ (H1 : Heap) (locs1 : List Loc), ix_W D cl aC ad base hp' s H1 locs1 → W p l e R s m args below meth c H1 locs1 (hp.1 - n0 + (hp'.1 - hp.1)) (hp.2.1 - k0 + (hp'.2.1 - hp.2.1)) Q (F0 m (pc + 3) arr (((none : Option Value).map (ix_v ad)).toList ++ st'.map (ix_v ad))) := by
                intro H1 locs1 hw
                rw [show hp.1 - n0 + (hp'.1 - hp.1) = hp'.1 - n0 by omega, show hp.2.1 - k0 + (hp'.2.1 - hp.2.1) = hp'.2.1 - k0 by omega]
                exact k H1 locs1 hw
              rw [hin3] at g4
              have hwsM : ix_wsM M Ts = Cond.code M.2.1 M.2.2.1 M.2.2.2.1 none :: Ts := by unfold ix_wsM; rw [hin3]
              have hgi : GoodIn Ts (ix_wsM M Ts) := ix_good hgood (by rw [hin3]; exact g4)
              rw [hstk]
              rcases hkd with rfl | rfl
              · refine ix_call (va_runI (As := ((st.take na).reverse).map (ix_v ad)) (rest := st'.map (ix_v ad)) (b := ad a) (nL := nL) (Ts := Ts) (own := on oc) (index := _) (bytes := M.2.2.1) (maxL := M.2.2.2.1) (n := na) ⟨hx, hb, hml, hown, hts⟩ hMet ⟨callB_of na hts hgi hwsM rfl rfl (hts _ g5) (hts _ (hl1 (Or.inl rfl))) ⟨g3.1, g3.2, hpar⟩ (room _ g6), hin1, hts _ hin2⟩ ⟨ix_blind, fun U hU hWU => pre (.ref a :: (st.take na).reverse) U hU hWU⟩ rfl (ix_take hcat.2) hsz rfl (lv_room (by rw [ix_v_cats]; exact hcat.1)) hd ⟨by omega, by omega⟩) hW.2.2.2 hk
              · refine ix_call (va_runIN (As := ((st.take na).reverse).map (ix_v ad)) (rest := st'.map (ix_v ad)) (b := ad a) (nL := nL) (Ts := Ts) (own := on oc) (index := _) (host := ix_host) (bytes := M.2.2.1) (maxL := M.2.2.2.1) (n := na) ⟨hx, hb, hml, hown, hts⟩ hMet ⟨va_cnB na hts hgi hwsM rfl rfl (hSt.2.2.2 _ (hl2 (Or.inl rfl))) (hts _ g5) ⟨g3.1, g3.2, hpar⟩ (room _ g6), hin1, hts _ hin2⟩ ⟨ix_blind, fun U hU hWU => pre (.ref a :: (st.take na).reverse) U hU hWU⟩ rfl (ix_take hcat.2) hsz rfl (lv_room (by rw [ix_v_cats]; exact hcat.1)) hd ⟨by omega, by omega⟩) hW.2.2.2 hk
            · cases h
          · cases h
        · cases h
      · cases h
    · cases h
  · -- invokevirtual
    split at h
    · rename_i kd mid na h1
      split at h
      · rename_i hkd
        split at h
        · rename_i a rest M hdrop hM1
          split at h
          · rename_i c1 fs1 hob
            split at h
            · rename_i hcat
              split at h
              · rename_i rv hp1 hrun
                cases h
                obtain ⟨M', hM1', hpar, hl1, hl2, -, hvir, -⟩ := (hI _ _ _ _ _ h1).2.2.2.2.2.2 (by omega) (by omega)
                cases hM1.symm.trans hM1'
                obtain ⟨hin2, hsel, r, hr, hr1⟩ := hvir hkd
                obtain ⟨g1, -, g3, g4, g5, g6, -⟩ := hM _ _ hM1
                obtain ⟨m1, m2, hMet⟩ := hf mid M _ hp hp' rv hM1 hrun
                obtain ⟨ha, hae⟩ := ix_obj_ok hob
                have hstk : st.map (ix_v ad) = (((st.take na).reverse).map (ix_v ad)).reverse ++ .ref (ad a) :: rest.map (ix_v ad) := by rw [ix_split hcat.2.2, hdrop]; rfl
                have hk : ∀ (H1 : Heap) (locs1 : List Loc), ix_W D cl aC ad base hp' s H1 locs1 → W p l e R s m args below meth c H1 locs1 (hp.1 - n0 + (hp'.1 - hp.1)) (hp.2.1 - k0 + (hp'.2.1 - hp.2.1)) Q (F0 m (pc + 3) arr ((rv.map (ix_v ad)).toList ++ rest.map (ix_v ad))) := by
                  intro H1 locs1 hw
                  rw [show hp.1 - n0 + (hp'.1 - hp.1) = hp'.1 - n0 by omega, show hp.2.1 - k0 + (hp'.2.1 - hp.2.1) = hp'.2.1 - k0 by omega]
                  have k1 := k H1 locs1 hw
                  rw [List.map_append] at k1
                  cases rv <;> exact k1
                have hwv := ix_ws_get (aC := aC) (ad := ad) (base := base) (h := hp.2.2) ha
                rw [hae] at hwv
                have hrec : ∃ cell : Cell, H[ad a]? = some cell ∧ cell.vm.isStatics = false ∧ s.vm.findClass M.2.1.cls = some cell.cls := by
                  rw [had a (Nat.lt_of_lt_of_le ha hW.1), ← hr1]
                  exact va_recv hSt.1 hW.2.1 (ci := M.1) hr (hcat.1 ▸ hwv)
                have hgi : GoodIn Ts (ix_wsM M Ts) := ix_good hgood g4
                rw [hstk]
                rcases hkd with rfl | rfl
                · refine ix_call (va_runV (C := M.2.1.cls) (As := ((st.take na).reverse).map (ix_v ad)) (rest := rest.map (ix_v ad)) (b := ad a) (nL := nL) (Ts := Ts) (own := on oc) (index := _) (bytes := M.2.2.1) (maxL := M.2.2.2.1) (ret := M.2.2.2.2.1) (n := na) ⟨hx, hb, hml, hown, hts⟩ hMet ⟨callB_of na hts hgi rfl rfl rfl (hts _ g5) (hts _ (hl1 (Or.inr (Or.inl rfl)))) ⟨g3.1, g3.2, hpar⟩ (room _ g6), hts _ hin2, hts _ hsel⟩ ⟨ix_blind, hrec, fun U hU hWU => pre (.ref a :: (st.take na).reverse) U hU hWU⟩ rfl (ix_take hcat.2.2) hsz rfl (lv_room (by rw [ix_v_cats]; exact hcat.2.1)) hd ⟨by omega, by omega⟩) hW.2.2.2 hk
                · refine ix_call (va_runVN (C := M.2.1.cls) (As := ((st.take na).reverse).map (ix_v ad)) (rest := rest.map (ix_v ad)) (b := ad a) (nL := nL) (Ts := Ts) (own := on oc) (index := _) (host := ix_host) (bytes := M.2.2.1) (maxL := M.2.2.2.1) (ret := M.2.2.2.2.1) (n := na) ⟨hx, hb, hml, hown, hts⟩ hMet ⟨va_cnB na hts hgi rfl rfl rfl (hSt.2.2.2 _ (hl2 (Or.inr (Or.inl rfl)))) (hts _ g5) ⟨g3.1, g3.2, hpar⟩ (room _ g6), hts _ hin2, hts _ hsel⟩ ⟨ix_blind, hrec, fun U hU hWU => pre (.ref a :: (st.take na).reverse) U hU hWU⟩ rfl (ix_take hcat.2.2) hsz rfl (lv_room (by rw [ix_v_cats]; exact hcat.2.1)) hd ⟨by omega, by omega⟩) hW.2.2.2 hk
              · cases h
            · cases h
          · cases h
        · cases h
      · split at h
        · rename_i hk8
          subst hk8
          split at h
          · rename_i a rest hdrop
            split at h
            · rename_i b8 hob
              split at h
              · rename_i hcat
                split at h
                · rename_i rv hp1 hrun
                  cases h
                  obtain ⟨M, hM1, hpar, hl1, hin2, hsel, hcls⟩ := (hI _ _ _ _ _ h1).2.2.1 rfl
                  obtain ⟨g1, -, g3, g4, g5, g6, -⟩ := hM _ _ hM1
                  obtain ⟨m1, m2, hMet⟩ := hf mid M _ hp hp' rv hM1 hrun
                  have hstk : st.map (ix_v ad) = (((st.take na).reverse).map (ix_v ad)).reverse ++ .ref (ad a) :: rest.map (ix_v ad) := by rw [ix_split hcat.2, hdrop]; rfl
                  have hk : ∀ (H1 : Heap) (locs1 : List Loc), ix_W D cl aC ad base hp' s H1 locs1 → W p l e R s m args below meth c H1 locs1 (hp.1 - n0 + (hp'.1 - hp.1)) (hp.2.1 - k0 + (hp'.2.1 - hp.2.1)) Q (F0 m (pc + 3) arr ((rv.map (ix_v ad)).toList ++ rest.map (ix_v ad))) := by
                    intro H1 locs1 hw
                    rw [show hp.1 - n0 + (hp'.1 - hp.1) = hp'.1 - n0 by omega, show hp.2.1 - k0 + (hp'.2.1 - hp.2.1) = hp'.2.1 - k0 by omega]
                    have k1 := k H1 locs1 hw
                    rw [List.map_append] at k1
                    cases rv <;> exact k1
                  have hrec : ∃ cell : Cell, H[ad a]? = some cell ∧ cell.vm.isStatics = false ∧ s.vm.findClass M.2.1.cls = some cell.cls := by
                    obtain ⟨j8, rfl, hj8⟩ := ix_cno_ok hob
                    obtain ⟨cell, q1, q2, q3, -⟩ := (hSt.2.2.1.2.2.2.1 _ _ hj8).1.kept hW.2.2.2.2.1
                    rw [hcls]
                    exact ⟨cell, q1, q2, q3⟩
                  have hgi : GoodIn Ts (ix_wsM M Ts) := ix_good hgood g4
                  rw [hstk]
                  refine ix_call (va_runV (C := M.2.1.cls) (As := ((st.take na).reverse).map (ix_v ad)) (rest := rest.map (ix_v ad)) (b := ad a) (nL := nL) (Ts := Ts) (own := on oc) (index := _) (bytes := M.2.2.1) (maxL := M.2.2.2.1) (ret := M.2.2.2.2.1) (n := na) ⟨hx, hb, hml, hown, hts⟩ hMet ⟨callB_of na hts hgi rfl rfl rfl (hts _ g5) (hts _ hl1) ⟨g3.1, g3.2, hpar⟩ (room _ g6), hts _ hin2, hts _ hsel⟩ ⟨ix_blind, hrec, fun U hU hWU => pre (.ref a :: (st.take na).reverse) U hU hWU⟩ rfl (ix_take hcat.2) hsz rfl (lv_room (by rw [ix_v_cats]; exact hcat.1)) hd ⟨by omega, by omega⟩) hW.2.2.2 hk
                · cases h
              · cases h
            · cases h
          · cases h
        · cases h
    · cases h
  · -- invokestatic
    split at h
    · rename_i h1
      obtain ⟨q1, q2, q3, q4⟩ := (hI _ _ _ _ _ h1).2.1 rfl
      have hm := ix_acp_mono h
      refine ix_acp_ok hx hb (hml.trans hsz.symm) had hown hSt.1 hSt.2.1 hW (hts _ q1) (hts _ q2) (hts _ q3) (hts _ q4) (by omega) (by omega) hd h (fun H1 locs1 hw => ?_)
      have e1 : hp'.1 = hp.1 ∧ hp'.2.1 = hp.2.1 := by
        unfold ix_acp at h
        split at h <;> (repeat' (split at h)) <;> first | (cases h; done) | (cases h; exact ⟨rfl, rfl⟩)
      have k1 := k H1 locs1 hw
      rw [e1.1, e1.2] at k1
      exact k1
    · rename_i kd mid na hne h1
      split at h
      · rename_i hkd
        obtain ⟨hkd, hcat, hna⟩ := hkd
        split at h
        · rename_i rv hp1 hrun
          cases h
          obtain ⟨M, hM1, hpar, hl1, hl2, -, -, hsta⟩ := (hI _ _ _ _ _ h1).2.2.2.2.2.2 (by omega) (by omega)
          have hst := hsta hkd
          obtain ⟨g1, -, g3, g4, g5, g6, -⟩ := hM _ _ hM1
          obtain ⟨m1, m2, hMet⟩ := hf mid M _ hp hp' rv hM1 hrun
          have hstk : st.map (ix_v ad) = (((st.take na).reverse).map (ix_v ad)).reverse ++ (st.drop na).map (ix_v ad) := ix_split hna
          have hk : ∀ (H1 : Heap) (locs1 : List Loc), ix_W D cl aC ad base hp' s H1 locs1 → W p l e R s m args below meth c H1 locs1 (hp.1 - n0 + (hp'.1 - hp.1)) (hp.2.1 - k0 + (hp'.2.1 - hp.2.1)) Q (F0 m (pc + 3) arr ((rv.map (ix_v ad)).toList ++ (st.drop na).map (ix_v ad))) := by
            intro H1 locs1 hw
            rw [show hp.1 - n0 + (hp'.1 - hp.1) = hp'.1 - n0 by omega, show hp.2.1 - k0 + (hp'.2.1 - hp.2.1) = hp'.2.1 - k0 by omega]
            have k1 := k H1 locs1 hw
            rw [List.map_append] at k1
            cases rv <;> exact k1
          have hgi : GoodIn Ts (ix_wsM M Ts) := ix_good hgood g4
          rw [hstk]
          rcases hkd with rfl | rfl
          · refine ix_call (va_runS (As := ((st.take na).reverse).map (ix_v ad)) (rest := (st.drop na).map (ix_v ad)) (nL := nL) (Ts := Ts) (own := on oc) (index := _) (bytes := M.2.2.1) (maxL := M.2.2.2.1) (ret := M.2.2.2.2.1) (n := na) ⟨hx, hb, hml, hown, hts⟩ hMet ⟨callB_of na hts hgi rfl rfl rfl (hts _ g5) (hts _ (hl1 (Or.inr (Or.inr rfl)))) ⟨g3.1, g3.2, hpar⟩ (room _ g6), hts _ hst⟩ ⟨ix_blind, fun U hU hWU => pre (st.take na).reverse U hU hWU⟩ rfl (ix_take hna) hsz rfl (lv_room (by rw [ix_v_cats]; exact hcat)) hd ⟨by omega, by omega⟩) hW.2.2.2 hk
          · refine ix_call (va_runSN (As := ((st.take na).reverse).map (ix_v ad)) (rest := (st.drop na).map (ix_v ad)) (nL := nL) (Ts := Ts) (own := on oc) (index := _) (host := ix_host) (bytes := M.2.2.1) (maxL := M.2.2.2.1) (ret := M.2.2.2.2.1) (n := na) ⟨hx, hb, hml, hown, hts⟩ hMet ⟨va_cnB na hts hgi rfl rfl rfl (hSt.2.2.2 _ (hl2 (Or.inr (Or.inr rfl)))) (hts _ g5) ⟨g3.1, g3.2, hpar⟩ (room _ g6), hts _ hst, trivial⟩ ⟨ix_blind, fun U hU hWU => pre (st.take na).reverse U hU hWU⟩ rfl (ix_take hna) hsz rfl (lv_room (by rw [ix_v_cats]; exact hcat)) hd ⟨by omega, by omega⟩) hW.2.2.2 hk
        · cases h
      · split at h
        · rename_i st1 hm
          cases h
          have hcell : hp.1 - n0 ≤ R.cells := hR
          have hslot : hp.2.1 - k0 ≤ R.slots := hR2
          unfold ix_mth at hm
          split at hm
          · split at hm
            · rename_i hc8
              cases hm
              obtain ⟨q1, q2, q3, q4⟩ := (hI _ _ _ _ _ h1).2.2.2.1 rfl
              exact va_mmin hx hb (hml.trans hsz.symm) hown (hts _ q1) (hts _ q2) (hts _ q3) (hts _ q4) (by omega) (by rw [ix_v_cats]; unfold ix_cats at hc8; omega) hcell hslot hd (k _ _ hW)
            · cases hm
          · split at hm
            · rename_i hc8
              cases hm
              obtain ⟨q1, q2, q3, q4⟩ := (hI _ _ _ _ _ h1).2.2.2.2.1 rfl
              exact va_mmax hx hb (hml.trans hsz.symm) hown (hts _ q1) (hts _ q2) (hts _ q3) (hts _ q4) (by omega) (by rw [ix_v_cats]; unfold ix_cats at hc8; omega) hcell hslot hd (k _ _ hW)
            · cases hm
          · split at hm
            · rename_i hc8
              cases hm
              obtain ⟨q1, q2, q3, q4⟩ := (hI _ _ _ _ _ h1).2.2.2.2.2.1 rfl
              exact va_mmin_long hx hb (hml.trans hsz.symm) hown (hts _ q1) (hts _ q2) (hts _ q3) (hts _ q4) (by omega) (by rw [ix_v_cats]; unfold ix_cats at hc8; omega) hcell hslot hd (k _ _ hW)
            · cases hm
          · cases hm
        · cases h
    · cases h
  · cases h
end IX6
end
section
/-! ===== a run of the interpreter is a run of the machine ===== -/
noncomputable def ix_rh : ix_S ⊕ (Option Value × ix_H) → ix_H
  | .inl σ => σ.2.2.2
  | .inr r => r.2
section IX7
variable {p : Program} {l : Launch} {e : Env} {R : Room} {s : State} {m : MethodId} {args : Array Value} {below : List Frame} {meth : Method} {c : Code} {H : Heap} {locs : List Loc} {Q : State → Prop}
variable {pc : Nat} {arr : Array Slot} {ad : Nat → Nat}
variable {T : ix_T} {D : va_G} {cl : List vw_C} {aC : Nat → ClassId} {tys : List (ClassId × FieldType)} {on : Nat → String} {Ts : List Cond} {Ns : ix_Ns} {base : Nat}
theorem ix_ret_ok {cc : ByteArray} {Qc : Array Value → State → Outcome → State → Prop} {free : Addr → Prop} {cells slots : Nat} {ret : Option FieldType} (hx : p.tables.exec = Jvm.exec) (hb : c.code = cc) (hr : meth.sig.returnType = ret) (hlocks : meth.locks = false) {i : Instr} {st : List Value} {rv : Option Value} (hd : decode cc pc = .ok (i, ix_len i)) (h : ix_ret ret i st = some rv)
    (hq : ∀ t : State, t.heap = H → s.WarmedH t.vm → Qc args s (.returned (rv.map (ix_v ad))) t) (hf : ∀ q ∈ locs, free q.base) : W p l e R s m args below meth c H locs cells slots (MQ below Qc args s cells slots free) (F0 m pc arr (st.map (ix_v ad))) := by
  unfold ix_ret at h
  split at h
  · split at h
    · cases h
      exact W.vret hx hb hr hq hf hd
    · cases h
  · split at h
    · split at h
      · rename_i hn
        cases h
        exact W.zret hx hb hr hn hq hf hd
      · cases h
    · cases h
  · split at h
    · rename_i hn
      cases h
      exact W.lret hx hb (hr.trans hn) hq hf hd
    · cases h
  · split at h
    · cases h
      exact W.aret hx hb hr (Or.inl ⟨_, rfl⟩) (Or.inr ⟨_, rfl⟩) hq hf hd
    · cases h
      exact W.aret hx hb hr (Or.inr ⟨_, rfl⟩) (Or.inr ⟨_, rfl⟩) hq hf hd
    · cases h
  · cases h
end IX7
end
