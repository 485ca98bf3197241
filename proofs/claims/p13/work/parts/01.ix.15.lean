section
section IX7
variable {p : Program} {l : Launch} {e : Env} {R : Room} {s : State} {m : MethodId} {args : Array Value} {below : List Frame} {meth : Method} {c : Code} {H : Heap} {locs : List Loc} {Q : State → Prop}
variable {pc : Nat} {arr : Array Slot} {ad : Nat → Nat}
variable {T : ix_T} {D : va_G} {cl : List vw_C} {aC : Nat → ClassId} {tys : List (ClassId × FieldType)} {on : Nat → String} {Ts : List Cond} {Ns : ix_Ns} {base : Nat}
/-- what is wanted behind a piece of a run -/
noncomputable def ix_End (p : Program) (l : Launch) (e : Env) (R : Room) (s : State) (m : MethodId) (args : Array Value) (below : List Frame) (meth : Method) (c : Code) (Q : State → Prop) (D : va_G) (cl : List vw_C) (aC : Nat → ClassId) (ad : Nat → Nat) (base n0 k0 : Nat) (M : ix_M) : ix_S ⊕ (Option Value × ix_H) → Prop
  | .inl (pc', ls', st', hp') => ∀ (H1 : Heap) (locs1 : List Loc) (arr1 : Array Slot), ix_W D cl aC ad base hp' s H1 locs1 → lv_has arr1 M.2.2.2.1 (ix_l ad ls') → W p l e R s m args below meth c H1 locs1 (hp'.1 - n0) (hp'.2.1 - k0) Q (F0 m pc' arr1 (st'.map (ix_v ad)))
  | .inr (rv, hp') => ∀ (H1 : Heap) (locs1 : List Loc) (arr1 : Array Slot) (pc' : Nat) (i : Instr) (st' : List Value), ix_W D cl aC ad base hp' s H1 locs1 → M.2.2.2.2.2.2 pc' = some i → ix_ret M.2.2.2.2.1 i st' = some rv → W p l e R s m args below meth c H1 locs1 (hp'.1 - n0) (hp'.2.1 - k0) Q (F0 m pc' arr1 (st'.map (ix_v ad)))
theorem ix_cal_mono {f : ix_F} (hf : ∀ (mid : Nat) (av : List Value) (hp hp' : ix_H) (rv : Option Value), f mid av hp = some (rv, hp') → hp.1 ≤ hp'.1 ∧ hp.2.1 ≤ hp'.2.1) {oc : Nat} {i : Instr} {st st' : List Value} {hp hp' : ix_H} (h : ix_cal T f oc i st hp = some (st', hp')) : hp.1 ≤ hp'.1 ∧ hp.2.1 ≤ hp'.2.1 := by
  unfold ix_cal at h
  split at h <;> (repeat' (split at h)) <;> first | (cases h; done) | (cases h; exact ⟨Nat.le_refl _, Nat.le_refl _⟩) | (exact ix_acp_mono h) | (rename_i hr; cases h; exact hf _ _ _ _ _ hr)
set_option maxHeartbeats 4000000 in
theorem ix_one_ok {M : ix_M} {f : ix_F} {d n0 k0 : Nat} (hmono : ∀ (mid : Nat) (av : List Value) (hp hp' : ix_H) (rv : Option Value), f mid av hp = some (rv, hp') → hp.1 ≤ hp'.1 ∧ hp.2.1 ≤ hp'.2.1) (hx : p.tables.exec = Jvm.exec) (hb : c.code = M.2.2.1) (hml : c.maxLocals = M.2.2.2.1) (had : ∀ a : Nat, a < 1000000 → ad a = base + a) (hts : ∀ w ∈ Ts, w.before args s = true) (hown : s.vm.findClass (on M.1) = some m.cls) (hT : ix_okT T cl on Ts Ns) (hSt : ix_St T D cl aC tys on Ts Ns ad base s)
    (h0 : s.heap.size = base + n0) (hf : ix_Snd l T D cl aC tys on Ts Ns ad base d f) (hfr : d + 1 ≤ R.frames) (hlo : 64 * (d + 1) ≤ R.locals) (hini : M.2.2.2.2.2.1 = true → meth.name = "<init>") (hcode : ∀ (pc : Nat) (i : Instr), M.2.2.2.2.2.2 pc = some i → ∃ len : Nat, decode M.2.2.1 pc = .ok (i, len) ∧ (ix_len i = 0 ∨ ix_len i = len))
    {ls : ix_L} {st : List Value} {hp : ix_H} {res : ix_S ⊕ (Option Value × ix_H)} (h : ix_one T f M (pc, ls, st, hp) = some res) : (hp.1 ≤ (ix_rh res).1 ∧ hp.2.1 ≤ (ix_rh res).2.1) ∧ (n0 ≤ hp.1 → k0 ≤ hp.2.1 → (ix_rh res).1 - n0 ≤ R.cells → (ix_rh res).2.1 - k0 ≤ R.slots → ix_End p l e R s m args below meth c Q D cl aC ad base n0 k0 M res → ix_End p l e R s m args below meth c Q D cl aC ad base n0 k0 M (.inl (pc, ls, st, hp))) := by
  unfold ix_one at h
  simp only at h
  split at h
  · cases h
  · rename_i i hi
    obtain ⟨len, hd, hlen⟩ := hcode pc i hi
    split at h
    · rename_i rv hr
      cases h
      exact ⟨⟨Nat.le_refl _, Nat.le_refl _⟩, fun _ _ _ _ k H1 locs1 arr1 hW _ => k H1 locs1 arr1 pc i st hW hi hr⟩
    · split at h
      · rename_i hr st' ha
        cases h
        refine ⟨⟨Nat.le_refl _, Nat.le_refl _⟩, fun _ _ _ _ k H1 locs1 arr1 hW hl => ?_⟩
        have hd' : decode M.2.2.1 pc = .ok (i, ix_len i) := by
          rcases hlen with hz | hz
          · exfalso
            cases i <;> first | (simp [ix_len] at hz; done) | (simp [ix_alu] at ha; done)
          · rw [hz]; exact hd
        exact ix_alu_ok hx hb hd' ha (k H1 locs1 arr1 hW hl)
      · split at h
        · rename_i ha ls' st' hb1
          cases h
          refine ⟨⟨Nat.le_refl _, Nat.le_refl _⟩, fun _ _ _ _ k H1 locs1 arr1 hW hl => ?_⟩
          have hd' : decode M.2.2.1 pc = .ok (i, ix_len i) := by
            rcases hlen with hz | hz
            · exfalso
              cases i <;> first | (simp [ix_len] at hz; done) | (simp [ix_loc] at hb1; done)
            · rw [hz]; exact hd
          exact ix_loc_ok hx hb hl hd' hb1 (fun arr2 hl2 => k H1 locs1 arr2 hW hl2)
        · split at h
          · rename_i st' hp' hh
            cases h
            refine ⟨ix_hp_mono hh, fun hn0 hk0 hR hR2 k H1 locs1 arr1 hW hl => ?_⟩
            have hd' : decode M.2.2.1 pc = .ok (i, ix_len i) := by
              rcases hlen with hz | hz
              · exfalso
                cases i <;> first | (simp [ix_len] at hz; done) | (simp [ix_hp] at hh; done)
              · rw [hz]; exact hd
            exact ix_hp_ok hx hb had hts hown hSt.1 hT.1 hT.2.1 hT.2.2.1 hT.2.2.2.1 hSt.2.1 hSt.2.2.1 hW h0 hn0 hk0 hini hd' hh hR hR2 (fun H2 locs2 hW2 => k H2 locs2 arr1 hW2 hl)
          · split at h
            · rename_i pc' st' hbr
              cases h
              refine ⟨⟨Nat.le_refl _, Nat.le_refl _⟩, fun _ _ _ _ k H1 locs1 arr1 hW hl => ?_⟩
              exact ix_br_ok hx hb had hd hlen hbr (k H1 locs1 arr1 hW hl)
            · split at h
              · rename_i st' hp' hc
                cases h
                refine ⟨ix_cal_mono hmono hc, fun hn0 hk0 hR hR2 k H1 locs1 arr1 hW hl => ?_⟩
                have hd' : decode M.2.2.1 pc = .ok (i, ix_len i) := by
                  rcases hlen with hz | hz
                  · exfalso
                    cases i <;> first | (simp [ix_len] at hz; done) | (simp [ix_cal] at hc; done)
                  · rw [hz]; exact hd
                exact ix_cal_ok hx hb hml hl.1 had hts hown hT hSt hW h0 hn0 hk0 hf hfr hlo hd' hc hR hR2 (fun H2 locs2 hW2 => k H2 locs2 arr1 hW2 hl)
              · cases h
theorem ix_iter_ok {M : ix_M} {f : ix_F} {d n0 k0 : Nat} (hmono : ∀ (mid : Nat) (av : List Value) (hp hp' : ix_H) (rv : Option Value), f mid av hp = some (rv, hp') → hp.1 ≤ hp'.1 ∧ hp.2.1 ≤ hp'.2.1) (hx : p.tables.exec = Jvm.exec) (hb : c.code = M.2.2.1) (hml : c.maxLocals = M.2.2.2.1) (had : ∀ a : Nat, a < 1000000 → ad a = base + a) (hts : ∀ w ∈ Ts, w.before args s = true) (hown : s.vm.findClass (on M.1) = some m.cls) (hT : ix_okT T cl on Ts Ns) (hSt : ix_St T D cl aC tys on Ts Ns ad base s)
    (h0 : s.heap.size = base + n0) (hf : ix_Snd l T D cl aC tys on Ts Ns ad base d f) (hfr : d + 1 ≤ R.frames) (hlo : 64 * (d + 1) ≤ R.locals) (hini : M.2.2.2.2.2.1 = true → meth.name = "<init>") (hcode : ∀ (pc : Nat) (i : Instr), M.2.2.2.2.2.2 pc = some i → ∃ len : Nat, decode M.2.2.1 pc = .ok (i, len) ∧ (ix_len i = 0 ∨ ix_len i = len)) :
    ∀ (k : Nat) (σ : ix_S) (res : ix_S ⊕ (Option Value × ix_H)), ix_iter T f M k σ = some res → (σ.2.2.2.1 ≤ (ix_rh res).1 ∧ σ.2.2.2.2.1 ≤ (ix_rh res).2.1) ∧ (n0 ≤ σ.2.2.2.1 → k0 ≤ σ.2.2.2.2.1 → (ix_rh res).1 - n0 ≤ R.cells → (ix_rh res).2.1 - k0 ≤ R.slots → ix_End p l e R s m args below meth c Q D cl aC ad base n0 k0 M res → ix_End p l e R s m args below meth c Q D cl aC ad base n0 k0 M (.inl σ)) := by
  intro k
  induction k with
  | zero =>
    intro σ res h
    obtain ⟨pc, ls, st, hp⟩ := σ
    exact ix_one_ok hmono hx hb hml had hts hown hT hSt h0 hf hfr hlo hini hcode h
  | succ k ih =>
    intro σ res h
    unfold ix_iter at h
    split at h
    · rename_i σ' h1
      obtain ⟨m1, c1⟩ := ih σ _ h1
      obtain ⟨m2, c2⟩ := ih σ' _ h
      have m1' : σ.2.2.2.1 ≤ σ'.2.2.2.1 ∧ σ.2.2.2.2.1 ≤ σ'.2.2.2.2.1 := m1
      refine ⟨⟨Nat.le_trans m1'.1 m2.1, Nat.le_trans m1'.2 m2.2⟩, fun hn0 hk0 hR hR2 hE => c1 hn0 hk0 ?_ ?_ (c2 (by omega) (by omega) hR hR2 hE)⟩
      · show σ'.2.2.2.1 - n0 ≤ R.cells
        omega
      · show σ'.2.2.2.2.1 - k0 ≤ R.slots
        omega
    · rename_i x hne
      exact ih σ res h
end IX7
theorem ix_lg (ad : Nat → Nat) (av : List Value) : (lg_sl (av.map (ix_v ad))).length = (lg_sl av).length := by
  induction av with
  | nil => rfl
  | cons v r ih =>
    simp only [lg_sl, List.map_cons, List.flatMap_cons, List.length_append, ix_v_cat] at ih ⊢
    rw [ih]
    congr 1
    split <;> rfl
end
