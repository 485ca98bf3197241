section
theorem ix_largs (ad : Nat → Nat) : ∀ (av : List Value) (i : Nat), lv_args i (av.map (ix_v ad)) = ix_l ad (lv_args i av)
  | [], _ => rfl
  | v :: r, i => by
    simp only [List.map_cons, lv_args, ix_l, ix_v_cat]
    rw [ix_largs ad r]
    rfl
theorem ix_run_mono (T : ix_T) (k : Nat) : ∀ (d mid : Nat) (av : List Value) (hp hp' : ix_H) (rv : Option Value), ix_run T k d mid av hp = some (rv, hp') → hp.1 ≤ hp'.1 ∧ hp.2.1 ≤ hp'.2.1 := by
  intro d
  induction d with
  | zero =>
    intro mid av hp hp' rv h
    cases h
  | succ d ih =>
    intro mid av hp hp' rv h
    have one : ∀ (M : ix_M) (σ : ix_S) (res : ix_S ⊕ (Option Value × ix_H)), ix_one T (ix_run T k d) M σ = some res → σ.2.2.2.1 ≤ (ix_rh res).1 ∧ σ.2.2.2.2.1 ≤ (ix_rh res).2.1 := by
      intro M σ res h
      obtain ⟨pc, ls, st, hq⟩ := σ
      unfold ix_one at h
      simp only at h
      split at h
      · cases h
      · split at h
        · cases h; exact ⟨Nat.le_refl _, Nat.le_refl _⟩
        · split at h
          · cases h; exact ⟨Nat.le_refl _, Nat.le_refl _⟩
          · split at h
            · cases h; exact ⟨Nat.le_refl _, Nat.le_refl _⟩
            · split at h
              · rename_i hh
                cases h; exact ix_hp_mono hh
              · split at h
                · cases h; exact ⟨Nat.le_refl _, Nat.le_refl _⟩
                · split at h
                  · rename_i hh
                    cases h; exact ix_cal_mono ih hh
                  · cases h
    have iter : ∀ (M : ix_M) (j : Nat) (σ : ix_S) (res : ix_S ⊕ (Option Value × ix_H)), ix_iter T (ix_run T k d) M j σ = some res → σ.2.2.2.1 ≤ (ix_rh res).1 ∧ σ.2.2.2.2.1 ≤ (ix_rh res).2.1 := by
      intro M j
      induction j with
      | zero => intro σ res h; exact one M σ res h
      | succ j ihj =>
        intro σ res h
        unfold ix_iter at h
        split at h
        · rename_i σ' h1
          have a1 := ihj σ _ h1
          have a2 := ihj σ' _ h
          exact ⟨Nat.le_trans a1.1 a2.1, Nat.le_trans a1.2 a2.2⟩
        · exact ihj σ res h
    unfold ix_run at h
    split at h
    · cases h
    · split at h
      · split at h
        · rename_i hr
          cases h
          exact iter _ _ _ _ hr
        · cases h
      · cases h
set_option maxHeartbeats 4000000 in
theorem ix_run_ok (l : Launch) {T : ix_T} {D : va_G} {cl : List vw_C} {aC : Nat → ClassId} {tys : List (ClassId × FieldType)} {on : Nat → String} {Ts : List Cond} {Ns : ix_Ns} {ad : Nat → Nat} {base : Nat} (had : ∀ a : Nat, a < 1000000 → ad a = base + a) (hT : ix_okT T cl on Ts Ns) (k : Nat) : ∀ d : Nat, ix_Snd l T D cl aC tys on Ts Ns ad base d (ix_run T k d) := by
  intro d
  induction d with
  | zero =>
    intro mid M av hp hp' rv hM h
    cases h
  | succ d ih =>
    intro mid M av hp hp' rv hM h
    have hmono := ix_run_mono T k (d + 1) mid av hp hp' rv h
    refine ⟨hmono.1, hmono.2, ?_⟩
    obtain ⟨g1, g2, g3, g4, g5, g6, g7, g8⟩ := hT.2.2.2.2.2.1 mid M hM
    unfold ix_run at h
    rw [hM] at h
    simp only at h
    split at h
    · rename_i hlen
      split at h
      · rename_i r hr
        cases h
        refine Met.ofW (cc := M.2.2.1) (maxL := M.2.2.2.1) (ret := M.2.2.2.2.1) g2 rfl ?_
        intro p e s m args below meth c s₁ B hml hv
        obtain ⟨rfl, hsize, hP, hSt⟩ := hv
        have hts0 := atoms_spec (ws := ix_wsM M Ts) B.pre
        have hts : ∀ w ∈ Ts, w.before (av.map (ix_v ad)).toArray s = true := fun w hw => hts0 w (List.mem_cons_of_mem _ hw)
        have hown : s.vm.findClass (on M.1) = some m.cls := by rw [g1]; exact findClass_of_methodNamed B.named
        have hname : meth.name = M.2.1.name := (name_of_methodNamed B.named B.method).1
        rw [lg_entry_eq]
        have hl := lv_entry (av.map (ix_v ad)) (n := M.2.2.2.1) (by rw [ix_lg]; exact hlen)
        rw [ix_largs] at hl
        have key := (ix_iter_ok (p := p) (e := e) (R := ix_rm (d + 1) (hp'.1 - hp.1) (hp'.2.1 - hp.2.1)) (s := s) (m := m) (args := (av.map (ix_v ad)).toArray) (below := below) (meth := meth) (c := c) (Q := MQ below (ix_Qc D cl aC ad base rv hp') (av.map (ix_v ad)).toArray s (hp'.1 - hp.1) (hp'.2.1 - hp.2.1) (fun q => base ≤ q)) (n0 := hp.1) (k0 := hp.2.1) (ix_run_mono T k d) B.exec B.bytes hml had hts hown hT hSt hsize ih (Nat.le_refl _) (Nat.le_refl _) (fun q => by rw [hname]; exact g7 q) g8 k _ _ hr).2 (Nat.le_refl _) (Nat.le_refl _) (Nat.le_refl _) (Nat.le_refl _) ?_
        · have k1 := key s.heap [] _ ⟨hP.1, hP.2.1, hP.2.2, va_S.rf⟩ hl
          rw [show hp.1 - hp.1 = 0 by omega, show hp.2.1 - hp.2.1 = 0 by omega] at k1
          exact k1
        · intro H1 locs1 arr1 pc' i st' hW hi hret
          obtain ⟨len, hd, hlen2⟩ := g8 pc' i hi
          have hd' : decode M.2.2.1 pc' = .ok (i, ix_len i) := by
            rcases hlen2 with hz | hz
            · exfalso
              cases i <;> first | (simp [ix_len] at hz; done) | (simp [ix_ret] at hret; done)
            · rw [hz]; exact hd
          exact ix_ret_ok B.exec B.bytes B.returns B.notSynchronized hd' hret (fun t ht _ => ⟨rfl, by rw [ht]; exact ⟨hW.1, hW.2.1, hW.2.2.1⟩, hW.2.2.2.F ht⟩) hW.2.2.2.2.2
      · cases h
    · cases h
end
section
/-! ===== the tables' words, and the words of the private methods out of them, by one walk ===== -/
noncomputable def lw_okq (q : MethodName × Nat) : Prop := (q.1.cls ≠ "java/lang/invoke/MethodHandle" ∧ q.1.cls ≠ "java/lang/invoke/VarHandle") ∧ Cond.instantiable q.1.cls q.2 ∈ tables_1 ∧ Cond.privateMethod q.1 ∈ tables_1 ∧ Cond.instanceMethod q.1 ∈ tables_1
noncomputable def lw_privs_1 : List (MethodName × Nat) := [(⟨"PacketWall", "feedFour", "(I)V"⟩, 15), (⟨"PacketWall", "isPacket", "(I)Z"⟩, 15), (⟨"PacketWall$Headers", "sizeIfRight", "(II)I"⟩, 8), (⟨"PacketWall$Headers", "find", "(III)V"⟩, 8), (⟨"PacketWall$Headers", "isMisplaced", "(I)Z"⟩, 8), (⟨"PacketWall$Headers", "isOtherVersion", "(II)Z"⟩, 8), (⟨"PacketWall$Headers", "isCut", "(II)Z"⟩, 8), (⟨"PacketWall$Headers", "fullSize", "(II)I"⟩, 8), (⟨"PacketWall$Headers", "checkTold", "(II)V"⟩, 8), (⟨"PacketWall$Headers", "kindBehind", "(III)I"⟩, 8), (⟨"PacketWall$Headers", "toldKind", "(III)I"⟩, 8), (⟨"PacketWall$Headers", "quotedKind", "(II)I"⟩, 8), (⟨"PacketWall$Headers", "nearestNet", "(I)I"⟩, 8), (⟨"PacketWall$Headers", "addressTwos", "(I)J"⟩, 8), (⟨"PacketWall", "soughtGathering", "()I"⟩, 15), (⟨"PacketWall", "isRefusedPiece", "(IZ)Z"⟩, 15)]
noncomputable def lw_privs_2 : List (MethodName × Nat) := [(⟨"PacketWall", "freeGathering", "()I"⟩, 15), (⟨"PacketWall$Gathering", "keepHeaders", "(LPacketWall$Headers;I)V"⟩, 14), (⟨"PacketWall$Gathering", "lastPlace", "()I"⟩, 14), (⟨"PacketWall$Gathering", "rowBytes", "()I"⟩, 14), (⟨"PacketWall", "putTogether", "(LPacketWall$Gathering;)I"⟩, 15), (⟨"PacketWall$Gathering", "headersLength", "()I"⟩, 14), (⟨"PacketWall", "fillBucket", "(II)V"⟩, 15), (⟨"PacketWall$Flows", "findEnds", "(LPacketWall$Headers;)Z"⟩, 9), (⟨"PacketWall$Flows", "isQuoting", "(LPacketWall$Headers;)Z"⟩, 9), (⟨"PacketWall$Flows", "flowOfEnds", "()I"⟩, 9), (⟨"PacketWall$Flows", "begin", "(LPacketWall$Headers;I)I"⟩, 9), (⟨"PacketWall$Flow", "takeStream", "(LPacketWall$Headers;II)I"⟩, 16), (⟨"PacketWall$Flow", "isOut", "(III)Z"⟩, 16), (⟨"PacketWall$Flow", "lifeNow", "()I"⟩, 16), (⟨"PacketWall$Flows", "isPortTaken", "(JI)Z"⟩, 9), (⟨"PacketWall$Parser", "advance", "()V"⟩, 12)]
end
