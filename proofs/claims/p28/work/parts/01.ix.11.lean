section
set_option maxHeartbeats 4000000 in
theorem ix_run_ok (l : Launch) {T : ix_T} {D : va_G} {cl : List vw_C} {aC : Nat → ClassId} {tys : List (ClassId × FieldType)} {on : Nat → String} {Ts : List Cond} {Ns : ix_Ns} {ad : Nat → Nat} {base : Nat} (had : ∀ a : Nat, a < 1000000 → ad a = base + a) (hT : ix_okT T cl on Ts Ns) (k : Nat) : ∀ d : Nat, ix_Snd l T D cl aC tys on Ts Ns ad base d (ix_run T k d) := by
  intro d
  induction d with
  | zero =>
    intro mid M av hp hp' rv hM h
    cases h
  | succ d ih =>
    intro mid M av hp hp' rv hM h
    have hmono := ix_run_mono T k (d + 1) mid av hp hp' rv h
    refine ⟨hmono.1, hmono.2, ?_⟩
    obtain ⟨g1, g2, g3, g4, g5, g6, g7, g8⟩ := hT.2.2.2.2.2.1 mid M hM
    unfold ix_run at h
    rw [hM] at h
    simp only at h
    split at h
    · rename_i hlen
      split at h
      · rename_i r hr
        cases h
        refine Met.ofW (cc := M.2.2.1) (maxL := M.2.2.2.1) (ret := M.2.2.2.2.1) g2 rfl ?_
        intro p e s m args below meth c s₁ B hml hv
        obtain ⟨rfl, hsize, hP, hSt⟩ := hv
        have hts0 := atoms_spec (ws := ix_wsM M Ts) B.pre
        have hts : ∀ w ∈ Ts, w.before (av.map (ix_v ad)).toArray s = true := fun w hw => hts0 w (List.mem_cons_of_mem _ hw)
        have hown : s.vm.findClass (on M.1) = some m.cls := by rw [g1]; exact findClass_of_methodNamed B.named
        have hname : meth.name = M.2.1.name := (name_of_methodNamed B.named B.method).1
        rw [lg_entry_eq]
        have hl := lv_entry (av.map (ix_v ad)) (n := M.2.2.2.1) (by rw [ix_lg]; exact hlen)
        rw [ix_largs] at hl
        have key := (ix_iter_ok (p := p) (e := e) (R := ix_rm (d + 1) (hp'.1 - hp.1) (hp'.2.1 - hp.2.1)) (s := s) (m := m) (args := (av.map (ix_v ad)).toArray) (below := below) (meth := meth) (c := c) (Q := MQ below (ix_Qc D cl aC ad base rv hp') (av.map (ix_v ad)).toArray s (hp'.1 - hp.1) (hp'.2.1 - hp.2.1) (fun q => base ≤ q)) (n0 := hp.1) (k0 := hp.2.1) (ix_run_mono T k d) B.exec B.bytes hml had hts hown hT hSt hsize ih (Nat.le_refl _) (Nat.le_refl _) (fun q => by rw [hname]; exact g7 q) g8 k _ _ hr).2 (Nat.le_refl _) (Nat.le_refl _) (Nat.le_refl _) (Nat.le_refl _) ?_
        · have k1 := key s.heap [] _ ⟨hP.1, hP.2.1, hP.2.2, va_S.rf⟩ hl
          rw [show hp.1 - hp.1 = 0 by omega, show hp.2.1 - hp.2.1 = 0 by omega] at k1
          exact k1
        · intro H1 locs1 arr1 pc' i st' hW hi hret
          obtain ⟨len, hd, hlen2⟩ := g8 pc' i hi
          have hd' : decode M.2.2.1 pc' = .ok (i, ix_len i) := by
            rcases hlen2 with hz | hz
            · exfalso
              cases i <;> first | (simp [ix_len] at hz; done) | (simp [ix_ret] at hret; done)
            · rw [hz]; exact hd
          exact ix_ret_ok B.exec B.bytes B.returns B.notSynchronized hd' hret (fun t ht _ => ⟨rfl, by rw [ht]; exact ⟨hW.1, hW.2.1, hW.2.2.1⟩, hW.2.2.2.F ht⟩) hW.2.2.2.2.2
      · cases h
    · cases h
end
section
/-! ===== the tables' words, and the words of the private methods out of them, by one walk ===== -/
noncomputable def lw_okq (q : MethodName × Nat) : Prop := (q.1.cls ≠ "java/lang/invoke/MethodHandle" ∧ q.1.cls ≠ "java/lang/invoke/VarHandle") ∧ Cond.instantiable q.1.cls q.2 ∈ tables_1 ∧ Cond.privateMethod q.1 ∈ tables_1 ∧ Cond.instanceMethod q.1 ∈ tables_1
noncomputable def lw_privs_1 : List (MethodName × Nat) := [(⟨"PacketWall", "feedFour", "(I)V"⟩, 15), (⟨"PacketWall", "isPacket", "(I)Z"⟩, 15), (⟨"PacketWall$Headers", "sizeIfRight", "(II)I"⟩, 8), (⟨"PacketWall$Headers", "find", "(III)V"⟩, 8), (⟨"PacketWall$Headers", "isMisplaced", "(I)Z"⟩, 8), (⟨"PacketWall$Headers", "isOtherVersion", "(II)Z"⟩, 8), (⟨"PacketWall$Headers", "isCut", "(II)Z"⟩, 8), (⟨"PacketWall$Headers", "fullSize", "(II)I"⟩, 8), (⟨"PacketWall$Headers", "checkTold", "(II)V"⟩, 8), (⟨"PacketWall$Headers", "kindBehind", "(III)I"⟩, 8), (⟨"PacketWall$Headers", "toldKind", "(III)I"⟩, 8), (⟨"PacketWall$Headers", "quotedKind", "(II)I"⟩, 8), (⟨"PacketWall$Headers", "nearestNet", "(I)I"⟩, 8), (⟨"PacketWall$Headers", "addressTwos", "(I)J"⟩, 8), (⟨"PacketWall", "soughtGathering", "()I"⟩, 15), (⟨"PacketWall", "isRefusedPiece", "(IZ)Z"⟩, 15)]
noncomputable def lw_privs_2 : List (MethodName × Nat) := [(⟨"PacketWall", "freeGathering", "()I"⟩, 15), (⟨"PacketWall$Gathering", "keepHeaders", "(LPacketWall$Headers;I)V"⟩, 14), (⟨"PacketWall$Gathering", "lastPlace", "()I"⟩, 14), (⟨"PacketWall$Gathering", "rowBytes", "()I"⟩, 14), (⟨"PacketWall", "putTogether", "(LPacketWall$Gathering;)I"⟩, 15), (⟨"PacketWall$Gathering", "headersLength", "()I"⟩, 14), (⟨"PacketWall", "fillBucket", "(II)V"⟩, 15), (⟨"PacketWall$Flows", "findEnds", "(LPacketWall$Headers;)Z"⟩, 9), (⟨"PacketWall$Flows", "isQuoting", "(LPacketWall$Headers;)Z"⟩, 9), (⟨"PacketWall$Flows", "flowOfEnds", "()I"⟩, 9), (⟨"PacketWall$Flows", "begin", "(LPacketWall$Headers;I)I"⟩, 9), (⟨"PacketWall$Flow", "takeStream", "(LPacketWall$Headers;II)I"⟩, 16), (⟨"PacketWall$Flow", "isOut", "(III)Z"⟩, 16), (⟨"PacketWall$Flow", "lifeNow", "()I"⟩, 16), (⟨"PacketWall$Flows", "isPortTaken", "(JI)Z"⟩, 9), (⟨"PacketWall$Parser", "advance", "()V"⟩, 12)]
noncomputable def lw_privs_3 : List (MethodName × Nat) := [(⟨"PacketWall$Parser", "letterAt", "(I)I"⟩, 12), (⟨"PacketWall$Parser", "wordIn", "(Ljava/lang/String;)I"⟩, 12), (⟨"PacketWall$Parser", "isDigitAt", "(I)Z"⟩, 12), (⟨"PacketWall$Parser", "takeNumber", "()V"⟩, 12), (⟨"PacketWall$Parser", "isWord", "(I)Z"⟩, 12), (⟨"PacketWall$Parser", "refuse", "()V"⟩, 12), (⟨"PacketWall$Parser", "fail", "(I)V"⟩, 12), (⟨"PacketWall$Parser", "isName", "()Z"⟩, 12), (⟨"PacketWall$Parser", "chainNamed", "(I)I"⟩, 12), (⟨"PacketWall$Parser", "isSameWord", "(II)Z"⟩, 12), (⟨"PacketWall$Parser", "block", "(IZ)V"⟩, 12), (⟨"PacketWall$Parser", "open", "(CI)V"⟩, 12), (⟨"PacketWall$Parser", "isSign", "(C)Z"⟩, 12), (⟨"PacketWall$Parser", "deed", "(IZ)V"⟩, 12), (⟨"PacketWall$Parser", "countNode", "()V"⟩, 12), (⟨"PacketWall$Parser", "choice", "(IZ)V"⟩, 12)]
noncomputable def lw_privs_4 : List (MethodName × Nat) := [(⟨"PacketWall$Parser", "exp", "(II)V"⟩, 12), (⟨"PacketWall$Parser", "one", "(I)V"⟩, 12), (⟨"PacketWall$Parser", "expect", "(C)V"⟩, 12), (⟨"PacketWall$Parser", "kindField", "()V"⟩, 12), (⟨"PacketWall$Parser", "askingWord", "(I)V"⟩, 12), (⟨"PacketWall$Parser", "exps", "(II)V"⟩, 12), (⟨"PacketWall$Parser", "rankOfSign", "()I"⟩, 12), (⟨"PacketWall$Parser", "expectName", "()V"⟩, 12), (⟨"PacketWall$Machine", "clearReport", "()V"⟩, 20), (⟨"PacketWall$Machine", "clearFailure", "()V"⟩, 20), (⟨"PacketWall$Machine", "enter", "(IZ)Z"⟩, 20), (⟨"PacketWall$Machine", "fail", "(I)V"⟩, 20), (⟨"PacketWall$Machine", "perform", "()V"⟩, 20), (⟨"PacketWall$Machine", "workSign", "(II)V"⟩, 20), (⟨"PacketWall$Machine", "pop", "()J"⟩, 20), (⟨"PacketWall$Machine", "push", "(J)V"⟩, 20)]
noncomputable def lw_privs_5 : List (MethodName × Nat) := [(⟨"PacketWall$Machine", "pushTruth", "(Z)V"⟩, 20), (⟨"PacketWall$Machine", "skip", "(ZI)V"⟩, 20), (⟨"PacketWall$Machine", "workBetween", "(CJJ)V"⟩, 20), (⟨"PacketWall$Machine", "divide", "(CJJ)V"⟩, 20), (⟨"PacketWall$Machine", "goOn", "(II)V"⟩, 20), (⟨"PacketWall$Machine", "takeStep", "()V"⟩, 20), (⟨"PacketWall$Machine", "leaveBody", "(I)V"⟩, 20), (⟨"PacketWall$Machine", "chainNow", "()I"⟩, 20), (⟨"PacketWall$Machine", "leaveChain", "()V"⟩, 20), (⟨"PacketWall$Machine", "goInto", "(II)V"⟩, 20), (⟨"PacketWall$Machine", "note", "(I)V"⟩, 20), (⟨"PacketWall$Machine", "tell", "(II)V"⟩, 20), (⟨"PacketWall$Machine", "tellField", "(II)V"⟩, 20), (⟨"PacketWall$Machine", "ask", "(I)V"⟩, 20), (⟨"PacketWall$Machine", "askByte", "(J)V"⟩, 20), (⟨"PacketWall$Machine", "spend", "(J)V"⟩, 20)]
noncomputable def lw_privs_6 : List (MethodName × Nat) := [(⟨"PacketWall$Machine", "askLong", "(J)V"⟩, 20), (⟨"PacketWall$Machine", "isRow", "(J)Z"⟩, 20), (⟨"PacketWall$Machine", "askSet", "(JJ)V"⟩, 20), (⟨"PacketWall$Machine", "askRow", "(JJ)V"⟩, 20), (⟨"PacketWall$Machine", "isItemOfNumbers", "(JJ)Z"⟩, 20), (⟨"PacketWall$Machine", "askHead", "(JJJ)V"⟩, 20), (⟨"PacketWall$Machine", "doDeed", "(I)V"⟩, 20), (⟨"PacketWall$Machine", "setLabel", "()V"⟩, 20), (⟨"PacketWall$Machine", "count", "()V"⟩, 20), (⟨"PacketWall$Machine", "learn", "()V"⟩, 20), (⟨"PacketWall$Machine", "putItem", "()V"⟩, 20), (⟨"PacketWall$Machine", "copyItems", "()V"⟩, 20), (⟨"PacketWall$Row", "copyItem", "(LPacketWall$Row;II)V"⟩, 4), (⟨"PacketWall$Machine", "makeFresh", "()V"⟩, 20), (⟨"PacketWall$Machine", "makeList", "()V"⟩, 20), (⟨"PacketWall$Machine", "unwind", "()V"⟩, 20)]
noncomputable def lw_privs_7 : List (MethodName × Nat) := [(⟨"PacketWall$Flow", "hasRightState", "()Z"⟩, 16), (⟨"PacketWall$Flow", "hasRightAddresses", "()Z"⟩, 16), (⟨"PacketWall$Flows", "isTold", "(I)Z"⟩, 9), (⟨"PacketWall", "countPackets", "()I"⟩, 15), (⟨"PacketWall", "countGatherings", "()I"⟩, 15), (⟨"PacketWallModel", "layWords", "()V"⟩, 148), (⟨"PacketWallModel", "putWord", "(I)V"⟩, 148), (⟨"PacketWallModel", "isThere", "(I)Z"⟩, 148), (⟨"PacketWallModel", "finds", "(III)V"⟩, 148), (⟨"PacketWallModel", "look", "(I)V"⟩, 148), (⟨"PacketWallModel", "against", "(I)I"⟩, 148), (⟨"PacketWallModel", "measure", "(III)I"⟩, 148), (⟨"PacketWallModel", "one", "(II)I"⟩, 148), (⟨"PacketWallModel", "two", "(II)I"⟩, 148), (⟨"PacketWallModel", "behind", "(III)I"⟩, 148), (⟨"PacketWallModel", "valueOf", "(IIIII)J"⟩, 148)]
noncomputable def lw_privs_8 : List (MethodName × Nat) := [(⟨"PacketWallModel", "ofFour", "(III)J"⟩, 148), (⟨"PacketWallModel", "four", "(II)J"⟩, 148), (⟨"PacketWallModel", "ofSix", "(III)J"⟩, 148), (⟨"PacketWallModel", "eight", "(II)J"⟩, 148), (⟨"PacketWallModel", "ofStream", "(III)J"⟩, 148), (⟨"PacketWallModel", "sumOf", "(II)I"⟩, 148), (⟨"PacketWallModel", "sumAt", "(I)I"⟩, 148), (⟨"PacketWallModel", "added", "(IIII)J"⟩, 148), (⟨"PacketWallModel", "right", "(II)Z"⟩, 148), (⟨"PacketWallModel", "layTwo", "(III)V"⟩, 148), (⟨"PacketWallModel", "piece", "(I)I"⟩, 148), (⟨"PacketWallModel", "net", "()I"⟩, 148), (⟨"PacketWallModel", "gathering", "(IJJJI)I"⟩, 148), (⟨"PacketWallModel", "freeGathering", "()I"⟩, 148), (⟨"PacketWallModel", "beginGathering", "(IIJJJI)V"⟩, 148), (⟨"PacketWallModel", "tellWhole", "(II)V"⟩, 148)]
noncomputable def lw_privs_9 : List (MethodName × Nat) := [(⟨"PacketWallModel", "growRow", "(II)V"⟩, 148), (⟨"PacketWallModel", "layData", "(IIIII)V"⟩, 148), (⟨"PacketWallModel", "keepHeaders", "(IIII)V"⟩, 148), (⟨"PacketWallModel", "finish", "(I)I"⟩, 148), (⟨"PacketWallModel", "hasEnds", "(I)Z"⟩, 148), (⟨"PacketWallModel", "takeEnds", "(III)V"⟩, 148), (⟨"PacketWallModel", "isRelated", "(I)Z"⟩, 148), (⟨"PacketWallModel", "flowByEnds", "()I"⟩, 148), (⟨"PacketWallModel", "sideOf", "(I)I"⟩, 148), (⟨"PacketWallModel", "beginFlow", "()I"⟩, 148), (⟨"PacketWallModel", "forget", "(I)V"⟩, 148), (⟨"PacketWallModel", "after", "(III)I"⟩, 148), (⟨"PacketWallModel", "isOut", "(III)Z"⟩, 148), (⟨"PacketWallModel", "longOf", "(I)I"⟩, 148), (⟨"PacketWallModel", "counts", "(II)V"⟩, 148), (⟨"PacketWallModel", "isFlow", "(I)Z"⟩, 148)]
noncomputable def lw_privs_10 : List (MethodName × Nat) := [(⟨"PacketWallModel", "isTaken", "(JI)Z"⟩, 148), (⟨"PacketWallModel", "layFour", "(IIJ)V"⟩, 148), (⟨"PacketWallModel", "tapeTwo", "(II)V"⟩, 148), (⟨"PacketWallModel", "tapeFour", "(IJ)V"⟩, 148), (⟨"PacketWallModel", "sumOfTape", "(II)I"⟩, 148), (⟨"PacketWallModel", "isRow", "(II)Z"⟩, 148), (⟨"PacketWallModel", "takenTwo", "(I)I"⟩, 148), (⟨"PacketWallModel", "takenEight", "(I)J"⟩, 148), (⟨"PacketWallModel", "takenFour", "(I)J"⟩, 148), (⟨"PacketWallModel", "haveLikeEnds", "(II)Z"⟩, 148), (⟨"PacketWallModel", "takeRow", "(I)V"⟩, 148), (⟨"PacketWallModel", "next", "()V"⟩, 148), (⟨"PacketWallModel", "isWord", "(I)Z"⟩, 148), (⟨"PacketWallModel", "chain", "()V"⟩, 148), (⟨"PacketWallModel", "fails", "(II)V"⟩, 148), (⟨"PacketWallModel", "isName", "()Z"⟩, 148)]
end
