section
noncomputable def iy_sem (T : ix_T) (f : ix_F) (M : ix_M) (i : Instr) (pc : Nat) (ls : ix_L) (st : List Value) (hp : ix_H) : Option (ix_S ⊕ (Option Value × ix_H)) := match i with
  | .iadd => fx_iadd pc ls st hp
  | .isub => fx_isub pc ls st hp
  | .imul => fx_imul pc ls st hp
  | .iand => fx_iand pc ls st hp
  | .ior => fx_ior pc ls st hp
  | .ixor => fx_ixor pc ls st hp
  | .ishl => fx_ishl pc ls st hp
  | .ishr => fx_ishr pc ls st hp
  | .iushr => fx_iushr pc ls st hp
  | .ladd => fx_ladd pc ls st hp
  | .lsub => fx_lsub pc ls st hp
  | .lmul => fx_lmul pc ls st hp
  | .land => fx_land pc ls st hp
  | .lor => fx_lor pc ls st hp
  | .lxor => fx_lxor pc ls st hp
  | .idiv => fx_idiv pc ls st hp
  | .irem => fx_irem pc ls st hp
  | .ldiv => fx_ldiv pc ls st hp
  | .lrem => fx_lrem pc ls st hp
  | .lshl => fx_lshl pc ls st hp
  | .lshr => fx_lshr pc ls st hp
  | .lushr => fx_lushr pc ls st hp
  | .ineg => fx_ineg pc ls st hp
  | .lneg => fx_lneg pc ls st hp
  | .i2l => fx_i2l pc ls st hp
  | .l2i => fx_l2i pc ls st hp
  | .i2b => fx_i2b pc ls st hp
  | .i2s => fx_i2s pc ls st hp
  | .i2c => fx_i2c pc ls st hp
  | .lcmp => fx_lcmp pc ls st hp
  | .dup => fx_dup pc ls st hp
  | .pop => fx_pop pc ls st hp
  | .dup2 => fx_dup2 pc ls st hp
  | .iconst v => fx_iconst v pc ls st hp
  | .bipush v => fx_bipush v pc ls st hp
  | .sipush v => fx_sipush v pc ls st hp
  | .lconst v => fx_lconst v pc ls st hp
  | .iload k => fx_iload k 2 pc ls st hp
  | .iload_n k => fx_iload k.val 1 pc ls st hp
  | .istore k => fx_istore k 2 M.2.2.2.1 pc ls st hp
  | .istore_n k => fx_istore k.val 1 M.2.2.2.1 pc ls st hp
  | .lload k => fx_lload k 2 pc ls st hp
  | .lload_n k => fx_lload k.val 1 pc ls st hp
  | .lstore k => fx_lstore k 2 M.2.2.2.1 pc ls st hp
  | .lstore_n k => fx_lstore k.val 1 M.2.2.2.1 pc ls st hp
  | .aload k => fx_aload k 2 pc ls st hp
  | .aload_n k => fx_aload k.val 1 pc ls st hp
  | .astore k => fx_astore k 2 M.2.2.2.1 pc ls st hp
  | .astore_n k => fx_astore k.val 1 M.2.2.2.1 pc ls st hp
  | .iinc k v => fx_iinc k v M.2.2.2.1 pc ls st hp
  | .goto off => fx_goto off pc ls st hp
  | .ifCond cd off => fx_if cd off pc ls st hp
  | .if_icmp cd off => fx_icmp cd off pc ls st hp
  | .tableswitch dflt lo hi offs => fx_tsw dflt lo hi offs pc ls st hp
  | .getfield idx => fx_getfield T M.1 M.2.2.2.2.2.1 idx pc ls st hp
  | .putfield idx => fx_putfield T M.1 M.2.2.2.2.2.1 idx pc ls st hp
  | .arraylength => fx_arraylength T M.1 M.2.2.2.2.2.1  pc ls st hp
  | .iaload => fx_iaload T M.1 M.2.2.2.2.2.1  pc ls st hp
  | .getstatic idx => fx_getstatic T M.1 M.2.2.2.2.2.1 idx pc ls st hp
  | .laload => fx_laload T M.1 M.2.2.2.2.2.1  pc ls st hp
  | .baload => fx_baload T M.1 M.2.2.2.2.2.1  pc ls st hp
  | .aaload => fx_aaload T M.1 M.2.2.2.2.2.1  pc ls st hp
  | .iastore => fx_iastore T M.1 M.2.2.2.2.2.1  pc ls st hp
  | .lastore => fx_lastore T M.1 M.2.2.2.2.2.1  pc ls st hp
  | .bastore => fx_bastore T M.1 M.2.2.2.2.2.1  pc ls st hp
  | .aastore => fx_aastore T M.1 M.2.2.2.2.2.1  pc ls st hp
  | .new idx => fx_new T M.1 M.2.2.2.2.2.1 idx pc ls st hp
  | .newarray aty => fx_newarray T M.1 M.2.2.2.2.2.1 aty pc ls st hp
  | .anewarray idx => fx_anewarray T M.1 M.2.2.2.2.2.1 idx pc ls st hp
  | .ldc idx => fx_ldc T M.1 M.2.2.2.2.2.1 idx pc ls st hp
  | .ldc_w idx => fx_ldc_w T M.1 M.2.2.2.2.2.1 idx pc ls st hp
  | .ldc2_w idx => fx_ldc2_w T M.1 M.2.2.2.2.2.1 idx pc ls st hp
  | .return_ => fx_return M.2.2.2.2.1 st hp
  | .ireturn => fx_ireturn M.2.2.2.2.1 st hp
  | .lreturn => fx_lreturn M.2.2.2.2.1 st hp
  | .invokevirtual n => fx_call T f M.1 (.invokevirtual n) pc ls st hp
  | .invokespecial n => fx_call T f M.1 (.invokespecial n) pc ls st hp
  | .invokestatic n => fx_call T f M.1 (.invokestatic n) pc ls st hp
  | _ => none
theorem iy_sem_ok {T : ix_T} {f : ix_F} {M : ix_M} {i : Instr} {pc : Nat} {ls : ix_L} {st : List Value} {hp : ix_H} {res : ix_S ⊕ (Option Value × ix_H)} (h : iy_sem T f M i pc ls st hp = some res) : ix_sem T f M i pc ls st hp = some res := by
  unfold iy_sem at h
  split at h
  · exact fxk_iadd h
  · exact fxk_isub h
  · exact fxk_imul h
  · exact fxk_iand h
  · exact fxk_ior h
  · exact fxk_ixor h
  · exact fxk_ishl h
  · exact fxk_ishr h
  · exact fxk_iushr h
  · exact fxk_ladd h
  · exact fxk_lsub h
  · exact fxk_lmul h
  · exact fxk_land h
  · exact fxk_lor h
  · exact fxk_lxor h
  · exact fxk_idiv h
  · exact fxk_irem h
  · exact fxk_ldiv h
  · exact fxk_lrem h
  · exact fxk_lshl h
  · exact fxk_lshr h
  · exact fxk_lushr h
  · exact fxk_ineg h
  · exact fxk_lneg h
  · exact fxk_i2l h
  · exact fxk_l2i h
  · exact fxk_i2b h
  · exact fxk_i2s h
  · exact fxk_i2c h
  · exact fxk_lcmp h
  · exact fxk_dup h
  · exact fxk_pop h
  · exact fxk_dup2 h
  · exact fxk_iconst h
  · exact fxk_bipush h
  · exact fxk_sipush h
  · exact fxk_lconst h
  · exact fxk_iload h
  · exact fxk_iload_n h
  · exact fxk_istore h
  · exact fxk_istore_n h
  · exact fxk_lload h
  · exact fxk_lload_n h
  · exact fxk_lstore h
  · exact fxk_lstore_n h
  · exact fxk_aload h
  · exact fxk_aload_n h
  · exact fxk_astore h
  · exact fxk_astore_n h
  · exact fxk_iinc h
  · exact fxk_goto h
  · exact fxk_if h
  · exact fxk_icmp h
  · exact fxk_tsw h
  · exact fxk_getfield h
  · exact fxk_putfield h
  · exact fxk_arraylength h
  · exact fxk_iaload h
  · exact fxk_getstatic h
  · exact fxk_laload h
  · exact fxk_baload h
  · exact fxk_aaload h
  · exact fxk_iastore h
  · exact fxk_lastore h
  · exact fxk_bastore h
  · exact fxk_aastore h
  · exact fxk_new h
  · exact fxk_newarray h
  · exact fxk_anewarray h
  · exact fxk_ldc h
  · exact fxk_ldc_w h
  · exact fxk_ldc2_w h
  · exact fxk_return h
  · exact fxk_ireturn h
  · exact fxk_lreturn h
  · exact fxk_call (Or.inl ⟨_, rfl⟩) h
  · exact fxk_call (Or.inr (Or.inl ⟨_, rfl⟩)) h
  · exact fxk_call (Or.inr (Or.inr ⟨_, rfl⟩)) h
  · cases h
noncomputable def iy_iter (T : ix_T) (f : ix_F) (M : ix_M) : Nat → ix_S → Option (ix_S ⊕ (Option Value × ix_H))
  | 0, (pc, ls, st, hp) => match M.2.2.2.2.2.2 pc with
    | none => none
    | some i => iy_sem T f M i pc ls st hp
  | k + 1, σ => match iy_iter T f M k σ with
    | some (.inl σ') => iy_iter T f M k σ'
    | x => x
theorem ix_cal_sub {T : ix_T} {f g : ix_F} (hfg : ∀ (mid : Nat) (av : List Value) (hp : ix_H) (r : Option Value × ix_H), f mid av hp = some r → g mid av hp = some r) {oc : Nat} {i : Instr} {st : List Value} {hp : ix_H} {r : List Value × ix_H} (h : ix_cal T f oc i st hp = some r) : ix_cal T g oc i st hp = some r := by
  unfold ix_cal at h ⊢
  split at h
  · split at h
    · exact h
    · rename_i hne h1
      split at h
      · rename_i hk
        split at h
        · rename_i hd
          split at h
          · rename_i hc
            split at h
            · rename_i hr
              simp only [if_pos hk, hd, if_pos hc, hfg _ _ _ _ hr]
              exact h
            · cases h
          · cases h
        · cases h
      · cases h
    · cases h
  · split at h
    · split at h
      · rename_i hk
        split at h
        · rename_i hd hM
          split at h
          · rename_i ho
            split at h
            · rename_i hc
              split at h
              · rename_i hr
                simp only [if_pos hk, hd, hM, ho, if_pos hc, hfg _ _ _ _ hr]
                exact h
              · cases h
            · cases h
          · cases h
        · cases h
      · rename_i hk
        split at h
        · rename_i hk8
          split at h
          · rename_i hd
            split at h
            · rename_i ho
              split at h
              · rename_i hc
                split at h
                · rename_i hr
                  simp only [if_neg hk, if_pos hk8, hd, ho, if_pos hc, hfg _ _ _ _ hr]
                  exact h
                · cases h
              · cases h
            · cases h
          · cases h
        · cases h
    · cases h
  · split at h
    · exact h
    · split at h
      · rename_i hk
        split at h
        · rename_i hr
          simp only [if_pos hk, hfg _ _ _ _ hr]
          exact h
        · cases h
      · rename_i hk
        simp only [if_neg hk]
        exact h
    · cases h
  · cases h
theorem ix_sem_sub {T : ix_T} {f g : ix_F} (hfg : ∀ (mid : Nat) (av : List Value) (hp : ix_H) (r : Option Value × ix_H), f mid av hp = some r → g mid av hp = some r) {M : ix_M} {i : Instr} {pc : Nat} {ls : ix_L} {st : List Value} {hp : ix_H} {res : ix_S ⊕ (Option Value × ix_H)} (h : ix_sem T f M i pc ls st hp = some res) : ix_sem T g M i pc ls st hp = some res := by
  unfold ix_sem at h ⊢
  split at h
  · exact h
  · split at h
    · exact h
    · split at h
      · exact h
      · split at h
        · exact h
        · split at h
          · exact h
          · split at h
            · rename_i hc
              rw [ix_cal_sub hfg hc]
              exact h
            · cases h
theorem iy_iter_ok {T : ix_T} {f g : ix_F} (hfg : ∀ (mid : Nat) (av : List Value) (hp : ix_H) (r : Option Value × ix_H), f mid av hp = some r → g mid av hp = some r) {M : ix_M} : ∀ (k : Nat) (σ : ix_S) (res : ix_S ⊕ (Option Value × ix_H)), iy_iter T f M k σ = some res → ix_iter T g M k σ = some res
  | 0, (pc, ls, st, hp), res, h => by
    unfold iy_iter at h
    split at h
    · cases h
    · rename_i i hi
      show ix_one T g M (pc, ls, st, hp) = some res
      rw [ix_one_sem T g M pc ls st hp hi]
      exact ix_sem_sub hfg (iy_sem_ok h)
  | k + 1, σ, res, h => by
    unfold iy_iter at h
    unfold ix_iter
    split at h
    · rename_i σ' h1
      rw [iy_iter_ok hfg k σ _ h1]
      exact iy_iter_ok hfg k σ' res h
    · rename_i hne
      have h2 := iy_iter_ok hfg k σ res h
      rw [h2]
      split
      · rename_i σ' h3
        exact absurd (h.trans h3) (hne σ')
      · rfl
noncomputable def iy_run (T : ix_T) (k : Nat) : Nat → ix_F
  | 0, _, _, _ => none
  | d + 1, mid, args, hp => match ix_tM T mid with
    | none => none
    | some M => if (lg_sl args).length ≤ M.2.2.2.1 then (match iy_iter T (iy_run T k d) M k (0, lv_args 0 args, [], hp) with
      | some (.inr r) => some r
      | _ => none) else none
theorem iy_run_ok (T : ix_T) (k : Nat) : ∀ (d mid : Nat) (av : List Value) (hp : ix_H) (r : Option Value × ix_H), iy_run T k d mid av hp = some r → ix_run T k d mid av hp = some r
  | 0, mid, av, hp, r, h => by cases h
  | d + 1, mid, av, hp, r, h => by
    unfold iy_run at h
    unfold ix_run
    split at h
    · cases h
    · rename_i M hM
      rw [hM]
      simp only at h ⊢
      split at h
      · rename_i hl
        rw [if_pos hl]
        split at h
        · rename_i hr
          rw [iy_iter_ok (iy_run_ok T k d) _ _ _ hr]
          exact h
        · cases h
      · cases h
end

