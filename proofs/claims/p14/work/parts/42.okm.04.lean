section
theorem xmks_0 : ∀ (k : Nat) (M : ix_M), 0 ≤ k → k < 20 → xT_M k = some M → xmkP M := by
  intro k M h1 h2 h
  obtain ⟨j, rfl⟩ : ∃ j, k = 0 + j := ⟨k - 0, by omega⟩
  rcases (show j = 0 ∨ j = 1 ∨ j = 2 ∨ j = 3 ∨ j = 4 ∨ j = 5 ∨ j = 6 ∨ j = 7 ∨ j = 8 ∨ j = 9 ∨ j = 10 ∨ j = 11 ∨ j = 12 ∨ j = 13 ∨ j = 14 ∨ j = 15 ∨ j = 16 ∨ j = 17 ∨ j = 18 ∨ j = 19 by omega) with rfl | rfl | rfl | rfl | rfl | rfl | rfl | rfl | rfl | rfl | rfl | rfl | rfl | rfl | rfl | rfl | rfl | rfl | rfl | rfl
  · have e : M = xm_0 := (Option.some.inj (h.symm.trans (show xT_M (0 + 0) = some xm_0 from rfl)))
    rw [e]; exact xmk_0
  · have e : M = xm_1 := (Option.some.inj (h.symm.trans (show xT_M (0 + 1) = some xm_1 from rfl)))
    rw [e]; exact xmk_1
  · have e : M = xm_2 := (Option.some.inj (h.symm.trans (show xT_M (0 + 2) = some xm_2 from rfl)))
    rw [e]; exact xmk_2
  · have e : M = xm_3 := (Option.some.inj (h.symm.trans (show xT_M (0 + 3) = some xm_3 from rfl)))
    rw [e]; exact xmk_3
  · have e : M = xm_4 := (Option.some.inj (h.symm.trans (show xT_M (0 + 4) = some xm_4 from rfl)))
    rw [e]; exact xmk_4
  · have e : M = xm_5 := (Option.some.inj (h.symm.trans (show xT_M (0 + 5) = some xm_5 from rfl)))
    rw [e]; exact xmk_5
  · have e : M = xm_6 := (Option.some.inj (h.symm.trans (show xT_M (0 + 6) = some xm_6 from rfl)))
    rw [e]; exact xmk_6
  · have e : M = xm_7 := (Option.some.inj (h.symm.trans (show xT_M (0 + 7) = some xm_7 from rfl)))
    rw [e]; exact xmk_7
  · have e : M = xm_8 := (Option.some.inj (h.symm.trans (show xT_M (0 + 8) = some xm_8 from rfl)))
    rw [e]; exact xmk_8
  · have e : M = xm_9 := (Option.some.inj (h.symm.trans (show xT_M (0 + 9) = some xm_9 from rfl)))
    rw [e]; exact xmk_9
  · have e : M = xm_10 := (Option.some.inj (h.symm.trans (show xT_M (0 + 10) = some xm_10 from rfl)))
    rw [e]; exact xmk_10
  · have e : M = xm_11 := (Option.some.inj (h.symm.trans (show xT_M (0 + 11) = some xm_11 from rfl)))
    rw [e]; exact xmk_11
  · have e : M = xm_12 := (Option.some.inj (h.symm.trans (show xT_M (0 + 12) = some xm_12 from rfl)))
    rw [e]; exact xmk_12
  · have e : M = xm_13 := (Option.some.inj (h.symm.trans (show xT_M (0 + 13) = some xm_13 from rfl)))
    rw [e]; exact xmk_13
  · have e : M = xm_14 := (Option.some.inj (h.symm.trans (show xT_M (0 + 14) = some xm_14 from rfl)))
    rw [e]; exact xmk_14
  · have e : M = xm_15 := (Option.some.inj (h.symm.trans (show xT_M (0 + 15) = some xm_15 from rfl)))
    rw [e]; exact xmk_15
  · have e : M = xm_16 := (Option.some.inj (h.symm.trans (show xT_M (0 + 16) = some xm_16 from rfl)))
    rw [e]; exact xmk_16
  · have e : M = xm_17 := (Option.some.inj (h.symm.trans (show xT_M (0 + 17) = some xm_17 from rfl)))
    rw [e]; exact xmk_17
  · have e : M = xm_18 := (Option.some.inj (h.symm.trans (show xT_M (0 + 18) = some xm_18 from rfl)))
    rw [e]; exact xmk_18
  · have e : M = xm_19 := (Option.some.inj (h.symm.trans (show xT_M (0 + 19) = some xm_19 from rfl)))
    rw [e]; exact xmk_19
theorem xmks_20 : ∀ (k : Nat) (M : ix_M), 20 ≤ k → k < 40 → xT_M k = some M → xmkP M := by
  intro k M h1 h2 h
  obtain ⟨j, rfl⟩ : ∃ j, k = 20 + j := ⟨k - 20, by omega⟩
  rcases (show j = 0 ∨ j = 1 ∨ j = 2 ∨ j = 3 ∨ j = 4 ∨ j = 5 ∨ j = 6 ∨ j = 7 ∨ j = 8 ∨ j = 9 ∨ j = 10 ∨ j = 11 ∨ j = 12 ∨ j = 13 ∨ j = 14 ∨ j = 15 ∨ j = 16 ∨ j = 17 ∨ j = 18 ∨ j = 19 by omega) with rfl | rfl | rfl | rfl | rfl | rfl | rfl | rfl | rfl | rfl | rfl | rfl | rfl | rfl | rfl | rfl | rfl | rfl | rfl | rfl
  · have e : M = xm_20 := (Option.some.inj (h.symm.trans (show xT_M (20 + 0) = some xm_20 from rfl)))
    rw [e]; exact xmk_20
  · have e : M = xm_21 := (Option.some.inj (h.symm.trans (show xT_M (20 + 1) = some xm_21 from rfl)))
    rw [e]; exact xmk_21
  · have e : M = xm_22 := (Option.some.inj (h.symm.trans (show xT_M (20 + 2) = some xm_22 from rfl)))
    rw [e]; exact xmk_22
  · have e : M = xm_23 := (Option.some.inj (h.symm.trans (show xT_M (20 + 3) = some xm_23 from rfl)))
    rw [e]; exact xmk_23
  · have e : M = xm_24 := (Option.some.inj (h.symm.trans (show xT_M (20 + 4) = some xm_24 from rfl)))
    rw [e]; exact xmk_24
  · have e : M = xm_25 := (Option.some.inj (h.symm.trans (show xT_M (20 + 5) = some xm_25 from rfl)))
    rw [e]; exact xmk_25
  · have e : M = xm_26 := (Option.some.inj (h.symm.trans (show xT_M (20 + 6) = some xm_26 from rfl)))
    rw [e]; exact xmk_26
  · have e : M = xm_27 := (Option.some.inj (h.symm.trans (show xT_M (20 + 7) = some xm_27 from rfl)))
    rw [e]; exact xmk_27
  · have e : M = xm_28 := (Option.some.inj (h.symm.trans (show xT_M (20 + 8) = some xm_28 from rfl)))
    rw [e]; exact xmk_28
  · have e : M = xm_29 := (Option.some.inj (h.symm.trans (show xT_M (20 + 9) = some xm_29 from rfl)))
    rw [e]; exact xmk_29
  · have e : M = xm_30 := (Option.some.inj (h.symm.trans (show xT_M (20 + 10) = some xm_30 from rfl)))
    rw [e]; exact xmk_30
  · have e : M = xm_31 := (Option.some.inj (h.symm.trans (show xT_M (20 + 11) = some xm_31 from rfl)))
    rw [e]; exact xmk_31
  · have e : M = xm_32 := (Option.some.inj (h.symm.trans (show xT_M (20 + 12) = some xm_32 from rfl)))
    rw [e]; exact xmk_32
  · have e : M = xm_33 := (Option.some.inj (h.symm.trans (show xT_M (20 + 13) = some xm_33 from rfl)))
    rw [e]; exact xmk_33
  · have e : M = xm_34 := (Option.some.inj (h.symm.trans (show xT_M (20 + 14) = some xm_34 from rfl)))
    rw [e]; exact xmk_34
  · have e : M = xm_35 := (Option.some.inj (h.symm.trans (show xT_M (20 + 15) = some xm_35 from rfl)))
    rw [e]; exact xmk_35
  · have e : M = xm_36 := (Option.some.inj (h.symm.trans (show xT_M (20 + 16) = some xm_36 from rfl)))
    rw [e]; exact xmk_36
  · have e : M = xm_37 := (Option.some.inj (h.symm.trans (show xT_M (20 + 17) = some xm_37 from rfl)))
    rw [e]; exact xmk_37
  · have e : M = xm_38 := (Option.some.inj (h.symm.trans (show xT_M (20 + 18) = some xm_38 from rfl)))
    rw [e]; exact xmk_38
  · have e : M = xm_39 := (Option.some.inj (h.symm.trans (show xT_M (20 + 19) = some xm_39 from rfl)))
    rw [e]; exact xmk_39
theorem xmks_40 : ∀ (k : Nat) (M : ix_M), 40 ≤ k → k < 60 → xT_M k = some M → xmkP M := by
  intro k M h1 h2 h
  obtain ⟨j, rfl⟩ : ∃ j, k = 40 + j := ⟨k - 40, by omega⟩
  rcases (show j = 0 ∨ j = 1 ∨ j = 2 ∨ j = 3 ∨ j = 4 ∨ j = 5 ∨ j = 6 ∨ j = 7 ∨ j = 8 ∨ j = 9 ∨ j = 10 ∨ j = 11 ∨ j = 12 ∨ j = 13 ∨ j = 14 ∨ j = 15 ∨ j = 16 ∨ j = 17 ∨ j = 18 ∨ j = 19 by omega) with rfl | rfl | rfl | rfl | rfl | rfl | rfl | rfl | rfl | rfl | rfl | rfl | rfl | rfl | rfl | rfl | rfl | rfl | rfl | rfl
  · have e : M = xm_40 := (Option.some.inj (h.symm.trans (show xT_M (40 + 0) = some xm_40 from rfl)))
    rw [e]; exact xmk_40
  · have e : M = xm_41 := (Option.some.inj (h.symm.trans (show xT_M (40 + 1) = some xm_41 from rfl)))
    rw [e]; exact xmk_41
  · have e : M = xm_42 := (Option.some.inj (h.symm.trans (show xT_M (40 + 2) = some xm_42 from rfl)))
    rw [e]; exact xmk_42
  · have e : M = xm_43 := (Option.some.inj (h.symm.trans (show xT_M (40 + 3) = some xm_43 from rfl)))
    rw [e]; exact xmk_43
  · have e : M = xm_44 := (Option.some.inj (h.symm.trans (show xT_M (40 + 4) = some xm_44 from rfl)))
    rw [e]; exact xmk_44
  · have e : M = xm_45 := (Option.some.inj (h.symm.trans (show xT_M (40 + 5) = some xm_45 from rfl)))
    rw [e]; exact xmk_45
  · have e : M = xm_46 := (Option.some.inj (h.symm.trans (show xT_M (40 + 6) = some xm_46 from rfl)))
    rw [e]; exact xmk_46
  · have e : M = xm_47 := (Option.some.inj (h.symm.trans (show xT_M (40 + 7) = some xm_47 from rfl)))
    rw [e]; exact xmk_47
  · have e : M = xm_48 := (Option.some.inj (h.symm.trans (show xT_M (40 + 8) = some xm_48 from rfl)))
    rw [e]; exact xmk_48
  · have e : M = xm_49 := (Option.some.inj (h.symm.trans (show xT_M (40 + 9) = some xm_49 from rfl)))
    rw [e]; exact xmk_49
  · have e : M = xm_50 := (Option.some.inj (h.symm.trans (show xT_M (40 + 10) = some xm_50 from rfl)))
    rw [e]; exact xmk_50
  · have e : M = xm_51 := (Option.some.inj (h.symm.trans (show xT_M (40 + 11) = some xm_51 from rfl)))
    rw [e]; exact xmk_51
  · have e : M = xm_52 := (Option.some.inj (h.symm.trans (show xT_M (40 + 12) = some xm_52 from rfl)))
    rw [e]; exact xmk_52
  · have e : M = xm_53 := (Option.some.inj (h.symm.trans (show xT_M (40 + 13) = some xm_53 from rfl)))
    rw [e]; exact xmk_53
  · have e : M = xm_54 := (Option.some.inj (h.symm.trans (show xT_M (40 + 14) = some xm_54 from rfl)))
    rw [e]; exact xmk_54
  · have e : M = xm_55 := (Option.some.inj (h.symm.trans (show xT_M (40 + 15) = some xm_55 from rfl)))
    rw [e]; exact xmk_55
  · have e : M = xm_56 := (Option.some.inj (h.symm.trans (show xT_M (40 + 16) = some xm_56 from rfl)))
    rw [e]; exact xmk_56
  · have e : M = xm_57 := (Option.some.inj (h.symm.trans (show xT_M (40 + 17) = some xm_57 from rfl)))
    rw [e]; exact xmk_57
  · have e : M = xm_58 := (Option.some.inj (h.symm.trans (show xT_M (40 + 18) = some xm_58 from rfl)))
    rw [e]; exact xmk_58
  · have e : M = xm_59 := (Option.some.inj (h.symm.trans (show xT_M (40 + 19) = some xm_59 from rfl)))
    rw [e]; exact xmk_59
theorem xmks_60 : ∀ (k : Nat) (M : ix_M), 60 ≤ k → k < 80 → xT_M k = some M → xmkP M := by
  intro k M h1 h2 h
  obtain ⟨j, rfl⟩ : ∃ j, k = 60 + j := ⟨k - 60, by omega⟩
  rcases (show j = 0 ∨ j = 1 ∨ j = 2 ∨ j = 3 ∨ j = 4 ∨ j = 5 ∨ j = 6 ∨ j = 7 ∨ j = 8 ∨ j = 9 ∨ j = 10 ∨ j = 11 ∨ j = 12 ∨ j = 13 ∨ j = 14 ∨ j = 15 ∨ j = 16 ∨ j = 17 ∨ j = 18 ∨ j = 19 by omega) with rfl | rfl | rfl | rfl | rfl | rfl | rfl | rfl | rfl | rfl | rfl | rfl | rfl | rfl | rfl | rfl | rfl | rfl | rfl | rfl
  · have e : M = xm_60 := (Option.some.inj (h.symm.trans (show xT_M (60 + 0) = some xm_60 from rfl)))
    rw [e]; exact xmk_60
  · have e : M = xm_61 := (Option.some.inj (h.symm.trans (show xT_M (60 + 1) = some xm_61 from rfl)))
    rw [e]; exact xmk_61
  · have e : M = xm_62 := (Option.some.inj (h.symm.trans (show xT_M (60 + 2) = some xm_62 from rfl)))
    rw [e]; exact xmk_62
  · have e : M = xm_63 := (Option.some.inj (h.symm.trans (show xT_M (60 + 3) = some xm_63 from rfl)))
    rw [e]; exact xmk_63
  · have e : M = xm_64 := (Option.some.inj (h.symm.trans (show xT_M (60 + 4) = some xm_64 from rfl)))
    rw [e]; exact xmk_64
  · have e : M = xm_65 := (Option.some.inj (h.symm.trans (show xT_M (60 + 5) = some xm_65 from rfl)))
    rw [e]; exact xmk_65
  · have e : M = xm_66 := (Option.some.inj (h.symm.trans (show xT_M (60 + 6) = some xm_66 from rfl)))
    rw [e]; exact xmk_66
  · have e : M = xm_67 := (Option.some.inj (h.symm.trans (show xT_M (60 + 7) = some xm_67 from rfl)))
    rw [e]; exact xmk_67
  · have e : M = xm_68 := (Option.some.inj (h.symm.trans (show xT_M (60 + 8) = some xm_68 from rfl)))
    rw [e]; exact xmk_68
  · have e : M = xm_69 := (Option.some.inj (h.symm.trans (show xT_M (60 + 9) = some xm_69 from rfl)))
    rw [e]; exact xmk_69
  · have e : M = xm_70 := (Option.some.inj (h.symm.trans (show xT_M (60 + 10) = some xm_70 from rfl)))
    rw [e]; exact xmk_70
  · have e : M = xm_71 := (Option.some.inj (h.symm.trans (show xT_M (60 + 11) = some xm_71 from rfl)))
    rw [e]; exact xmk_71
  · have e : M = xm_72 := (Option.some.inj (h.symm.trans (show xT_M (60 + 12) = some xm_72 from rfl)))
    rw [e]; exact xmk_72
  · have e : M = xm_73 := (Option.some.inj (h.symm.trans (show xT_M (60 + 13) = some xm_73 from rfl)))
    rw [e]; exact xmk_73
  · have e : M = xm_74 := (Option.some.inj (h.symm.trans (show xT_M (60 + 14) = some xm_74 from rfl)))
    rw [e]; exact xmk_74
  · have e : M = xm_75 := (Option.some.inj (h.symm.trans (show xT_M (60 + 15) = some xm_75 from rfl)))
    rw [e]; exact xmk_75
  · have e : M = xm_76 := (Option.some.inj (h.symm.trans (show xT_M (60 + 16) = some xm_76 from rfl)))
    rw [e]; exact xmk_76
  · have e : M = xm_77 := (Option.some.inj (h.symm.trans (show xT_M (60 + 17) = some xm_77 from rfl)))
    rw [e]; exact xmk_77
  · have e : M = xm_78 := (Option.some.inj (h.symm.trans (show xT_M (60 + 18) = some xm_78 from rfl)))
    rw [e]; exact xmk_78
  · have e : M = xm_79 := (Option.some.inj (h.symm.trans (show xT_M (60 + 19) = some xm_79 from rfl)))
    rw [e]; exact xmk_79
theorem xmks_80 : ∀ (k : Nat) (M : ix_M), 80 ≤ k → k < 100 → xT_M k = some M → xmkP M := by
  intro k M h1 h2 h
  obtain ⟨j, rfl⟩ : ∃ j, k = 80 + j := ⟨k - 80, by omega⟩
  rcases (show j = 0 ∨ j = 1 ∨ j = 2 ∨ j = 3 ∨ j = 4 ∨ j = 5 ∨ j = 6 ∨ j = 7 ∨ j = 8 ∨ j = 9 ∨ j = 10 ∨ j = 11 ∨ j = 12 ∨ j = 13 ∨ j = 14 ∨ j = 15 ∨ j = 16 ∨ j = 17 ∨ j = 18 ∨ j = 19 by omega) with rfl | rfl | rfl | rfl | rfl | rfl | rfl | rfl | rfl | rfl | rfl | rfl | rfl | rfl | rfl | rfl | rfl | rfl | rfl | rfl
  · have e : M = xm_80 := (Option.some.inj (h.symm.trans (show xT_M (80 + 0) = some xm_80 from rfl)))
    rw [e]; exact xmk_80
  · have e : M = xm_81 := (Option.some.inj (h.symm.trans (show xT_M (80 + 1) = some xm_81 from rfl)))
    rw [e]; exact xmk_81
  · have e : M = xm_82 := (Option.some.inj (h.symm.trans (show xT_M (80 + 2) = some xm_82 from rfl)))
    rw [e]; exact xmk_82
  · have e : M = xm_83 := (Option.some.inj (h.symm.trans (show xT_M (80 + 3) = some xm_83 from rfl)))
    rw [e]; exact xmk_83
  · have e : M = xm_84 := (Option.some.inj (h.symm.trans (show xT_M (80 + 4) = some xm_84 from rfl)))
    rw [e]; exact xmk_84
  · have e : M = xm_85 := (Option.some.inj (h.symm.trans (show xT_M (80 + 5) = some xm_85 from rfl)))
    rw [e]; exact xmk_85
  · have e : M = xm_86 := (Option.some.inj (h.symm.trans (show xT_M (80 + 6) = some xm_86 from rfl)))
    rw [e]; exact xmk_86
  · have e : M = xm_87 := (Option.some.inj (h.symm.trans (show xT_M (80 + 7) = some xm_87 from rfl)))
    rw [e]; exact xmk_87
  · have e : M = xm_88 := (Option.some.inj (h.symm.trans (show xT_M (80 + 8) = some xm_88 from rfl)))
    rw [e]; exact xmk_88
  · have e : M = xm_89 := (Option.some.inj (h.symm.trans (show xT_M (80 + 9) = some xm_89 from rfl)))
    rw [e]; exact xmk_89
  · have e : M = xm_90 := (Option.some.inj (h.symm.trans (show xT_M (80 + 10) = some xm_90 from rfl)))
    rw [e]; exact xmk_90
  · have e : M = xm_91 := (Option.some.inj (h.symm.trans (show xT_M (80 + 11) = some xm_91 from rfl)))
    rw [e]; exact xmk_91
  · have e : M = xm_92 := (Option.some.inj (h.symm.trans (show xT_M (80 + 12) = some xm_92 from rfl)))
    rw [e]; exact xmk_92
  · have e : M = xm_93 := (Option.some.inj (h.symm.trans (show xT_M (80 + 13) = some xm_93 from rfl)))
    rw [e]; exact xmk_93
  · have e : M = xm_94 := (Option.some.inj (h.symm.trans (show xT_M (80 + 14) = some xm_94 from rfl)))
    rw [e]; exact xmk_94
  · have e : M = xm_95 := (Option.some.inj (h.symm.trans (show xT_M (80 + 15) = some xm_95 from rfl)))
    rw [e]; exact xmk_95
  · have e : M = xm_96 := (Option.some.inj (h.symm.trans (show xT_M (80 + 16) = some xm_96 from rfl)))
    rw [e]; exact xmk_96
  · have e : M = xm_97 := (Option.some.inj (h.symm.trans (show xT_M (80 + 17) = some xm_97 from rfl)))
    rw [e]; exact xmk_97
  · have e : M = xm_98 := (Option.some.inj (h.symm.trans (show xT_M (80 + 18) = some xm_98 from rfl)))
    rw [e]; exact xmk_98
  · have e : M = xm_99 := (Option.some.inj (h.symm.trans (show xT_M (80 + 19) = some xm_99 from rfl)))
    rw [e]; exact xmk_99
theorem xmks_100 : ∀ (k : Nat) (M : ix_M), 100 ≤ k → k < 120 → xT_M k = some M → xmkP M := by
  intro k M h1 h2 h
  obtain ⟨j, rfl⟩ : ∃ j, k = 100 + j := ⟨k - 100, by omega⟩
  rcases (show j = 0 ∨ j = 1 ∨ j = 2 ∨ j = 3 ∨ j = 4 ∨ j = 5 ∨ j = 6 ∨ j = 7 ∨ j = 8 ∨ j = 9 ∨ j = 10 ∨ j = 11 ∨ j = 12 ∨ j = 13 ∨ j = 14 ∨ j = 15 ∨ j = 16 ∨ j = 17 ∨ j = 18 ∨ j = 19 by omega) with rfl | rfl | rfl | rfl | rfl | rfl | rfl | rfl | rfl | rfl | rfl | rfl | rfl | rfl | rfl | rfl | rfl | rfl | rfl | rfl
  · have e : M = xm_100 := (Option.some.inj (h.symm.trans (show xT_M (100 + 0) = some xm_100 from rfl)))
    rw [e]; exact xmk_100
  · have e : M = xm_101 := (Option.some.inj (h.symm.trans (show xT_M (100 + 1) = some xm_101 from rfl)))
    rw [e]; exact xmk_101
  · have e : M = xm_102 := (Option.some.inj (h.symm.trans (show xT_M (100 + 2) = some xm_102 from rfl)))
    rw [e]; exact xmk_102
  · have e : M = xm_103 := (Option.some.inj (h.symm.trans (show xT_M (100 + 3) = some xm_103 from rfl)))
    rw [e]; exact xmk_103
  · have e : M = xm_104 := (Option.some.inj (h.symm.trans (show xT_M (100 + 4) = some xm_104 from rfl)))
    rw [e]; exact xmk_104
  · have e : M = xm_105 := (Option.some.inj (h.symm.trans (show xT_M (100 + 5) = some xm_105 from rfl)))
    rw [e]; exact xmk_105
  · have e : M = xm_106 := (Option.some.inj (h.symm.trans (show xT_M (100 + 6) = some xm_106 from rfl)))
    rw [e]; exact xmk_106
  · have e : M = xm_107 := (Option.some.inj (h.symm.trans (show xT_M (100 + 7) = some xm_107 from rfl)))
    rw [e]; exact xmk_107
  · have e : M = xm_108 := (Option.some.inj (h.symm.trans (show xT_M (100 + 8) = some xm_108 from rfl)))
    rw [e]; exact xmk_108
  · have e : M = xm_109 := (Option.some.inj (h.symm.trans (show xT_M (100 + 9) = some xm_109 from rfl)))
    rw [e]; exact xmk_109
  · have e : M = xm_110 := (Option.some.inj (h.symm.trans (show xT_M (100 + 10) = some xm_110 from rfl)))
    rw [e]; exact xmk_110
  · have e : M = xm_111 := (Option.some.inj (h.symm.trans (show xT_M (100 + 11) = some xm_111 from rfl)))
    rw [e]; exact xmk_111
  · have e : M = xm_112 := (Option.some.inj (h.symm.trans (show xT_M (100 + 12) = some xm_112 from rfl)))
    rw [e]; exact xmk_112
  · have e : M = xm_113 := (Option.some.inj (h.symm.trans (show xT_M (100 + 13) = some xm_113 from rfl)))
    rw [e]; exact xmk_113
  · have e : M = xm_114 := (Option.some.inj (h.symm.trans (show xT_M (100 + 14) = some xm_114 from rfl)))
    rw [e]; exact xmk_114
  · have e : M = xm_115 := (Option.some.inj (h.symm.trans (show xT_M (100 + 15) = some xm_115 from rfl)))
    rw [e]; exact xmk_115
  · have e : M = xm_116 := (Option.some.inj (h.symm.trans (show xT_M (100 + 16) = some xm_116 from rfl)))
    rw [e]; exact xmk_116
  · have e : M = xm_117 := (Option.some.inj (h.symm.trans (show xT_M (100 + 17) = some xm_117 from rfl)))
    rw [e]; exact xmk_117
  · have e : M = xm_118 := (Option.some.inj (h.symm.trans (show xT_M (100 + 18) = some xm_118 from rfl)))
    rw [e]; exact xmk_118
  · have e : M = xm_119 := (Option.some.inj (h.symm.trans (show xT_M (100 + 19) = some xm_119 from rfl)))
    rw [e]; exact xmk_119
end
