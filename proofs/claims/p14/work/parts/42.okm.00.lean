section
theorem xbf {b : Bool} {P : Prop} (e : b = false) (h : b = true) : P := by
  rw [e] at h
  cases h
noncomputable abbrev xmkP (M : ix_M) : Prop := xon M.1 = M.2.1.cls ∧ plainName M.2.1.cls = true ∧ (M.2.1.cls ≠ "java/lang/invoke/MethodHandle" ∧ M.2.1.cls ≠ "java/lang/invoke/VarHandle") ∧ Cond.code M.2.1 M.2.2.1 M.2.2.2.1 M.2.2.2.2.1 ∈ xTs ∧ Cond.initialized M.2.1.cls ∈ xTs ∧ M.2.2.2.1 ≤ 40 ∧ (M.2.2.2.2.2.1 = true → M.2.1.name = "<init>") ∧ ∀ (pc : Nat) (i : Instr), M.2.2.2.2.2.2 pc = some i → ∃ len : Nat, decode M.2.2.1 pc = .ok (i, len) ∧ (ix_len i = 0 ∨ ix_len i = len)
theorem xcw_0 : plainName "PacketWall" = true ∧ ("PacketWall" ≠ "java/lang/invoke/MethodHandle" ∧ "PacketWall" ≠ "java/lang/invoke/VarHandle") ∧ Cond.initialized "PacketWall" ∈ xTs := ⟨by decide +kernel, ⟨by decide +kernel, by decide +kernel⟩, xat_ok (q := some (1, 1)) (by decide +kernel) rfl⟩
theorem xcw_1 : plainName "PacketWall$Flow" = true ∧ ("PacketWall$Flow" ≠ "java/lang/invoke/MethodHandle" ∧ "PacketWall$Flow" ≠ "java/lang/invoke/VarHandle") ∧ Cond.initialized "PacketWall$Flow" ∈ xTs := ⟨by decide +kernel, ⟨by decide +kernel, by decide +kernel⟩, xat_ok (q := some (1, 6)) (by decide +kernel) rfl⟩
theorem xcw_2 : plainName "PacketWall$Flows" = true ∧ ("PacketWall$Flows" ≠ "java/lang/invoke/MethodHandle" ∧ "PacketWall$Flows" ≠ "java/lang/invoke/VarHandle") ∧ Cond.initialized "PacketWall$Flows" ∈ xTs := ⟨by decide +kernel, ⟨by decide +kernel, by decide +kernel⟩, xat_ok (q := some (1, 5)) (by decide +kernel) rfl⟩
theorem xcw_3 : plainName "PacketWall$Frame" = true ∧ ("PacketWall$Frame" ≠ "java/lang/invoke/MethodHandle" ∧ "PacketWall$Frame" ≠ "java/lang/invoke/VarHandle") ∧ Cond.initialized "PacketWall$Frame" ∈ xTs := ⟨by decide +kernel, ⟨by decide +kernel, by decide +kernel⟩, xat_ok (q := some (1, 12)) (by decide +kernel) rfl⟩
theorem xcw_4 : plainName "PacketWall$Gathering" = true ∧ ("PacketWall$Gathering" ≠ "java/lang/invoke/MethodHandle" ∧ "PacketWall$Gathering" ≠ "java/lang/invoke/VarHandle") ∧ Cond.initialized "PacketWall$Gathering" ∈ xTs := ⟨by decide +kernel, ⟨by decide +kernel, by decide +kernel⟩, xat_ok (q := some (1, 4)) (by decide +kernel) rfl⟩
theorem xcw_5 : plainName "PacketWall$Headers" = true ∧ ("PacketWall$Headers" ≠ "java/lang/invoke/MethodHandle" ∧ "PacketWall$Headers" ≠ "java/lang/invoke/VarHandle") ∧ Cond.initialized "PacketWall$Headers" ∈ xTs := ⟨by decide +kernel, ⟨by decide +kernel, by decide +kernel⟩, xat_ok (q := some (1, 2)) (by decide +kernel) rfl⟩
theorem xcw_6 : plainName "PacketWall$Machine" = true ∧ ("PacketWall$Machine" ≠ "java/lang/invoke/MethodHandle" ∧ "PacketWall$Machine" ≠ "java/lang/invoke/VarHandle") ∧ Cond.initialized "PacketWall$Machine" ∈ xTs := ⟨by decide +kernel, ⟨by decide +kernel, by decide +kernel⟩, xat_ok (q := some (1, 9)) (by decide +kernel) rfl⟩
theorem xcw_7 : plainName "PacketWall$Memory" = true ∧ ("PacketWall$Memory" ≠ "java/lang/invoke/MethodHandle" ∧ "PacketWall$Memory" ≠ "java/lang/invoke/VarHandle") ∧ Cond.initialized "PacketWall$Memory" ∈ xTs := ⟨by decide +kernel, ⟨by decide +kernel, by decide +kernel⟩, xat_ok (q := some (1, 10)) (by decide +kernel) rfl⟩
theorem xcw_8 : plainName "PacketWall$Packet" = true ∧ ("PacketWall$Packet" ≠ "java/lang/invoke/MethodHandle" ∧ "PacketWall$Packet" ≠ "java/lang/invoke/VarHandle") ∧ Cond.initialized "PacketWall$Packet" ∈ xTs := ⟨by decide +kernel, ⟨by decide +kernel, by decide +kernel⟩, xat_ok (q := some (1, 3)) (by decide +kernel) rfl⟩
theorem xcw_9 : plainName "PacketWall$Parser" = true ∧ ("PacketWall$Parser" ≠ "java/lang/invoke/MethodHandle" ∧ "PacketWall$Parser" ≠ "java/lang/invoke/VarHandle") ∧ Cond.initialized "PacketWall$Parser" ∈ xTs := ⟨by decide +kernel, ⟨by decide +kernel, by decide +kernel⟩, xat_ok (q := some (1, 7)) (by decide +kernel) rfl⟩
theorem xcw_10 : plainName "PacketWall$Program" = true ∧ ("PacketWall$Program" ≠ "java/lang/invoke/MethodHandle" ∧ "PacketWall$Program" ≠ "java/lang/invoke/VarHandle") ∧ Cond.initialized "PacketWall$Program" ∈ xTs := ⟨by decide +kernel, ⟨by decide +kernel, by decide +kernel⟩, xat_ok (q := some (1, 8)) (by decide +kernel) rfl⟩
theorem xcw_11 : plainName "PacketWall$Row" = true ∧ ("PacketWall$Row" ≠ "java/lang/invoke/MethodHandle" ∧ "PacketWall$Row" ≠ "java/lang/invoke/VarHandle") ∧ Cond.initialized "PacketWall$Row" ∈ xTs := ⟨by decide +kernel, ⟨by decide +kernel, by decide +kernel⟩, xat_ok (q := some (1, 11)) (by decide +kernel) rfl⟩
theorem xcw_12 : plainName "PacketWallModel" = true ∧ ("PacketWallModel" ≠ "java/lang/invoke/MethodHandle" ∧ "PacketWallModel" ≠ "java/lang/invoke/VarHandle") ∧ Cond.initialized "PacketWallModel" ∈ xTs := ⟨by decide +kernel, ⟨by decide +kernel, by decide +kernel⟩, xat_ok (q := some (1, 13)) (by decide +kernel) rfl⟩
theorem xcw_13 : plainName "java/lang/String" = true ∧ ("java/lang/String" ≠ "java/lang/invoke/MethodHandle" ∧ "java/lang/String" ≠ "java/lang/invoke/VarHandle") ∧ Cond.initialized "java/lang/String" ∈ xTs := ⟨by decide +kernel, ⟨by decide +kernel, by decide +kernel⟩, xat_ok (q := some (1, 16)) (by decide +kernel) rfl⟩
theorem xcw_14 : plainName "java/lang/StringLatin1" = true ∧ ("java/lang/StringLatin1" ≠ "java/lang/invoke/MethodHandle" ∧ "java/lang/StringLatin1" ≠ "java/lang/invoke/VarHandle") ∧ Cond.initialized "java/lang/StringLatin1" ∈ xTs := ⟨by decide +kernel, ⟨by decide +kernel, by decide +kernel⟩, xat_ok (q := some (1, 17)) (by decide +kernel) rfl⟩
theorem xcw_15 : plainName "jdk/internal/util/Preconditions" = true ∧ ("jdk/internal/util/Preconditions" ≠ "java/lang/invoke/MethodHandle" ∧ "jdk/internal/util/Preconditions" ≠ "java/lang/invoke/VarHandle") ∧ Cond.initialized "jdk/internal/util/Preconditions" ∈ xTs := ⟨by decide +kernel, ⟨by decide +kernel, by decide +kernel⟩, xat_ok (q := some (1, 18)) (by decide +kernel) rfl⟩
theorem xmk_0 : xmkP xm_0 :=
  ⟨rfl, xcw_0.1, xcw_0.2.1, xTs_at (k := 1) (i := 25) rfl rfl, xcw_0.2.2, Nat.le_of_ble_eq_true rfl, fun _ => rfl, ix_cd_ok xc_0_ok (xg_no _ _)⟩
theorem xmk_1 : xmkP xm_1 :=
  ⟨rfl, xcw_0.1, xcw_0.2.1, xTs_at (k := 3) (i := 70) rfl rfl, xcw_0.2.2, Nat.le_of_ble_eq_true rfl, xbf rfl, ix_cd_ok xc_1_ok (xg_no _ _)⟩
theorem xmk_2 : xmkP xm_2 :=
  ⟨rfl, xcw_0.1, xcw_0.2.1, xTs_at (k := 3) (i := 81) rfl rfl, xcw_0.2.2, Nat.le_of_ble_eq_true rfl, xbf rfl, ix_cd_ok xc_2_ok (xg_no _ _)⟩
theorem xmk_3 : xmkP xm_3 :=
  ⟨rfl, xcw_0.1, xcw_0.2.1, xTs_at (k := 3) (i := 85) rfl rfl, xcw_0.2.2, Nat.le_of_ble_eq_true rfl, xbf rfl, ix_cd_ok xc_3_ok (xg_no _ _)⟩
theorem xmk_4 : xmkP xm_4 :=
  ⟨rfl, xcw_0.1, xcw_0.2.1, xTs_at (k := 3) (i := 92) rfl rfl, xcw_0.2.2, Nat.le_of_ble_eq_true rfl, xbf rfl, ix_cd_ok xc_4_ok (xg_no _ _)⟩
theorem xmk_5 : xmkP xm_5 :=
  ⟨rfl, xcw_0.1, xcw_0.2.1, xTs_at (k := 3) (i := 100) rfl rfl, xcw_0.2.2, Nat.le_of_ble_eq_true rfl, xbf rfl, ix_cd_ok xc_5_ok (xg_no _ _)⟩
theorem xmk_6 : xmkP xm_6 :=
  ⟨rfl, xcw_0.1, xcw_0.2.1, xTs_at (k := 3) (i := 116) rfl rfl, xcw_0.2.2, Nat.le_of_ble_eq_true rfl, xbf rfl, ix_cd_ok xc_6_ok (xg_no _ _)⟩
theorem xmk_7 : xmkP xm_7 :=
  ⟨rfl, xcw_0.1, xcw_0.2.1, xTs_at (k := 3) (i := 189) rfl rfl, xcw_0.2.2, Nat.le_of_ble_eq_true rfl, xbf rfl, ix_cd_ok xc_7_ok (xg_no _ _)⟩
theorem xmk_8 : xmkP xm_8 :=
  ⟨rfl, xcw_0.1, xcw_0.2.1, xTs_at (k := 3) (i := 193) rfl rfl, xcw_0.2.2, Nat.le_of_ble_eq_true rfl, xbf rfl, ix_cd_ok xc_8_ok (xg_no _ _)⟩
theorem xmk_9 : xmkP xm_9 :=
  ⟨rfl, xcw_0.1, xcw_0.2.1, xTs_at (k := 3) (i := 198) rfl rfl, xcw_0.2.2, Nat.le_of_ble_eq_true rfl, xbf rfl, ix_cd_ok xc_9_ok (xg_no _ _)⟩
theorem xmk_10 : xmkP xm_10 :=
  ⟨rfl, xcw_0.1, xcw_0.2.1, xTs_at (k := 3) (i := 218) rfl rfl, xcw_0.2.2, Nat.le_of_ble_eq_true rfl, xbf rfl, ix_cd_ok xc_10_ok (xg_no _ _)⟩
theorem xmk_11 : xmkP xm_11 :=
  ⟨rfl, xcw_0.1, xcw_0.2.1, xTs_at (k := 3) (i := 226) rfl rfl, xcw_0.2.2, Nat.le_of_ble_eq_true rfl, xbf rfl, ix_cd_ok xc_11_ok (xg_no _ _)⟩
theorem xmk_12 : xmkP xm_12 :=
  ⟨rfl, xcw_0.1, xcw_0.2.1, xTs_at (k := 3) (i := 233) rfl rfl, xcw_0.2.2, Nat.le_of_ble_eq_true rfl, xbf rfl, ix_cd_ok xc_12_ok (xg_no _ _)⟩
theorem xmk_13 : xmkP xm_13 :=
  ⟨rfl, xcw_0.1, xcw_0.2.1, xTs_at (k := 4) (i := 32) rfl rfl, xcw_0.2.2, Nat.le_of_ble_eq_true rfl, xbf rfl, ix_cd_ok xc_13_ok (xg_no _ _)⟩
theorem xmk_14 : xmkP xm_14 :=
  ⟨rfl, xcw_0.1, xcw_0.2.1, xTs_at (k := 4) (i := 42) rfl rfl, xcw_0.2.2, Nat.le_of_ble_eq_true rfl, xbf rfl, ix_cd_ok xc_14_ok (xg_no _ _)⟩
theorem xmk_15 : xmkP xm_15 :=
  ⟨rfl, xcw_0.1, xcw_0.2.1, xTs_at (k := 4) (i := 46) rfl rfl, xcw_0.2.2, Nat.le_of_ble_eq_true rfl, xbf rfl, ix_cd_ok xc_15_ok (xg_no _ _)⟩
theorem xmk_16 : xmkP xm_16 :=
  ⟨rfl, xcw_0.1, xcw_0.2.1, xTs_at (k := 4) (i := 52) rfl rfl, xcw_0.2.2, Nat.le_of_ble_eq_true rfl, xbf rfl, ix_cd_ok xc_16_ok (xg_no _ _)⟩
theorem xmk_17 : xmkP xm_17 :=
  ⟨rfl, xcw_0.1, xcw_0.2.1, xTs_at (k := 4) (i := 167) rfl rfl, xcw_0.2.2, Nat.le_of_ble_eq_true rfl, xbf rfl, ix_cd_ok xc_17_ok (xg_no _ _)⟩
theorem xmk_18 : xmkP xm_18 :=
  ⟨rfl, xcw_0.1, xcw_0.2.1, xTs_at (k := 4) (i := 171) rfl rfl, xcw_0.2.2, Nat.le_of_ble_eq_true rfl, xbf rfl, ix_cd_ok xc_18_ok (xg_no _ _)⟩
theorem xmk_19 : xmkP xm_19 :=
  ⟨rfl, xcw_0.1, xcw_0.2.1, xTs_at (k := 4) (i := 184) rfl rfl, xcw_0.2.2, Nat.le_of_ble_eq_true rfl, xbf rfl, ix_cd_ok xc_19_ok (xg_no _ _)⟩
theorem xmk_20 : xmkP xm_20 :=
  ⟨rfl, xcw_0.1, xcw_0.2.1, xTs_at (k := 5) (i := 26) rfl rfl, xcw_0.2.2, Nat.le_of_ble_eq_true rfl, xbf rfl, ix_cd_ok xc_20_ok (xg_no _ _)⟩
theorem xmk_21 : xmkP xm_21 :=
  ⟨rfl, xcw_0.1, xcw_0.2.1, xTs_at (k := 5) (i := 38) rfl rfl, xcw_0.2.2, Nat.le_of_ble_eq_true rfl, xbf rfl, ix_cd_ok xc_21_ok (xg_no _ _)⟩
theorem xmk_22 : xmkP xm_22 :=
  ⟨rfl, xcw_0.1, xcw_0.2.1, xTs_at (k := 5) (i := 47) rfl rfl, xcw_0.2.2, Nat.le_of_ble_eq_true rfl, xbf rfl, ix_cd_ok xc_22_ok (xg_no _ _)⟩
theorem xmk_23 : xmkP xm_23 :=
  ⟨rfl, xcw_0.1, xcw_0.2.1, xTs_at (k := 5) (i := 51) rfl rfl, xcw_0.2.2, Nat.le_of_ble_eq_true rfl, xbf rfl, ix_cd_ok xc_23_ok (xg_no _ _)⟩
theorem xmk_24 : xmkP xm_24 :=
  ⟨rfl, xcw_0.1, xcw_0.2.1, xTs_at (k := 5) (i := 61) rfl rfl, xcw_0.2.2, Nat.le_of_ble_eq_true rfl, xbf rfl, ix_cd_ok xc_24_ok (xg_no _ _)⟩
theorem xmk_25 : xmkP xm_25 :=
  ⟨rfl, xcw_0.1, xcw_0.2.1, xTs_at (k := 5) (i := 73) rfl rfl, xcw_0.2.2, Nat.le_of_ble_eq_true rfl, xbf rfl, ix_cd_ok xc_25_ok (xg_no _ _)⟩
theorem xmk_26 : xmkP xm_26 :=
  ⟨rfl, xcw_0.1, xcw_0.2.1, xTs_at (k := 5) (i := 84) rfl rfl, xcw_0.2.2, Nat.le_of_ble_eq_true rfl, xbf rfl, ix_cd_ok xc_26_ok (xg_no _ _)⟩
theorem xmk_27 : xmkP xm_27 :=
  ⟨rfl, xcw_0.1, xcw_0.2.1, xTs_at (k := 6) (i := 108) rfl rfl, xcw_0.2.2, Nat.le_of_ble_eq_true rfl, xbf rfl, ix_cd_ok xc_27_ok (xg_no _ _)⟩
theorem xmk_28 : xmkP xm_28 :=
  ⟨rfl, xcw_0.1, xcw_0.2.1, xTs_at (k := 6) (i := 112) rfl rfl, xcw_0.2.2, Nat.le_of_ble_eq_true rfl, xbf rfl, ix_cd_ok xc_28_ok (xg_no _ _)⟩
theorem xmk_29 : xmkP xm_29 :=
  ⟨rfl, xcw_0.1, xcw_0.2.1, xTs_at (k := 7) (i := 135) rfl rfl, xcw_0.2.2, Nat.le_of_ble_eq_true rfl, xbf rfl, ix_cd_ok xc_29_ok (xg_no _ _)⟩
theorem xmk_30 : xmkP xm_30 :=
  ⟨rfl, xcw_0.1, xcw_0.2.1, xTs_at (k := 7) (i := 143) rfl rfl, xcw_0.2.2, Nat.le_of_ble_eq_true rfl, xbf rfl, ix_cd_ok xc_30_ok (xg_no _ _)⟩
theorem xmk_31 : xmkP xm_31 :=
  ⟨rfl, xcw_0.1, xcw_0.2.1, xTs_at (k := 7) (i := 147) rfl rfl, xcw_0.2.2, Nat.le_of_ble_eq_true rfl, xbf rfl, ix_cd_ok xc_31_ok (xg_no _ _)⟩
theorem xmk_32 : xmkP xm_32 :=
  ⟨rfl, xcw_0.1, xcw_0.2.1, xTs_at (k := 7) (i := 156) rfl rfl, xcw_0.2.2, Nat.le_of_ble_eq_true rfl, xbf rfl, ix_cd_ok xc_32_ok (xg_no _ _)⟩
theorem xmk_33 : xmkP xm_33 :=
  ⟨rfl, xcw_0.1, xcw_0.2.1, xTs_at (k := 7) (i := 164) rfl rfl, xcw_0.2.2, Nat.le_of_ble_eq_true rfl, xbf rfl, ix_cd_ok xc_33_ok (xg_no _ _)⟩
theorem xmk_34 : xmkP xm_34 :=
  ⟨rfl, xcw_0.1, xcw_0.2.1, xTs_at (k := 7) (i := 168) rfl rfl, xcw_0.2.2, Nat.le_of_ble_eq_true rfl, xbf rfl, ix_cd_ok xc_34_ok (xg_no _ _)⟩
theorem xmk_35 : xmkP xm_35 :=
  ⟨rfl, xcw_0.1, xcw_0.2.1, xTs_at (k := 7) (i := 172) rfl rfl, xcw_0.2.2, Nat.le_of_ble_eq_true rfl, xbf rfl, ix_cd_ok xc_35_ok (xg_no _ _)⟩
theorem xmk_36 : xmkP xm_36 :=
  ⟨rfl, xcw_0.1, xcw_0.2.1, xTs_at (k := 7) (i := 178) rfl rfl, xcw_0.2.2, Nat.le_of_ble_eq_true rfl, xbf rfl, ix_cd_ok xc_36_ok (xg_no _ _)⟩
theorem xmk_37 : xmkP xm_37 :=
  ⟨rfl, xcw_0.1, xcw_0.2.1, xTs_at (k := 7) (i := 182) rfl rfl, xcw_0.2.2, Nat.le_of_ble_eq_true rfl, xbf rfl, ix_cd_ok xc_37_ok (xg_no _ _)⟩
theorem xmk_38 : xmkP xm_38 :=
  ⟨rfl, xcw_0.1, xcw_0.2.1, xTs_at (k := 7) (i := 197) rfl rfl, xcw_0.2.2, Nat.le_of_ble_eq_true rfl, xbf rfl, ix_cd_ok xc_38_ok (xg_no _ _)⟩
theorem xmk_39 : xmkP xm_39 :=
  ⟨rfl, xcw_0.1, xcw_0.2.1, xTs_at (k := 7) (i := 226) rfl rfl, xcw_0.2.2, Nat.le_of_ble_eq_true rfl, xbf rfl, ix_cd_ok xc_39_ok (xg_no _ _)⟩
theorem xmk_40 : xmkP xm_40 :=
  ⟨rfl, xcw_0.1, xcw_0.2.1, xTs_at (k := 7) (i := 230) rfl rfl, xcw_0.2.2, Nat.le_of_ble_eq_true rfl, xbf rfl, ix_cd_ok xc_40_ok (xg_no _ _)⟩
theorem xmk_41 : xmkP xm_41 :=
  ⟨rfl, xcw_0.1, xcw_0.2.1, xTs_at (k := 3) (i := 74) rfl rfl, xcw_0.2.2, Nat.le_of_ble_eq_true rfl, xbf rfl, ix_cd_ok xc_41_ok (xg_no _ _)⟩
theorem xmk_42 : xmkP xm_42 :=
  ⟨rfl, xcw_0.1, xcw_0.2.1, xTs_at (k := 3) (i := 104) rfl rfl, xcw_0.2.2, Nat.le_of_ble_eq_true rfl, xbf rfl, ix_cd_ok xc_42_ok (xg_no _ _)⟩
theorem xmk_43 : xmkP xm_43 :=
  ⟨rfl, xcw_0.1, xcw_0.2.1, xTs_at (k := 7) (i := 234) rfl rfl, xcw_0.2.2, Nat.le_of_ble_eq_true rfl, xbf rfl, ix_cd_ok xc_43_ok (xg_no _ _)⟩
theorem xmk_44 : xmkP xm_44 :=
  ⟨rfl, xcw_0.1, xcw_0.2.1, xTs_at (k := 7) (i := 238) rfl rfl, xcw_0.2.2, Nat.le_of_ble_eq_true rfl, xbf rfl, ix_cd_ok xc_44_ok (xg_no _ _)⟩
theorem xmk_45 : xmkP xm_45 :=
  ⟨rfl, xcw_0.1, xcw_0.2.1, xTs_at (k := 4) (i := 88) rfl rfl, xcw_0.2.2, Nat.le_of_ble_eq_true rfl, xbf rfl, ix_cd_ok xc_45_ok (xg_no _ _)⟩
theorem xmk_46 : xmkP xm_46 :=
  ⟨rfl, xcw_0.1, xcw_0.2.1, xTs_at (k := 4) (i := 106) rfl rfl, xcw_0.2.2, Nat.le_of_ble_eq_true rfl, xbf rfl, ix_cd_ok xc_46_ok (xg_no _ _)⟩
theorem xmk_47 : xmkP xm_47 :=
  ⟨rfl, xcw_0.1, xcw_0.2.1, xTs_at (k := 4) (i := 96) rfl rfl, xcw_0.2.2, Nat.le_of_ble_eq_true rfl, xbf rfl, ix_cd_ok xc_47_ok (xg_no _ _)⟩
theorem xmk_48 : xmkP xm_48 :=
  ⟨rfl, xcw_0.1, xcw_0.2.1, xTs_at (k := 4) (i := 147) rfl rfl, xcw_0.2.2, Nat.le_of_ble_eq_true rfl, xbf rfl, ix_cd_ok xc_48_ok (xg_no _ _)⟩
theorem xmk_49 : xmkP xm_49 :=
  ⟨rfl, xcw_0.1, xcw_0.2.1, xTs_at (k := 4) (i := 179) rfl rfl, xcw_0.2.2, Nat.le_of_ble_eq_true rfl, xbf rfl, ix_cd_ok xc_49_ok (xg_no _ _)⟩
theorem xmk_50 : xmkP xm_50 :=
  ⟨rfl, xcw_0.1, xcw_0.2.1, xTs_at (k := 3) (i := 140) rfl rfl, xcw_0.2.2, Nat.le_of_ble_eq_true rfl, xbf rfl, ix_cd_ok xc_50_ok (xg_no _ _)⟩
theorem xmk_51 : xmkP xm_51 :=
  ⟨rfl, xcw_0.1, xcw_0.2.1, xTs_at (k := 3) (i := 229) rfl rfl, xcw_0.2.2, Nat.le_of_ble_eq_true rfl, xbf rfl, ix_cd_ok xc_51_ok (xg_no _ _)⟩
theorem xmk_52 : xmkP xm_52 :=
  ⟨rfl, xcw_0.1, xcw_0.2.1, xTs_at (k := 3) (i := 166) rfl rfl, xcw_0.2.2, Nat.le_of_ble_eq_true rfl, xbf rfl, ix_cd_ok xc_52_ok (xg_no _ _)⟩
theorem xmk_53 : xmkP xm_53 :=
  ⟨rfl, xcw_0.1, xcw_0.2.1, xTs_at (k := 3) (i := 77) rfl rfl, xcw_0.2.2, Nat.le_of_ble_eq_true rfl, xbf rfl, ix_cd_ok xc_53_ok (xg_no _ _)⟩
theorem xmk_54 : xmkP xm_54 :=
  ⟨rfl, xcw_0.1, xcw_0.2.1, xTs_at (k := 4) (i := 9) rfl rfl, xcw_0.2.2, Nat.le_of_ble_eq_true rfl, xbf rfl, ix_cd_ok xc_54_ok (xg_no _ _)⟩
theorem xmk_55 : xmkP xm_55 :=
  ⟨rfl, xcw_0.1, xcw_0.2.1, xTs_at (k := 4) (i := 24) rfl rfl, xcw_0.2.2, Nat.le_of_ble_eq_true rfl, xbf rfl, ix_cd_ok xc_55_ok (xg_no _ _)⟩
theorem xmk_56 : xmkP xm_56 :=
  ⟨rfl, xcw_1.1, xcw_1.2.1, xTs_at (k := 1) (i := 164) rfl rfl, xcw_1.2.2, Nat.le_of_ble_eq_true rfl, fun _ => rfl, ix_cd_ok xc_56_ok (xg_no _ _)⟩
theorem xmk_57 : xmkP xm_57 :=
  ⟨rfl, xcw_1.1, xcw_1.2.1, xTs_at (k := 4) (i := 209) rfl rfl, xcw_1.2.2, Nat.le_of_ble_eq_true rfl, xbf rfl, ix_cd_ok xc_57_ok (xg_no _ _)⟩
theorem xmk_58 : xmkP xm_58 :=
  ⟨rfl, xcw_1.1, xcw_1.2.1, xTs_at (k := 4) (i := 235) rfl rfl, xcw_1.2.2, Nat.le_of_ble_eq_true rfl, xbf rfl, ix_cd_ok xc_58_ok (xg_no _ _)⟩
theorem xmk_59 : xmkP xm_59 :=
  ⟨rfl, xcw_1.1, xcw_1.2.1, xTs_at (k := 4) (i := 239) rfl rfl, xcw_1.2.2, Nat.le_of_ble_eq_true rfl, xbf rfl, ix_cd_ok xc_59_ok (xg_no _ _)⟩
theorem xmk_60 : xmkP xm_60 :=
  ⟨rfl, xcw_1.1, xcw_1.2.1, xTs_at (k := 4) (i := 220) rfl rfl, xcw_1.2.2, Nat.le_of_ble_eq_true rfl, xbf rfl, ix_cd_ok xc_60_ok (xg_no _ _)⟩
theorem xmk_61 : xmkP xm_61 :=
  ⟨rfl, xcw_1.1, xcw_1.2.1, xTs_at (k := 5) (i := 3) rfl rfl, xcw_1.2.2, Nat.le_of_ble_eq_true rfl, xbf rfl, ix_cd_ok xc_61_ok (xg_no _ _)⟩
theorem xmk_62 : xmkP xm_62 :=
  ⟨rfl, xcw_1.1, xcw_1.2.1, xTs_at (k := 5) (i := 34) rfl rfl, xcw_1.2.2, Nat.le_of_ble_eq_true rfl, xbf rfl, ix_cd_ok xc_62_ok (xg_no _ _)⟩
theorem xmk_63 : xmkP xm_63 :=
  ⟨rfl, xcw_1.1, xcw_1.2.1, xTs_at (k := 5) (i := 42) rfl rfl, xcw_1.2.2, Nat.le_of_ble_eq_true rfl, xbf rfl, ix_cd_ok xc_63_ok (xg_no _ _)⟩
theorem xmk_64 : xmkP xm_64 :=
  ⟨rfl, xcw_1.1, xcw_1.2.1, xTs_at (k := 7) (i := 190) rfl rfl, xcw_1.2.2, Nat.le_of_ble_eq_true rfl, xbf rfl, ix_cd_ok xc_64_ok (xg_no _ _)⟩
theorem xmk_65 : xmkP xm_65 :=
  ⟨rfl, xcw_1.1, xcw_1.2.1, xTs_at (k := 7) (i := 205) rfl rfl, xcw_1.2.2, Nat.le_of_ble_eq_true rfl, xbf rfl, ix_cd_ok xc_65_ok (xg_no _ _)⟩
theorem xmk_66 : xmkP xm_66 :=
  ⟨rfl, xcw_1.1, xcw_1.2.1, xTs_at (k := 4) (i := 223) rfl rfl, xcw_1.2.2, Nat.le_of_ble_eq_true rfl, xbf rfl, ix_cd_ok xc_66_ok (xg_no _ _)⟩
theorem xmk_67 : xmkP xm_67 :=
  ⟨rfl, xcw_1.1, xcw_1.2.1, xTs_at (k := 7) (i := 214) rfl rfl, xcw_1.2.2, Nat.le_of_ble_eq_true rfl, xbf rfl, ix_cd_ok xc_67_ok (xg_no _ _)⟩
theorem xmk_68 : xmkP xm_68 :=
  ⟨rfl, xcw_1.1, xcw_1.2.1, xTs_at (k := 7) (i := 218) rfl rfl, xcw_1.2.2, Nat.le_of_ble_eq_true rfl, xbf rfl, ix_cd_ok xc_68_ok (xg_no _ _)⟩
theorem xmk_69 : xmkP xm_69 :=
  ⟨rfl, xcw_1.1, xcw_1.2.1, xTs_at (k := 5) (i := 20) rfl rfl, xcw_1.2.2, Nat.le_of_ble_eq_true rfl, xbf rfl, ix_cd_ok xc_69_ok (xg_no _ _)⟩
theorem xmk_70 : xmkP xm_70 :=
  ⟨rfl, xcw_1.1, xcw_1.2.1, xTs_at (k := 4) (i := 230) rfl rfl, xcw_1.2.2, Nat.le_of_ble_eq_true rfl, xbf rfl, ix_cd_ok xc_70_ok (xg_no _ _)⟩
theorem xmk_71 : xmkP xm_71 :=
  ⟨rfl, xcw_1.1, xcw_1.2.1, xTs_at (k := 5) (i := 7) rfl rfl, xcw_1.2.2, Nat.le_of_ble_eq_true rfl, xbf rfl, ix_cd_ok xc_71_ok (xg_no _ _)⟩
theorem xmk_72 : xmkP xm_72 :=
  ⟨rfl, xcw_1.1, xcw_1.2.1, xTs_at (k := 5) (i := 15) rfl rfl, xcw_1.2.2, Nat.le_of_ble_eq_true rfl, xbf rfl, ix_cd_ok xc_72_ok (xg_no _ _)⟩
theorem xmk_73 : xmkP xm_73 :=
  ⟨rfl, xcw_2.1, xcw_2.2.1, xTs_at (k := 1) (i := 157) rfl rfl, xcw_2.2.2, Nat.le_of_ble_eq_true rfl, fun _ => rfl, ix_cd_ok xc_73_ok (xg_no _ _)⟩
theorem xmk_74 : xmkP xm_74 :=
  ⟨rfl, xcw_2.1, xcw_2.2.1, xTs_at (k := 5) (i := 30) rfl rfl, xcw_2.2.2, Nat.le_of_ble_eq_true rfl, xbf rfl, ix_cd_ok xc_74_ok (xg_no _ _)⟩
theorem xmk_75 : xmkP xm_75 :=
  ⟨rfl, xcw_2.1, xcw_2.2.1, xTs_at (k := 8) (i := 2) rfl rfl, xcw_2.2.2, Nat.le_of_ble_eq_true rfl, xbf rfl, ix_cd_ok xc_75_ok (xg_no _ _)⟩
theorem xmk_76 : xmkP xm_76 :=
  ⟨rfl, xcw_2.1, xcw_2.2.1, xTs_at (k := 4) (i := 175) rfl rfl, xcw_2.2.2, Nat.le_of_ble_eq_true rfl, xbf rfl, ix_cd_ok xc_76_ok (xg_no _ _)⟩
theorem xmk_77 : xmkP xm_77 :=
  ⟨rfl, xcw_2.1, xcw_2.2.1, xTs_at (k := 6) (i := 124) rfl rfl, xcw_2.2.2, Nat.le_of_ble_eq_true rfl, xbf rfl, ix_cd_ok xc_77_ok (xg_no _ _)⟩
theorem xmk_78 : xmkP xm_78 :=
  ⟨rfl, xcw_2.1, xcw_2.2.1, xTs_at (k := 6) (i := 120) rfl rfl, xcw_2.2.2, Nat.le_of_ble_eq_true rfl, xbf rfl, ix_cd_ok xc_78_ok (xg_no _ _)⟩
theorem xmk_79 : xmkP xm_79 :=
  ⟨rfl, xcw_2.1, xcw_2.2.1, xTs_at (k := 4) (i := 188) rfl rfl, xcw_2.2.2, Nat.le_of_ble_eq_true rfl, xbf rfl, ix_cd_ok xc_79_ok (xg_no _ _)⟩
theorem xmk_80 : xmkP xm_80 :=
  ⟨rfl, xcw_2.1, xcw_2.2.1, xTs_at (k := 5) (i := 56) rfl rfl, xcw_2.2.2, Nat.le_of_ble_eq_true rfl, xbf rfl, ix_cd_ok xc_80_ok (xg_no _ _)⟩
theorem xmk_81 : xmkP xm_81 :=
  ⟨rfl, xcw_2.1, xcw_2.2.1, xTs_at (k := 5) (i := 65) rfl rfl, xcw_2.2.2, Nat.le_of_ble_eq_true rfl, xbf rfl, ix_cd_ok xc_81_ok (xg_no _ _)⟩
theorem xmk_82 : xmkP xm_82 :=
  ⟨rfl, xcw_2.1, xcw_2.2.1, xTs_at (k := 5) (i := 77) rfl rfl, xcw_2.2.2, Nat.le_of_ble_eq_true rfl, xbf rfl, ix_cd_ok xc_82_ok (xg_no _ _)⟩
end
