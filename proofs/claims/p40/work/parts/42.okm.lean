section
theorem xbf {b : Bool} {P : Prop} (e : b = false) (h : b = true) : P := by
  rw [e] at h
  cases h
noncomputable abbrev xmkP (M : ix_M) : Prop := xon M.1 = M.2.1.cls ∧ plainName M.2.1.cls = true ∧ (M.2.1.cls ≠ "java/lang/invoke/MethodHandle" ∧ M.2.1.cls ≠ "java/lang/invoke/VarHandle") ∧ Cond.code M.2.1 M.2.2.1 M.2.2.2.1 M.2.2.2.2.1 ∈ xTs ∧ Cond.initialized M.2.1.cls ∈ xTs ∧ M.2.2.2.1 ≤ 40 ∧ (M.2.2.2.2.2.1 = true → M.2.1.name = "<init>") ∧ ∀ (pc : Nat) (i : Instr), M.2.2.2.2.2.2 pc = some i → ∃ len : Nat, decode M.2.2.1 pc = .ok (i, len) ∧ (ix_len i = 0 ∨ ix_len i = len)
theorem xcw_0 : plainName "PacketWall" = true ∧ ("PacketWall" ≠ "java/lang/invoke/MethodHandle" ∧ "PacketWall" ≠ "java/lang/invoke/VarHandle") ∧ Cond.initialized "PacketWall" ∈ xTs := ⟨by decide +kernel, ⟨by decide +kernel, by decide +kernel⟩, xat_ok (q := some (1, 1)) (by decide +kernel) rfl⟩
theorem xcw_1 : plainName "PacketWall$Flow" = true ∧ ("PacketWall$Flow" ≠ "java/lang/invoke/MethodHandle" ∧ "PacketWall$Flow" ≠ "java/lang/invoke/VarHandle") ∧ Cond.initialized "PacketWall$Flow" ∈ xTs := ⟨by decide +kernel, ⟨by decide +kernel, by decide +kernel⟩, xat_ok (q := some (1, 6)) (by decide +kernel) rfl⟩
theorem xcw_2 : plainName "PacketWall$Flows" = true ∧ ("PacketWall$Flows" ≠ "java/lang/invoke/MethodHandle" ∧ "PacketWall$Flows" ≠ "java/lang/invoke/VarHandle") ∧ Cond.initialized "PacketWall$Flows" ∈ xTs := ⟨by decide +kernel, ⟨by decide +kernel, by decide +kernel⟩, xat_ok (q := some (1, 5)) (by decide +kernel) rfl⟩
theorem xcw_3 : plainName "PacketWall$Frame" = true ∧ ("PacketWall$Frame" ≠ "java/lang/invoke/MethodHandle" ∧ "PacketWall$Frame" ≠ "java/lang/invoke/VarHandle") ∧ Cond.initialized "PacketWall$Frame" ∈ xTs := ⟨by decide +kernel, ⟨by decide +kernel, by decide +kernel⟩, xat_ok (q := some (1, 12)) (by decide +kernel) rfl⟩
theorem xcw_4 : plainName "PacketWall$Gathering" = true ∧ ("PacketWall$Gathering" ≠ "java/lang/invoke/MethodHandle" ∧ "PacketWall$Gathering" ≠ "java/lang/invoke/VarHandle") ∧ Cond.initialized "PacketWall$Gathering" ∈ xTs := ⟨by decide +kernel, ⟨by decide +kernel, by decide +kernel⟩, xat_ok (q := some (1, 4)) (by decide +kernel) rfl⟩
theorem xcw_5 : plainName "PacketWall$Headers" = true ∧ ("PacketWall$Headers" ≠ "java/lang/invoke/MethodHandle" ∧ "PacketWall$Headers" ≠ "java/lang/invoke/VarHandle") ∧ Cond.initialized "PacketWall$Headers" ∈ xTs := ⟨by decide +kernel, ⟨by decide +kernel, by decide +kernel⟩, xat_ok (q := some (1, 2)) (by decide +kernel) rfl⟩
theorem xcw_6 : plainName "PacketWall$Machine" = true ∧ ("PacketWall$Machine" ≠ "java/lang/invoke/MethodHandle" ∧ "PacketWall$Machine" ≠ "java/lang/invoke/VarHandle") ∧ Cond.initialized "PacketWall$Machine" ∈ xTs := ⟨by decide +kernel, ⟨by decide +kernel, by decide +kernel⟩, xat_ok (q := some (1, 9)) (by decide +kernel) rfl⟩
theorem xcw_7 : plainName "PacketWall$Memory" = true ∧ ("PacketWall$Memory" ≠ "java/lang/invoke/MethodHandle" ∧ "PacketWall$Memory" ≠ "java/lang/invoke/VarHandle") ∧ Cond.initialized "PacketWall$Memory" ∈ xTs := ⟨by decide +kernel, ⟨by decide +kernel, by decide +kernel⟩, xat_ok (q := some (1, 10)) (by decide +kernel) rfl⟩
theorem xcw_8 : plainName "PacketWall$Packet" = true ∧ ("PacketWall$Packet" ≠ "java/lang/invoke/MethodHandle" ∧ "PacketWall$Packet" ≠ "java/lang/invoke/VarHandle") ∧ Cond.initialized "PacketWall$Packet" ∈ xTs := ⟨by decide +kernel, ⟨by decide +kernel, by decide +kernel⟩, xat_ok (q := some (1, 3)) (by decide +kernel) rfl⟩
theorem xcw_9 : plainName "PacketWall$Parser" = true ∧ ("PacketWall$Parser" ≠ "java/lang/invoke/MethodHandle" ∧ "PacketWall$Parser" ≠ "java/lang/invoke/VarHandle") ∧ Cond.initialized "PacketWall$Parser" ∈ xTs := ⟨by decide +kernel, ⟨by decide +kernel, by decide +kernel⟩, xat_ok (q := some (1, 7)) (by decide +kernel) rfl⟩
theorem xcw_10 : plainName "PacketWall$Program" = true ∧ ("PacketWall$Program" ≠ "java/lang/invoke/MethodHandle" ∧ "PacketWall$Program" ≠ "java/lang/invoke/VarHandle") ∧ Cond.initialized "PacketWall$Program" ∈ xTs := ⟨by decide +kernel, ⟨by decide +kernel, by decide +kernel⟩, xat_ok (q := some (1, 8)) (by decide +kernel) rfl⟩
theorem xcw_11 : plainName "PacketWall$Row" = true ∧ ("PacketWall$Row" ≠ "java/lang/invoke/MethodHandle" ∧ "PacketWall$Row" ≠ "java/lang/invoke/VarHandle") ∧ Cond.initialized "PacketWall$Row" ∈ xTs := ⟨by decide +kernel, ⟨by decide +kernel, by decide +kernel⟩, xat_ok (q := some (1, 11)) (by decide +kernel) rfl⟩
theorem xcw_12 : plainName "PacketWallModel" = true ∧ ("PacketWallModel" ≠ "java/lang/invoke/MethodHandle" ∧ "PacketWallModel" ≠ "java/lang/invoke/VarHandle") ∧ Cond.initialized "PacketWallModel" ∈ xTs := ⟨by decide +kernel, ⟨by decide +kernel, by decide +kernel⟩, xat_ok (q := some (1, 13)) (by decide +kernel) rfl⟩
theorem xcw_13 : plainName "java/lang/String" = true ∧ ("java/lang/String" ≠ "java/lang/invoke/MethodHandle" ∧ "java/lang/String" ≠ "java/lang/invoke/VarHandle") ∧ Cond.initialized "java/lang/String" ∈ xTs := ⟨by decide +kernel, ⟨by decide +kernel, by decide +kernel⟩, xat_ok (q := some (1, 16)) (by decide +kernel) rfl⟩
theorem xcw_14 : plainName "java/lang/StringLatin1" = true ∧ ("java/lang/StringLatin1" ≠ "java/lang/invoke/MethodHandle" ∧ "java/lang/StringLatin1" ≠ "java/lang/invoke/VarHandle") ∧ Cond.initialized "java/lang/StringLatin1" ∈ xTs := ⟨by decide +kernel, ⟨by decide +kernel, by decide +kernel⟩, xat_ok (q := some (1, 17)) (by decide +kernel) rfl⟩
theorem xcw_15 : plainName "jdk/internal/util/Preconditions" = true ∧ ("jdk/internal/util/Preconditions" ≠ "java/lang/invoke/MethodHandle" ∧ "jdk/internal/util/Preconditions" ≠ "java/lang/invoke/VarHandle") ∧ Cond.initialized "jdk/internal/util/Preconditions" ∈ xTs := ⟨by decide +kernel, ⟨by decide +kernel, by decide +kernel⟩, xat_ok (q := some (1, 18)) (by decide +kernel) rfl⟩
theorem xmk_0 : xmkP xm_0 :=
  ⟨rfl, xcw_0.1, xcw_0.2.1, xTs_at (k := 1) (i := 25) rfl rfl, xcw_0.2.2, Nat.le_of_ble_eq_true rfl, fun _ => rfl, ix_cd_ok xc_0_ok (xg_no _ _)⟩
theorem xmk_1 : xmkP xm_1 :=
  ⟨rfl, xcw_0.1, xcw_0.2.1, xTs_at (k := 3) (i := 70) rfl rfl, xcw_0.2.2, Nat.le_of_ble_eq_true rfl, xbf rfl, ix_cd_ok xc_1_ok (xg_no _ _)⟩
theorem xmk_2 : xmkP xm_2 :=
  ⟨rfl, xcw_0.1, xcw_0.2.1, xTs_at (k := 3) (i := 81) rfl rfl, xcw_0.2.2, Nat.le_of_ble_eq_true rfl, xbf rfl, ix_cd_ok xc_2_ok (xg_no _ _)⟩
theorem xmk_3 : xmkP xm_3 :=
  ⟨rfl, xcw_0.1, xcw_0.2.1, xTs_at (k := 3) (i := 85) rfl rfl, xcw_0.2.2, Nat.le_of_ble_eq_true rfl, xbf rfl, ix_cd_ok xc_3_ok (xg_no _ _)⟩
theorem xmk_4 : xmkP xm_4 :=
  ⟨rfl, xcw_0.1, xcw_0.2.1, xTs_at (k := 3) (i := 92) rfl rfl, xcw_0.2.2, Nat.le_of_ble_eq_true rfl, xbf rfl, ix_cd_ok xc_4_ok (xg_no _ _)⟩
theorem xmk_5 : xmkP xm_5 :=
  ⟨rfl, xcw_0.1, xcw_0.2.1, xTs_at (k := 3) (i := 100) rfl rfl, xcw_0.2.2, Nat.le_of_ble_eq_true rfl, xbf rfl, ix_cd_ok xc_5_ok (xg_no _ _)⟩
theorem xmk_6 : xmkP xm_6 :=
  ⟨rfl, xcw_0.1, xcw_0.2.1, xTs_at (k := 3) (i := 116) rfl rfl, xcw_0.2.2, Nat.le_of_ble_eq_true rfl, xbf rfl, ix_cd_ok xc_6_ok (xg_no _ _)⟩
theorem xmk_7 : xmkP xm_7 :=
  ⟨rfl, xcw_0.1, xcw_0.2.1, xTs_at (k := 3) (i := 189) rfl rfl, xcw_0.2.2, Nat.le_of_ble_eq_true rfl, xbf rfl, ix_cd_ok xc_7_ok (xg_no _ _)⟩
theorem xmk_8 : xmkP xm_8 :=
  ⟨rfl, xcw_0.1, xcw_0.2.1, xTs_at (k := 3) (i := 193) rfl rfl, xcw_0.2.2, Nat.le_of_ble_eq_true rfl, xbf rfl, ix_cd_ok xc_8_ok (xg_no _ _)⟩
theorem xmk_9 : xmkP xm_9 :=
  ⟨rfl, xcw_0.1, xcw_0.2.1, xTs_at (k := 3) (i := 198) rfl rfl, xcw_0.2.2, Nat.le_of_ble_eq_true rfl, xbf rfl, ix_cd_ok xc_9_ok (xg_no _ _)⟩
theorem xmk_10 : xmkP xm_10 :=
  ⟨rfl, xcw_0.1, xcw_0.2.1, xTs_at (k := 3) (i := 218) rfl rfl, xcw_0.2.2, Nat.le_of_ble_eq_true rfl, xbf rfl, ix_cd_ok xc_10_ok (xg_no _ _)⟩
theorem xmk_11 : xmkP xm_11 :=
  ⟨rfl, xcw_0.1, xcw_0.2.1, xTs_at (k := 3) (i := 226) rfl rfl, xcw_0.2.2, Nat.le_of_ble_eq_true rfl, xbf rfl, ix_cd_ok xc_11_ok (xg_no _ _)⟩
theorem xmk_12 : xmkP xm_12 :=
  ⟨rfl, xcw_0.1, xcw_0.2.1, xTs_at (k := 3) (i := 233) rfl rfl, xcw_0.2.2, Nat.le_of_ble_eq_true rfl, xbf rfl, ix_cd_ok xc_12_ok (xg_no _ _)⟩
theorem xmk_13 : xmkP xm_13 :=
  ⟨rfl, xcw_0.1, xcw_0.2.1, xTs_at (k := 4) (i := 32) rfl rfl, xcw_0.2.2, Nat.le_of_ble_eq_true rfl, xbf rfl, ix_cd_ok xc_13_ok (xg_no _ _)⟩
theorem xmk_14 : xmkP xm_14 :=
  ⟨rfl, xcw_0.1, xcw_0.2.1, xTs_at (k := 4) (i := 42) rfl rfl, xcw_0.2.2, Nat.le_of_ble_eq_true rfl, xbf rfl, ix_cd_ok xc_14_ok (xg_no _ _)⟩
theorem xmk_15 : xmkP xm_15 :=
  ⟨rfl, xcw_0.1, xcw_0.2.1, xTs_at (k := 4) (i := 46) rfl rfl, xcw_0.2.2, Nat.le_of_ble_eq_true rfl, xbf rfl, ix_cd_ok xc_15_ok (xg_no _ _)⟩
theorem xmk_16 : xmkP xm_16 :=
  ⟨rfl, xcw_0.1, xcw_0.2.1, xTs_at (k := 4) (i := 52) rfl rfl, xcw_0.2.2, Nat.le_of_ble_eq_true rfl, xbf rfl, ix_cd_ok xc_16_ok (xg_no _ _)⟩
theorem xmk_17 : xmkP xm_17 :=
  ⟨rfl, xcw_0.1, xcw_0.2.1, xTs_at (k := 4) (i := 167) rfl rfl, xcw_0.2.2, Nat.le_of_ble_eq_true rfl, xbf rfl, ix_cd_ok xc_17_ok (xg_no _ _)⟩
theorem xmk_18 : xmkP xm_18 :=
  ⟨rfl, xcw_0.1, xcw_0.2.1, xTs_at (k := 4) (i := 171) rfl rfl, xcw_0.2.2, Nat.le_of_ble_eq_true rfl, xbf rfl, ix_cd_ok xc_18_ok (xg_no _ _)⟩
theorem xmk_19 : xmkP xm_19 :=
  ⟨rfl, xcw_0.1, xcw_0.2.1, xTs_at (k := 4) (i := 184) rfl rfl, xcw_0.2.2, Nat.le_of_ble_eq_true rfl, xbf rfl, ix_cd_ok xc_19_ok (xg_no _ _)⟩
theorem xmk_20 : xmkP xm_20 :=
  ⟨rfl, xcw_0.1, xcw_0.2.1, xTs_at (k := 5) (i := 26) rfl rfl, xcw_0.2.2, Nat.le_of_ble_eq_true rfl, xbf rfl, ix_cd_ok xc_20_ok (xg_no _ _)⟩
theorem xmk_21 : xmkP xm_21 :=
  ⟨rfl, xcw_0.1, xcw_0.2.1, xTs_at (k := 5) (i := 38) rfl rfl, xcw_0.2.2, Nat.le_of_ble_eq_true rfl, xbf rfl, ix_cd_ok xc_21_ok (xg_no _ _)⟩
theorem xmk_22 : xmkP xm_22 :=
  ⟨rfl, xcw_0.1, xcw_0.2.1, xTs_at (k := 5) (i := 47) rfl rfl, xcw_0.2.2, Nat.le_of_ble_eq_true rfl, xbf rfl, ix_cd_ok xc_22_ok (xg_no _ _)⟩
theorem xmk_23 : xmkP xm_23 :=
  ⟨rfl, xcw_0.1, xcw_0.2.1, xTs_at (k := 5) (i := 51) rfl rfl, xcw_0.2.2, Nat.le_of_ble_eq_true rfl, xbf rfl, ix_cd_ok xc_23_ok (xg_no _ _)⟩
theorem xmk_24 : xmkP xm_24 :=
  ⟨rfl, xcw_0.1, xcw_0.2.1, xTs_at (k := 5) (i := 61) rfl rfl, xcw_0.2.2, Nat.le_of_ble_eq_true rfl, xbf rfl, ix_cd_ok xc_24_ok (xg_no _ _)⟩
theorem xmk_25 : xmkP xm_25 :=
  ⟨rfl, xcw_0.1, xcw_0.2.1, xTs_at (k := 5) (i := 73) rfl rfl, xcw_0.2.2, Nat.le_of_ble_eq_true rfl, xbf rfl, ix_cd_ok xc_25_ok (xg_no _ _)⟩
theorem xmk_26 : xmkP xm_26 :=
  ⟨rfl, xcw_0.1, xcw_0.2.1, xTs_at (k := 5) (i := 84) rfl rfl, xcw_0.2.2, Nat.le_of_ble_eq_true rfl, xbf rfl, ix_cd_ok xc_26_ok (xg_no _ _)⟩
theorem xmk_27 : xmkP xm_27 :=
  ⟨rfl, xcw_0.1, xcw_0.2.1, xTs_at (k := 6) (i := 108) rfl rfl, xcw_0.2.2, Nat.le_of_ble_eq_true rfl, xbf rfl, ix_cd_ok xc_27_ok (xg_no _ _)⟩
theorem xmk_28 : xmkP xm_28 :=
  ⟨rfl, xcw_0.1, xcw_0.2.1, xTs_at (k := 6) (i := 112) rfl rfl, xcw_0.2.2, Nat.le_of_ble_eq_true rfl, xbf rfl, ix_cd_ok xc_28_ok (xg_no _ _)⟩
theorem xmk_29 : xmkP xm_29 :=
  ⟨rfl, xcw_0.1, xcw_0.2.1, xTs_at (k := 7) (i := 135) rfl rfl, xcw_0.2.2, Nat.le_of_ble_eq_true rfl, xbf rfl, ix_cd_ok xc_29_ok (xg_no _ _)⟩
theorem xmk_30 : xmkP xm_30 :=
  ⟨rfl, xcw_0.1, xcw_0.2.1, xTs_at (k := 7) (i := 143) rfl rfl, xcw_0.2.2, Nat.le_of_ble_eq_true rfl, xbf rfl, ix_cd_ok xc_30_ok (xg_no _ _)⟩
theorem xmk_31 : xmkP xm_31 :=
  ⟨rfl, xcw_0.1, xcw_0.2.1, xTs_at (k := 7) (i := 147) rfl rfl, xcw_0.2.2, Nat.le_of_ble_eq_true rfl, xbf rfl, ix_cd_ok xc_31_ok (xg_no _ _)⟩
theorem xmk_32 : xmkP xm_32 :=
  ⟨rfl, xcw_0.1, xcw_0.2.1, xTs_at (k := 7) (i := 156) rfl rfl, xcw_0.2.2, Nat.le_of_ble_eq_true rfl, xbf rfl, ix_cd_ok xc_32_ok (xg_no _ _)⟩
theorem xmk_33 : xmkP xm_33 :=
  ⟨rfl, xcw_0.1, xcw_0.2.1, xTs_at (k := 7) (i := 164) rfl rfl, xcw_0.2.2, Nat.le_of_ble_eq_true rfl, xbf rfl, ix_cd_ok xc_33_ok (xg_no _ _)⟩
theorem xmk_34 : xmkP xm_34 :=
  ⟨rfl, xcw_0.1, xcw_0.2.1, xTs_at (k := 7) (i := 168) rfl rfl, xcw_0.2.2, Nat.le_of_ble_eq_true rfl, xbf rfl, ix_cd_ok xc_34_ok (xg_no _ _)⟩
theorem xmk_35 : xmkP xm_35 :=
  ⟨rfl, xcw_0.1, xcw_0.2.1, xTs_at (k := 7) (i := 172) rfl rfl, xcw_0.2.2, Nat.le_of_ble_eq_true rfl, xbf rfl, ix_cd_ok xc_35_ok (xg_no _ _)⟩
theorem xmk_36 : xmkP xm_36 :=
  ⟨rfl, xcw_0.1, xcw_0.2.1, xTs_at (k := 7) (i := 178) rfl rfl, xcw_0.2.2, Nat.le_of_ble_eq_true rfl, xbf rfl, ix_cd_ok xc_36_ok (xg_no _ _)⟩
theorem xmk_37 : xmkP xm_37 :=
  ⟨rfl, xcw_0.1, xcw_0.2.1, xTs_at (k := 7) (i := 182) rfl rfl, xcw_0.2.2, Nat.le_of_ble_eq_true rfl, xbf rfl, ix_cd_ok xc_37_ok (xg_no _ _)⟩
theorem xmk_38 : xmkP xm_38 :=
  ⟨rfl, xcw_0.1, xcw_0.2.1, xTs_at (k := 7) (i := 197) rfl rfl, xcw_0.2.2, Nat.le_of_ble_eq_true rfl, xbf rfl, ix_cd_ok xc_38_ok (xg_no _ _)⟩
theorem xmk_39 : xmkP xm_39 :=
  ⟨rfl, xcw_0.1, xcw_0.2.1, xTs_at (k := 7) (i := 226) rfl rfl, xcw_0.2.2, Nat.le_of_ble_eq_true rfl, xbf rfl, ix_cd_ok xc_39_ok (xg_no _ _)⟩
theorem xmk_40 : xmkP xm_40 :=
  ⟨rfl, xcw_0.1, xcw_0.2.1, xTs_at (k := 7) (i := 230) rfl rfl, xcw_0.2.2, Nat.le_of_ble_eq_true rfl, xbf rfl, ix_cd_ok xc_40_ok (xg_no _ _)⟩
theorem xmk_41 : xmkP xm_41 :=
  ⟨rfl, xcw_0.1, xcw_0.2.1, xTs_at (k := 3) (i := 74) rfl rfl, xcw_0.2.2, Nat.le_of_ble_eq_true rfl, xbf rfl, ix_cd_ok xc_41_ok (xg_no _ _)⟩
theorem xmk_42 : xmkP xm_42 :=
  ⟨rfl, xcw_0.1, xcw_0.2.1, xTs_at (k := 3) (i := 104) rfl rfl, xcw_0.2.2, Nat.le_of_ble_eq_true rfl, xbf rfl, ix_cd_ok xc_42_ok (xg_no _ _)⟩
theorem xmk_43 : xmkP xm_43 :=
  ⟨rfl, xcw_0.1, xcw_0.2.1, xTs_at (k := 7) (i := 234) rfl rfl, xcw_0.2.2, Nat.le_of_ble_eq_true rfl, xbf rfl, ix_cd_ok xc_43_ok (xg_no _ _)⟩
theorem xmk_44 : xmkP xm_44 :=
  ⟨rfl, xcw_0.1, xcw_0.2.1, xTs_at (k := 7) (i := 238) rfl rfl, xcw_0.2.2, Nat.le_of_ble_eq_true rfl, xbf rfl, ix_cd_ok xc_44_ok (xg_no _ _)⟩
theorem xmk_45 : xmkP xm_45 :=
  ⟨rfl, xcw_0.1, xcw_0.2.1, xTs_at (k := 4) (i := 88) rfl rfl, xcw_0.2.2, Nat.le_of_ble_eq_true rfl, xbf rfl, ix_cd_ok xc_45_ok (xg_no _ _)⟩
theorem xmk_46 : xmkP xm_46 :=
  ⟨rfl, xcw_0.1, xcw_0.2.1, xTs_at (k := 4) (i := 106) rfl rfl, xcw_0.2.2, Nat.le_of_ble_eq_true rfl, xbf rfl, ix_cd_ok xc_46_ok (xg_no _ _)⟩
theorem xmk_47 : xmkP xm_47 :=
  ⟨rfl, xcw_0.1, xcw_0.2.1, xTs_at (k := 4) (i := 96) rfl rfl, xcw_0.2.2, Nat.le_of_ble_eq_true rfl, xbf rfl, ix_cd_ok xc_47_ok (xg_no _ _)⟩
theorem xmk_48 : xmkP xm_48 :=
  ⟨rfl, xcw_0.1, xcw_0.2.1, xTs_at (k := 4) (i := 147) rfl rfl, xcw_0.2.2, Nat.le_of_ble_eq_true rfl, xbf rfl, ix_cd_ok xc_48_ok (xg_no _ _)⟩
theorem xmk_49 : xmkP xm_49 :=
  ⟨rfl, xcw_0.1, xcw_0.2.1, xTs_at (k := 4) (i := 179) rfl rfl, xcw_0.2.2, Nat.le_of_ble_eq_true rfl, xbf rfl, ix_cd_ok xc_49_ok (xg_no _ _)⟩
theorem xmk_50 : xmkP xm_50 :=
  ⟨rfl, xcw_0.1, xcw_0.2.1, xTs_at (k := 3) (i := 140) rfl rfl, xcw_0.2.2, Nat.le_of_ble_eq_true rfl, xbf rfl, ix_cd_ok xc_50_ok (xg_no _ _)⟩
theorem xmk_51 : xmkP xm_51 :=
  ⟨rfl, xcw_0.1, xcw_0.2.1, xTs_at (k := 3) (i := 229) rfl rfl, xcw_0.2.2, Nat.le_of_ble_eq_true rfl, xbf rfl, ix_cd_ok xc_51_ok (xg_no _ _)⟩
theorem xmk_52 : xmkP xm_52 :=
  ⟨rfl, xcw_0.1, xcw_0.2.1, xTs_at (k := 3) (i := 166) rfl rfl, xcw_0.2.2, Nat.le_of_ble_eq_true rfl, xbf rfl, ix_cd_ok xc_52_ok (xg_no _ _)⟩
theorem xmk_53 : xmkP xm_53 :=
  ⟨rfl, xcw_0.1, xcw_0.2.1, xTs_at (k := 3) (i := 77) rfl rfl, xcw_0.2.2, Nat.le_of_ble_eq_true rfl, xbf rfl, ix_cd_ok xc_53_ok (xg_no _ _)⟩
theorem xmk_54 : xmkP xm_54 :=
  ⟨rfl, xcw_0.1, xcw_0.2.1, xTs_at (k := 4) (i := 9) rfl rfl, xcw_0.2.2, Nat.le_of_ble_eq_true rfl, xbf rfl, ix_cd_ok xc_54_ok (xg_no _ _)⟩
theorem xmk_55 : xmkP xm_55 :=
  ⟨rfl, xcw_0.1, xcw_0.2.1, xTs_at (k := 4) (i := 24) rfl rfl, xcw_0.2.2, Nat.le_of_ble_eq_true rfl, xbf rfl, ix_cd_ok xc_55_ok (xg_no _ _)⟩
theorem xmk_56 : xmkP xm_56 :=
  ⟨rfl, xcw_1.1, xcw_1.2.1, xTs_at (k := 1) (i := 164) rfl rfl, xcw_1.2.2, Nat.le_of_ble_eq_true rfl, fun _ => rfl, ix_cd_ok xc_56_ok (xg_no _ _)⟩
theorem xmk_57 : xmkP xm_57 :=
  ⟨rfl, xcw_1.1, xcw_1.2.1, xTs_at (k := 4) (i := 209) rfl rfl, xcw_1.2.2, Nat.le_of_ble_eq_true rfl, xbf rfl, ix_cd_ok xc_57_ok (xg_no _ _)⟩
theorem xmk_58 : xmkP xm_58 :=
  ⟨rfl, xcw_1.1, xcw_1.2.1, xTs_at (k := 4) (i := 235) rfl rfl, xcw_1.2.2, Nat.le_of_ble_eq_true rfl, xbf rfl, ix_cd_ok xc_58_ok (xg_no _ _)⟩
theorem xmk_59 : xmkP xm_59 :=
  ⟨rfl, xcw_1.1, xcw_1.2.1, xTs_at (k := 4) (i := 239) rfl rfl, xcw_1.2.2, Nat.le_of_ble_eq_true rfl, xbf rfl, ix_cd_ok xc_59_ok (xg_no _ _)⟩
theorem xmk_60 : xmkP xm_60 :=
  ⟨rfl, xcw_1.1, xcw_1.2.1, xTs_at (k := 4) (i := 220) rfl rfl, xcw_1.2.2, Nat.le_of_ble_eq_true rfl, xbf rfl, ix_cd_ok xc_60_ok (xg_no _ _)⟩
theorem xmk_61 : xmkP xm_61 :=
  ⟨rfl, xcw_1.1, xcw_1.2.1, xTs_at (k := 5) (i := 3) rfl rfl, xcw_1.2.2, Nat.le_of_ble_eq_true rfl, xbf rfl, ix_cd_ok xc_61_ok (xg_no _ _)⟩
theorem xmk_62 : xmkP xm_62 :=
  ⟨rfl, xcw_1.1, xcw_1.2.1, xTs_at (k := 5) (i := 34) rfl rfl, xcw_1.2.2, Nat.le_of_ble_eq_true rfl, xbf rfl, ix_cd_ok xc_62_ok (xg_no _ _)⟩
theorem xmk_63 : xmkP xm_63 :=
  ⟨rfl, xcw_1.1, xcw_1.2.1, xTs_at (k := 5) (i := 42) rfl rfl, xcw_1.2.2, Nat.le_of_ble_eq_true rfl, xbf rfl, ix_cd_ok xc_63_ok (xg_no _ _)⟩
theorem xmk_64 : xmkP xm_64 :=
  ⟨rfl, xcw_1.1, xcw_1.2.1, xTs_at (k := 7) (i := 190) rfl rfl, xcw_1.2.2, Nat.le_of_ble_eq_true rfl, xbf rfl, ix_cd_ok xc_64_ok (xg_no _ _)⟩
theorem xmk_65 : xmkP xm_65 :=
  ⟨rfl, xcw_1.1, xcw_1.2.1, xTs_at (k := 7) (i := 205) rfl rfl, xcw_1.2.2, Nat.le_of_ble_eq_true rfl, xbf rfl, ix_cd_ok xc_65_ok (xg_no _ _)⟩
theorem xmk_66 : xmkP xm_66 :=
  ⟨rfl, xcw_1.1, xcw_1.2.1, xTs_at (k := 4) (i := 223) rfl rfl, xcw_1.2.2, Nat.le_of_ble_eq_true rfl, xbf rfl, ix_cd_ok xc_66_ok (xg_no _ _)⟩
theorem xmk_67 : xmkP xm_67 :=
  ⟨rfl, xcw_1.1, xcw_1.2.1, xTs_at (k := 7) (i := 214) rfl rfl, xcw_1.2.2, Nat.le_of_ble_eq_true rfl, xbf rfl, ix_cd_ok xc_67_ok (xg_no _ _)⟩
theorem xmk_68 : xmkP xm_68 :=
  ⟨rfl, xcw_1.1, xcw_1.2.1, xTs_at (k := 7) (i := 218) rfl rfl, xcw_1.2.2, Nat.le_of_ble_eq_true rfl, xbf rfl, ix_cd_ok xc_68_ok (xg_no _ _)⟩
theorem xmk_69 : xmkP xm_69 :=
  ⟨rfl, xcw_1.1, xcw_1.2.1, xTs_at (k := 5) (i := 20) rfl rfl, xcw_1.2.2, Nat.le_of_ble_eq_true rfl, xbf rfl, ix_cd_ok xc_69_ok (xg_no _ _)⟩
theorem xmk_70 : xmkP xm_70 :=
  ⟨rfl, xcw_1.1, xcw_1.2.1, xTs_at (k := 4) (i := 230) rfl rfl, xcw_1.2.2, Nat.le_of_ble_eq_true rfl, xbf rfl, ix_cd_ok xc_70_ok (xg_no _ _)⟩
theorem xmk_71 : xmkP xm_71 :=
  ⟨rfl, xcw_1.1, xcw_1.2.1, xTs_at (k := 5) (i := 7) rfl rfl, xcw_1.2.2, Nat.le_of_ble_eq_true rfl, xbf rfl, ix_cd_ok xc_71_ok (xg_no _ _)⟩
theorem xmk_72 : xmkP xm_72 :=
  ⟨rfl, xcw_1.1, xcw_1.2.1, xTs_at (k := 5) (i := 15) rfl rfl, xcw_1.2.2, Nat.le_of_ble_eq_true rfl, xbf rfl, ix_cd_ok xc_72_ok (xg_no _ _)⟩
theorem xmk_73 : xmkP xm_73 :=
  ⟨rfl, xcw_2.1, xcw_2.2.1, xTs_at (k := 1) (i := 157) rfl rfl, xcw_2.2.2, Nat.le_of_ble_eq_true rfl, fun _ => rfl, ix_cd_ok xc_73_ok (xg_no _ _)⟩
theorem xmk_74 : xmkP xm_74 :=
  ⟨rfl, xcw_2.1, xcw_2.2.1, xTs_at (k := 5) (i := 30) rfl rfl, xcw_2.2.2, Nat.le_of_ble_eq_true rfl, xbf rfl, ix_cd_ok xc_74_ok (xg_no _ _)⟩
theorem xmk_75 : xmkP xm_75 :=
  ⟨rfl, xcw_2.1, xcw_2.2.1, xTs_at (k := 8) (i := 2) rfl rfl, xcw_2.2.2, Nat.le_of_ble_eq_true rfl, xbf rfl, ix_cd_ok xc_75_ok (xg_no _ _)⟩
theorem xmk_76 : xmkP xm_76 :=
  ⟨rfl, xcw_2.1, xcw_2.2.1, xTs_at (k := 4) (i := 175) rfl rfl, xcw_2.2.2, Nat.le_of_ble_eq_true rfl, xbf rfl, ix_cd_ok xc_76_ok (xg_no _ _)⟩
theorem xmk_77 : xmkP xm_77 :=
  ⟨rfl, xcw_2.1, xcw_2.2.1, xTs_at (k := 6) (i := 124) rfl rfl, xcw_2.2.2, Nat.le_of_ble_eq_true rfl, xbf rfl, ix_cd_ok xc_77_ok (xg_no _ _)⟩
theorem xmk_78 : xmkP xm_78 :=
  ⟨rfl, xcw_2.1, xcw_2.2.1, xTs_at (k := 6) (i := 120) rfl rfl, xcw_2.2.2, Nat.le_of_ble_eq_true rfl, xbf rfl, ix_cd_ok xc_78_ok (xg_no _ _)⟩
theorem xmk_79 : xmkP xm_79 :=
  ⟨rfl, xcw_2.1, xcw_2.2.1, xTs_at (k := 4) (i := 188) rfl rfl, xcw_2.2.2, Nat.le_of_ble_eq_true rfl, xbf rfl, ix_cd_ok xc_79_ok (xg_no _ _)⟩
theorem xmk_80 : xmkP xm_80 :=
  ⟨rfl, xcw_2.1, xcw_2.2.1, xTs_at (k := 5) (i := 56) rfl rfl, xcw_2.2.2, Nat.le_of_ble_eq_true rfl, xbf rfl, ix_cd_ok xc_80_ok (xg_no _ _)⟩
theorem xmk_81 : xmkP xm_81 :=
  ⟨rfl, xcw_2.1, xcw_2.2.1, xTs_at (k := 5) (i := 65) rfl rfl, xcw_2.2.2, Nat.le_of_ble_eq_true rfl, xbf rfl, ix_cd_ok xc_81_ok (xg_no _ _)⟩
theorem xmk_82 : xmkP xm_82 :=
  ⟨rfl, xcw_2.1, xcw_2.2.1, xTs_at (k := 5) (i := 77) rfl rfl, xcw_2.2.2, Nat.le_of_ble_eq_true rfl, xbf rfl, ix_cd_ok xc_82_ok (xg_no _ _)⟩
theorem xmk_83 : xmkP xm_83 :=
  ⟨rfl, xcw_2.1, xcw_2.2.1, xTs_at (k := 7) (i := 186) rfl rfl, xcw_2.2.2, Nat.le_of_ble_eq_true rfl, xbf rfl, ix_cd_ok xc_83_ok (xg_no _ _)⟩
theorem xmk_84 : xmkP xm_84 :=
  ⟨rfl, xcw_2.1, xcw_2.2.1, xTs_at (k := 7) (i := 201) rfl rfl, xcw_2.2.2, Nat.le_of_ble_eq_true rfl, xbf rfl, ix_cd_ok xc_84_ok (xg_no _ _)⟩
theorem xmk_85 : xmkP xm_85 :=
  ⟨rfl, xcw_2.1, xcw_2.2.1, xTs_at (k := 7) (i := 222) rfl rfl, xcw_2.2.2, Nat.le_of_ble_eq_true rfl, xbf rfl, ix_cd_ok xc_85_ok (xg_no _ _)⟩
theorem xmk_86 : xmkP xm_86 :=
  ⟨rfl, xcw_2.1, xcw_2.2.1, xTs_at (k := 5) (i := 69) rfl rfl, xcw_2.2.2, Nat.le_of_ble_eq_true rfl, xbf rfl, ix_cd_ok xc_86_ok (xg_no _ _)⟩
theorem xmk_87 : xmkP xm_87 :=
  ⟨rfl, xcw_2.1, xcw_2.2.1, xTs_at (k := 4) (i := 227) rfl rfl, xcw_2.2.2, Nat.le_of_ble_eq_true rfl, xbf rfl, ix_cd_ok xc_87_ok (xg_no _ _)⟩
theorem xmk_88 : xmkP xm_88 :=
  ⟨rfl, xcw_2.1, xcw_2.2.1, xTs_at (k := 4) (i := 216) rfl rfl, xcw_2.2.2, Nat.le_of_ble_eq_true rfl, xbf rfl, ix_cd_ok xc_88_ok (xg_no _ _)⟩
theorem xmk_89 : xmkP xm_89 :=
  ⟨rfl, xcw_2.1, xcw_2.2.1, xTs_at (k := 4) (i := 192) rfl rfl, xcw_2.2.2, Nat.le_of_ble_eq_true rfl, xbf rfl, ix_cd_ok xc_89_ok (xg_no _ _)⟩
theorem xmk_90 : xmkP xm_90 :=
  ⟨rfl, xcw_2.1, xcw_2.2.1, xTs_at (k := 4) (i := 201) rfl rfl, xcw_2.2.2, Nat.le_of_ble_eq_true rfl, xbf rfl, ix_cd_ok xc_90_ok (xg_no _ _)⟩
theorem xmk_91 : xmkP xm_91 :=
  ⟨rfl, xcw_3.1, xcw_3.2.1, xTs_at (k := 2) (i := 177) rfl rfl, xcw_3.2.2, Nat.le_of_ble_eq_true rfl, fun _ => rfl, ix_cd_ok xc_91_ok (xg_no _ _)⟩
theorem xmk_92 : xmkP xm_92 :=
  ⟨rfl, xcw_4.1, xcw_4.2.1, xTs_at (k := 1) (i := 105) rfl rfl, xcw_4.2.2, Nat.le_of_ble_eq_true rfl, fun _ => rfl, ix_cd_ok xc_92_ok (xg_no _ _)⟩
theorem xmk_93 : xmkP xm_93 :=
  ⟨rfl, xcw_4.1, xcw_4.2.1, xTs_at (k := 4) (i := 77) rfl rfl, xcw_4.2.2, Nat.le_of_ble_eq_true rfl, xbf rfl, ix_cd_ok xc_93_ok (xg_no _ _)⟩
theorem xmk_94 : xmkP xm_94 :=
  ⟨rfl, xcw_4.1, xcw_4.2.1, xTs_at (k := 4) (i := 92) rfl rfl, xcw_4.2.2, Nat.le_of_ble_eq_true rfl, xbf rfl, ix_cd_ok xc_94_ok (xg_no _ _)⟩
theorem xmk_95 : xmkP xm_95 :=
  ⟨rfl, xcw_4.1, xcw_4.2.1, xTs_at (k := 4) (i := 110) rfl rfl, xcw_4.2.2, Nat.le_of_ble_eq_true rfl, xbf rfl, ix_cd_ok xc_95_ok (xg_no _ _)⟩
theorem xmk_96 : xmkP xm_96 :=
  ⟨rfl, xcw_4.1, xcw_4.2.1, xTs_at (k := 4) (i := 114) rfl rfl, xcw_4.2.2, Nat.le_of_ble_eq_true rfl, xbf rfl, ix_cd_ok xc_96_ok (xg_no _ _)⟩
theorem xmk_97 : xmkP xm_97 :=
  ⟨rfl, xcw_4.1, xcw_4.2.1, xTs_at (k := 4) (i := 143) rfl rfl, xcw_4.2.2, Nat.le_of_ble_eq_true rfl, xbf rfl, ix_cd_ok xc_97_ok (xg_no _ _)⟩
theorem xmk_98 : xmkP xm_98 :=
  ⟨rfl, xcw_4.1, xcw_4.2.1, xTs_at (k := 4) (i := 151) rfl rfl, xcw_4.2.2, Nat.le_of_ble_eq_true rfl, xbf rfl, ix_cd_ok xc_98_ok (xg_no _ _)⟩
theorem xmk_99 : xmkP xm_99 :=
  ⟨rfl, xcw_4.1, xcw_4.2.1, xTs_at (k := 4) (i := 159) rfl rfl, xcw_4.2.2, Nat.le_of_ble_eq_true rfl, xbf rfl, ix_cd_ok xc_99_ok (xg_no _ _)⟩
theorem xmk_100 : xmkP xm_100 :=
  ⟨rfl, xcw_4.1, xcw_4.2.1, xTs_at (k := 4) (i := 124) rfl rfl, xcw_4.2.2, Nat.le_of_ble_eq_true rfl, xbf rfl, ix_cd_ok xc_100_ok (xg_no _ _)⟩
theorem xmk_101 : xmkP xm_101 :=
  ⟨rfl, xcw_4.1, xcw_4.2.1, xTs_at (k := 4) (i := 155) rfl rfl, xcw_4.2.2, Nat.le_of_ble_eq_true rfl, xbf rfl, ix_cd_ok xc_101_ok (xg_no _ _)⟩
theorem xmk_102 : xmkP xm_102 :=
  ⟨rfl, xcw_4.1, xcw_4.2.1, xTs_at (k := 4) (i := 131) rfl rfl, xcw_4.2.2, Nat.le_of_ble_eq_true rfl, xbf rfl, ix_cd_ok xc_102_ok (xg_no _ _)⟩
theorem xmk_103 : xmkP xm_103 :=
  ⟨rfl, xcw_4.1, xcw_4.2.1, xTs_at (k := 4) (i := 139) rfl rfl, xcw_4.2.2, Nat.le_of_ble_eq_true rfl, xbf rfl, ix_cd_ok xc_103_ok (xg_no _ _)⟩
theorem xmk_104 : xmkP xm_104 :=
  ⟨rfl, xcw_5.1, xcw_5.2.1, xTs_at (k := 1) (i := 35) rfl rfl, xcw_5.2.2, Nat.le_of_ble_eq_true rfl, fun _ => rfl, ix_cd_ok xc_104_ok (xg_no _ _)⟩
theorem xmk_105 : xmkP xm_105 :=
  ⟨rfl, xcw_5.1, xcw_5.2.1, xTs_at (k := 3) (i := 120) rfl rfl, xcw_5.2.2, Nat.le_of_ble_eq_true rfl, xbf rfl, ix_cd_ok xc_105_ok (xg_no _ _)⟩
theorem xmk_106 : xmkP xm_106 :=
  ⟨rfl, xcw_5.1, xcw_5.2.1, xTs_at (k := 4) (i := 6) rfl rfl, xcw_5.2.2, Nat.le_of_ble_eq_true rfl, xbf rfl, ix_cd_ok xc_106_ok (xg_no _ _)⟩
theorem xmk_107 : xmkP xm_107 :=
  ⟨rfl, xcw_5.1, xcw_5.2.1, xTs_at (k := 3) (i := 137) rfl rfl, xcw_5.2.2, Nat.le_of_ble_eq_true rfl, xbf rfl, ix_cd_ok xc_107_ok (xg_no _ _)⟩
theorem xmk_108 : xmkP xm_108 :=
  ⟨rfl, xcw_5.1, xcw_5.2.1, xTs_at (k := 3) (i := 222) rfl rfl, xcw_5.2.2, Nat.le_of_ble_eq_true rfl, xbf rfl, ix_cd_ok xc_108_ok (xg_no _ _)⟩
theorem xmk_109 : xmkP xm_109 :=
  ⟨rfl, xcw_5.1, xcw_5.2.1, xTs_at (k := 3) (i := 206) rfl rfl, xcw_5.2.2, Nat.le_of_ble_eq_true rfl, xbf rfl, ix_cd_ok xc_109_ok (xg_no _ _)⟩
theorem xmk_110 : xmkP xm_110 :=
  ⟨rfl, xcw_5.1, xcw_5.2.1, xTs_at (k := 3) (i := 203) rfl rfl, xcw_5.2.2, Nat.le_of_ble_eq_true rfl, xbf rfl, ix_cd_ok xc_110_ok (xg_no _ _)⟩
theorem xmk_111 : xmkP xm_111 :=
  ⟨rfl, xcw_5.1, xcw_5.2.1, xTs_at (k := 4) (i := 60) rfl rfl, xcw_5.2.2, Nat.le_of_ble_eq_true rfl, xbf rfl, ix_cd_ok xc_111_ok (xg_no _ _)⟩
theorem xmk_112 : xmkP xm_112 :=
  ⟨rfl, xcw_5.1, xcw_5.2.1, xTs_at (k := 6) (i := 231) rfl rfl, xcw_5.2.2, Nat.le_of_ble_eq_true rfl, xbf rfl, ix_cd_ok xc_112_ok (xg_no _ _)⟩
theorem xmk_113 : xmkP xm_113 :=
  ⟨rfl, xcw_5.1, xcw_5.2.1, xTs_at (k := 4) (i := 83) rfl rfl, xcw_5.2.2, Nat.le_of_ble_eq_true rfl, xbf rfl, ix_cd_ok xc_113_ok (xg_no _ _)⟩
theorem xmk_114 : xmkP xm_114 :=
  ⟨rfl, xcw_5.1, xcw_5.2.1, xTs_at (k := 4) (i := 73) rfl rfl, xcw_5.2.2, Nat.le_of_ble_eq_true rfl, xbf rfl, ix_cd_ok xc_114_ok (xg_no _ _)⟩
theorem xmk_115 : xmkP xm_115 :=
  ⟨rfl, xcw_5.1, xcw_5.2.1, xTs_at (k := 4) (i := 56) rfl rfl, xcw_5.2.2, Nat.le_of_ble_eq_true rfl, xbf rfl, ix_cd_ok xc_115_ok (xg_no _ _)⟩
theorem xmk_116 : xmkP xm_116 :=
  ⟨rfl, xcw_5.1, xcw_5.2.1, xTs_at (k := 4) (i := 64) rfl rfl, xcw_5.2.2, Nat.le_of_ble_eq_true rfl, xbf rfl, ix_cd_ok xc_116_ok (xg_no _ _)⟩
theorem xmk_117 : xmkP xm_117 :=
  ⟨rfl, xcw_5.1, xcw_5.2.1, xTs_at (k := 4) (i := 69) rfl rfl, xcw_5.2.2, Nat.le_of_ble_eq_true rfl, xbf rfl, ix_cd_ok xc_117_ok (xg_no _ _)⟩
theorem xmk_118 : xmkP xm_118 :=
  ⟨rfl, xcw_5.1, xcw_5.2.1, xTs_at (k := 4) (i := 2) rfl rfl, xcw_5.2.2, Nat.le_of_ble_eq_true rfl, xbf rfl, ix_cd_ok xc_118_ok (xg_no _ _)⟩
theorem xmk_119 : xmkP xm_119 :=
  ⟨rfl, xcw_5.1, xcw_5.2.1, xTs_at (k := 4) (i := 100) rfl rfl, xcw_5.2.2, Nat.le_of_ble_eq_true rfl, xbf rfl, ix_cd_ok xc_119_ok (xg_no _ _)⟩
theorem xmk_120 : xmkP xm_120 :=
  ⟨rfl, xcw_5.1, xcw_5.2.1, xTs_at (k := 3) (i := 237) rfl rfl, xcw_5.2.2, Nat.le_of_ble_eq_true rfl, xbf rfl, ix_cd_ok xc_120_ok (xg_no _ _)⟩
theorem xmk_121 : xmkP xm_121 :=
  ⟨rfl, xcw_5.1, xcw_5.2.1, xTs_at (k := 4) (i := 36) rfl rfl, xcw_5.2.2, Nat.le_of_ble_eq_true rfl, xbf rfl, ix_cd_ok xc_121_ok (xg_no _ _)⟩
theorem xmk_122 : xmkP xm_122 :=
  ⟨rfl, xcw_5.1, xcw_5.2.1, xTs_at (k := 4) (i := 17) rfl rfl, xcw_5.2.2, Nat.le_of_ble_eq_true rfl, xbf rfl, ix_cd_ok xc_122_ok (xg_no _ _)⟩
theorem xmk_123 : xmkP xm_123 :=
  ⟨rfl, xcw_5.1, xcw_5.2.1, xTs_at (k := 4) (i := 21) rfl rfl, xcw_5.2.2, Nat.le_of_ble_eq_true rfl, xbf rfl, ix_cd_ok xc_123_ok (xg_no _ _)⟩
theorem xmk_124 : xmkP xm_124 :=
  ⟨rfl, xcw_5.1, xcw_5.2.1, xTs_at (k := 4) (i := 13) rfl rfl, xcw_5.2.2, Nat.le_of_ble_eq_true rfl, xbf rfl, ix_cd_ok xc_124_ok (xg_no _ _)⟩
theorem xmk_125 : xmkP xm_125 :=
  ⟨rfl, xcw_5.1, xcw_5.2.1, xTs_at (k := 3) (i := 129) rfl rfl, xcw_5.2.2, Nat.le_of_ble_eq_true rfl, xbf rfl, ix_cd_ok xc_125_ok (xg_no _ _)⟩
theorem xmk_126 : xmkP xm_126 :=
  ⟨rfl, xcw_5.1, xcw_5.2.1, xTs_at (k := 3) (i := 148) rfl rfl, xcw_5.2.2, Nat.le_of_ble_eq_true rfl, xbf rfl, ix_cd_ok xc_126_ok (xg_no _ _)⟩
theorem xmk_127 : xmkP xm_127 :=
  ⟨rfl, xcw_5.1, xcw_5.2.1, xTs_at (k := 3) (i := 125) rfl rfl, xcw_5.2.2, Nat.le_of_ble_eq_true rfl, xbf rfl, ix_cd_ok xc_127_ok (xg_no _ _)⟩
theorem xmk_128 : xmkP xm_128 :=
  ⟨rfl, xcw_5.1, xcw_5.2.1, xTs_at (k := 3) (i := 133) rfl rfl, xcw_5.2.2, Nat.le_of_ble_eq_true rfl, xbf rfl, ix_cd_ok xc_128_ok (xg_no _ _)⟩
theorem xmk_129 : xmkP xm_129 :=
  ⟨rfl, xcw_5.1, xcw_5.2.1, xTs_at (k := 3) (i := 144) rfl rfl, xcw_5.2.2, Nat.le_of_ble_eq_true rfl, xbf rfl, ix_cd_ok xc_129_ok (xg_no _ _)⟩
theorem xmk_130 : xmkP xm_130 :=
  ⟨rfl, xcw_5.1, xcw_5.2.1, xTs_at (k := 3) (i := 155) rfl rfl, xcw_5.2.2, Nat.le_of_ble_eq_true rfl, xbf rfl, ix_cd_ok xc_130_ok (xg_no _ _)⟩
theorem xmk_131 : xmkP xm_131 :=
  ⟨rfl, xcw_5.1, xcw_5.2.1, xTs_at (k := 3) (i := 159) rfl rfl, xcw_5.2.2, Nat.le_of_ble_eq_true rfl, xbf rfl, ix_cd_ok xc_131_ok (xg_no _ _)⟩
theorem xmk_132 : xmkP xm_132 :=
  ⟨rfl, xcw_5.1, xcw_5.2.1, xTs_at (k := 3) (i := 170) rfl rfl, xcw_5.2.2, Nat.le_of_ble_eq_true rfl, xbf rfl, ix_cd_ok xc_132_ok (xg_no _ _)⟩
theorem xmk_133 : xmkP xm_133 :=
  ⟨rfl, xcw_5.1, xcw_5.2.1, xTs_at (k := 3) (i := 174) rfl rfl, xcw_5.2.2, Nat.le_of_ble_eq_true rfl, xbf rfl, ix_cd_ok xc_133_ok (xg_no _ _)⟩
theorem xmk_134 : xmkP xm_134 :=
  ⟨rfl, xcw_5.1, xcw_5.2.1, xTs_at (k := 3) (i := 177) rfl rfl, xcw_5.2.2, Nat.le_of_ble_eq_true rfl, xbf rfl, ix_cd_ok xc_134_ok (xg_no _ _)⟩
theorem xmk_135 : xmkP xm_135 :=
  ⟨rfl, xcw_5.1, xcw_5.2.1, xTs_at (k := 3) (i := 181) rfl rfl, xcw_5.2.2, Nat.le_of_ble_eq_true rfl, xbf rfl, ix_cd_ok xc_135_ok (xg_no _ _)⟩
theorem xmk_136 : xmkP xm_136 :=
  ⟨rfl, xcw_5.1, xcw_5.2.1, xTs_at (k := 3) (i := 185) rfl rfl, xcw_5.2.2, Nat.le_of_ble_eq_true rfl, xbf rfl, ix_cd_ok xc_136_ok (xg_no _ _)⟩
theorem xmk_137 : xmkP xm_137 :=
  ⟨rfl, xcw_6.1, xcw_6.2.1, xTs_at (k := 2) (i := 105) rfl rfl, xcw_6.2.2, Nat.le_of_ble_eq_true rfl, fun _ => rfl, ix_cd_ok xc_137_ok (xg_no _ _)⟩
theorem xmk_138 : xmkP xm_138 :=
  ⟨rfl, xcw_6.1, xcw_6.2.1, xTs_at (k := 6) (i := 116) rfl rfl, xcw_6.2.2, Nat.le_of_ble_eq_true rfl, xbf rfl, ix_cd_ok xc_138_ok (xg_no _ _)⟩
theorem xmk_139 : xmkP xm_139 :=
  ⟨rfl, xcw_6.1, xcw_6.2.1, xTs_at (k := 7) (i := 139) rfl rfl, xcw_6.2.2, Nat.le_of_ble_eq_true rfl, xbf rfl, ix_cd_ok xc_139_ok (xg_no _ _)⟩
theorem xmk_140 : xmkP xm_140 :=
  ⟨rfl, xcw_6.1, xcw_6.2.1, xTs_at (k := 6) (i := 129) rfl rfl, xcw_6.2.2, Nat.le_of_ble_eq_true rfl, xbf rfl, ix_cd_ok xc_140_ok (xg_no _ _)⟩
theorem xmk_141 : xmkP xm_141 :=
  ⟨rfl, xcw_6.1, xcw_6.2.1, xTs_at (k := 6) (i := 133) rfl rfl, xcw_6.2.2, Nat.le_of_ble_eq_true rfl, xbf rfl, ix_cd_ok xc_141_ok (xg_no _ _)⟩
theorem xmk_142 : xmkP xm_142 :=
  ⟨rfl, xcw_6.1, xcw_6.2.1, xTs_at (k := 6) (i := 137) rfl rfl, xcw_6.2.2, Nat.le_of_ble_eq_true rfl, xbf rfl, ix_cd_ok xc_142_ok (xg_no _ _)⟩
theorem xmk_143 : xmkP xm_143 :=
  ⟨rfl, xcw_6.1, xcw_6.2.1, xTs_at (k := 6) (i := 155) rfl rfl, xcw_6.2.2, Nat.le_of_ble_eq_true rfl, xbf rfl, ix_cd_ok xc_143_ok (xg_no _ _)⟩
theorem xmk_144 : xmkP xm_144 :=
  ⟨rfl, xcw_6.1, xcw_6.2.1, xTs_at (k := 6) (i := 204) rfl rfl, xcw_6.2.2, Nat.le_of_ble_eq_true rfl, xbf rfl, ix_cd_ok xc_144_ok (xg_no _ _)⟩
theorem xmk_145 : xmkP xm_145 :=
  ⟨rfl, xcw_6.1, xcw_6.2.1, xTs_at (k := 6) (i := 141) rfl rfl, xcw_6.2.2, Nat.le_of_ble_eq_true rfl, xbf rfl, ix_cd_ok xc_145_ok (xg_no _ _)⟩
theorem xmk_146 : xmkP xm_146 :=
  ⟨rfl, xcw_6.1, xcw_6.2.1, xTs_at (k := 6) (i := 200) rfl rfl, xcw_6.2.2, Nat.le_of_ble_eq_true rfl, xbf rfl, ix_cd_ok xc_146_ok (xg_no _ _)⟩
theorem xmk_147 : xmkP xm_147 :=
  ⟨rfl, xcw_6.1, xcw_6.2.1, xTs_at (k := 6) (i := 208) rfl rfl, xcw_6.2.2, Nat.le_of_ble_eq_true rfl, xbf rfl, ix_cd_ok xc_147_ok (xg_no _ _)⟩
theorem xmk_148 : xmkP xm_148 :=
  ⟨rfl, xcw_6.1, xcw_6.2.1, xTs_at (k := 6) (i := 145) rfl rfl, xcw_6.2.2, Nat.le_of_ble_eq_true rfl, xbf rfl, ix_cd_ok xc_148_ok (xg_no _ _)⟩
theorem xmk_149 : xmkP xm_149 :=
  ⟨rfl, xcw_6.1, xcw_6.2.1, xTs_at (k := 7) (i := 131) rfl rfl, xcw_6.2.2, Nat.le_of_ble_eq_true rfl, xbf rfl, ix_cd_ok xc_149_ok (xg_no _ _)⟩
theorem xmk_150 : xmkP xm_150 :=
  ⟨rfl, xcw_6.1, xcw_6.2.1, xTs_at (k := 6) (i := 216) rfl rfl, xcw_6.2.2, Nat.le_of_ble_eq_true rfl, xbf rfl, ix_cd_ok xc_150_ok (xg_no _ _)⟩
theorem xmk_151 : xmkP xm_151 :=
  ⟨rfl, xcw_6.1, xcw_6.2.1, xTs_at (k := 6) (i := 192) rfl rfl, xcw_6.2.2, Nat.le_of_ble_eq_true rfl, xbf rfl, ix_cd_ok xc_151_ok (xg_no _ _)⟩
theorem xmk_152 : xmkP xm_152 :=
  ⟨rfl, xcw_6.1, xcw_6.2.1, xTs_at (k := 6) (i := 196) rfl rfl, xcw_6.2.2, Nat.le_of_ble_eq_true rfl, xbf rfl, ix_cd_ok xc_152_ok (xg_no _ _)⟩
theorem xmk_153 : xmkP xm_153 :=
  ⟨rfl, xcw_6.1, xcw_6.2.1, xTs_at (k := 6) (i := 212) rfl rfl, xcw_6.2.2, Nat.le_of_ble_eq_true rfl, xbf rfl, ix_cd_ok xc_153_ok (xg_no _ _)⟩
theorem xmk_154 : xmkP xm_154 :=
  ⟨rfl, xcw_6.1, xcw_6.2.1, xTs_at (k := 6) (i := 172) rfl rfl, xcw_6.2.2, Nat.le_of_ble_eq_true rfl, xbf rfl, ix_cd_ok xc_154_ok (xg_no _ _)⟩
theorem xmk_155 : xmkP xm_155 :=
  ⟨rfl, xcw_6.1, xcw_6.2.1, xTs_at (k := 6) (i := 176) rfl rfl, xcw_6.2.2, Nat.le_of_ble_eq_true rfl, xbf rfl, ix_cd_ok xc_155_ok (xg_no _ _)⟩
theorem xmk_156 : xmkP xm_156 :=
  ⟨rfl, xcw_6.1, xcw_6.2.1, xTs_at (k := 6) (i := 168) rfl rfl, xcw_6.2.2, Nat.le_of_ble_eq_true rfl, xbf rfl, ix_cd_ok xc_156_ok (xg_no _ _)⟩
theorem xmk_157 : xmkP xm_157 :=
  ⟨rfl, xcw_6.1, xcw_6.2.1, xTs_at (k := 6) (i := 220) rfl rfl, xcw_6.2.2, Nat.le_of_ble_eq_true rfl, xbf rfl, ix_cd_ok xc_157_ok (xg_no _ _)⟩
theorem xmk_158 : xmkP xm_158 :=
  ⟨rfl, xcw_6.1, xcw_6.2.1, xTs_at (k := 6) (i := 226) rfl rfl, xcw_6.2.2, Nat.le_of_ble_eq_true rfl, xbf rfl, ix_cd_ok xc_158_ok (xg_no _ _)⟩
theorem xmk_159 : xmkP xm_159 :=
  ⟨rfl, xcw_6.1, xcw_6.2.1, xTs_at (k := 6) (i := 239) rfl rfl, xcw_6.2.2, Nat.le_of_ble_eq_true rfl, xbf rfl, ix_cd_ok xc_159_ok (xg_no _ _)⟩
theorem xmk_160 : xmkP xm_160 :=
  ⟨rfl, xcw_6.1, xcw_6.2.1, xTs_at (k := 7) (i := 3) rfl rfl, xcw_6.2.2, Nat.le_of_ble_eq_true rfl, xbf rfl, ix_cd_ok xc_160_ok (xg_no _ _)⟩
theorem xmk_161 : xmkP xm_161 :=
  ⟨rfl, xcw_6.1, xcw_6.2.1, xTs_at (k := 7) (i := 9) rfl rfl, xcw_6.2.2, Nat.le_of_ble_eq_true rfl, xbf rfl, ix_cd_ok xc_161_ok (xg_no _ _)⟩
theorem xmk_162 : xmkP xm_162 :=
  ⟨rfl, xcw_6.1, xcw_6.2.1, xTs_at (k := 7) (i := 16) rfl rfl, xcw_6.2.2, Nat.le_of_ble_eq_true rfl, xbf rfl, ix_cd_ok xc_162_ok (xg_no _ _)⟩
theorem xmk_163 : xmkP xm_163 :=
  ⟨rfl, xcw_6.1, xcw_6.2.1, xTs_at (k := 7) (i := 24) rfl rfl, xcw_6.2.2, Nat.le_of_ble_eq_true rfl, xbf rfl, ix_cd_ok xc_163_ok (xg_no _ _)⟩
theorem xmk_164 : xmkP xm_164 :=
  ⟨rfl, xcw_6.1, xcw_6.2.1, xTs_at (k := 7) (i := 32) rfl rfl, xcw_6.2.2, Nat.le_of_ble_eq_true rfl, xbf rfl, ix_cd_ok xc_164_ok (xg_no _ _)⟩
theorem xmk_165 : xmkP xm_165 :=
  ⟨rfl, xcw_6.1, xcw_6.2.1, xTs_at (k := 7) (i := 48) rfl rfl, xcw_6.2.2, Nat.le_of_ble_eq_true rfl, xbf rfl, ix_cd_ok xc_165_ok (xg_no _ _)⟩
theorem xmk_166 : xmkP xm_166 :=
  ⟨rfl, xcw_6.1, xcw_6.2.1, xTs_at (k := 7) (i := 12) rfl rfl, xcw_6.2.2, Nat.le_of_ble_eq_true rfl, xbf rfl, ix_cd_ok xc_166_ok (xg_no _ _)⟩
theorem xmk_167 : xmkP xm_167 :=
  ⟨rfl, xcw_6.1, xcw_6.2.1, xTs_at (k := 7) (i := 20) rfl rfl, xcw_6.2.2, Nat.le_of_ble_eq_true rfl, xbf rfl, ix_cd_ok xc_167_ok (xg_no _ _)⟩
theorem xmk_168 : xmkP xm_168 :=
  ⟨rfl, xcw_6.1, xcw_6.2.1, xTs_at (k := 7) (i := 36) rfl rfl, xcw_6.2.2, Nat.le_of_ble_eq_true rfl, xbf rfl, ix_cd_ok xc_168_ok (xg_no _ _)⟩
theorem xmk_169 : xmkP xm_169 :=
  ⟨rfl, xcw_6.1, xcw_6.2.1, xTs_at (k := 6) (i := 164) rfl rfl, xcw_6.2.2, Nat.le_of_ble_eq_true rfl, xbf rfl, ix_cd_ok xc_169_ok (xg_no _ _)⟩
theorem xmk_170 : xmkP xm_170 :=
  ⟨rfl, xcw_6.1, xcw_6.2.1, xTs_at (k := 6) (i := 180) rfl rfl, xcw_6.2.2, Nat.le_of_ble_eq_true rfl, xbf rfl, ix_cd_ok xc_170_ok (xg_no _ _)⟩
theorem xmk_171 : xmkP xm_171 :=
  ⟨rfl, xcw_6.1, xcw_6.2.1, xTs_at (k := 6) (i := 184) rfl rfl, xcw_6.2.2, Nat.le_of_ble_eq_true rfl, xbf rfl, ix_cd_ok xc_171_ok (xg_no _ _)⟩
theorem xmk_172 : xmkP xm_172 :=
  ⟨rfl, xcw_6.1, xcw_6.2.1, xTs_at (k := 6) (i := 188) rfl rfl, xcw_6.2.2, Nat.le_of_ble_eq_true rfl, xbf rfl, ix_cd_ok xc_172_ok (xg_no _ _)⟩
theorem xmk_173 : xmkP xm_173 :=
  ⟨rfl, xcw_6.1, xcw_6.2.1, xTs_at (k := 7) (i := 54) rfl rfl, xcw_6.2.2, Nat.le_of_ble_eq_true rfl, xbf rfl, ix_cd_ok xc_173_ok (xg_no _ _)⟩
theorem xmk_174 : xmkP xm_174 :=
  ⟨rfl, xcw_6.1, xcw_6.2.1, xTs_at (k := 7) (i := 58) rfl rfl, xcw_6.2.2, Nat.le_of_ble_eq_true rfl, xbf rfl, ix_cd_ok xc_174_ok (xg_no _ _)⟩
theorem xmk_175 : xmkP xm_175 :=
  ⟨rfl, xcw_6.1, xcw_6.2.1, xTs_at (k := 7) (i := 62) rfl rfl, xcw_6.2.2, Nat.le_of_ble_eq_true rfl, xbf rfl, ix_cd_ok xc_175_ok (xg_no _ _)⟩
theorem xmk_176 : xmkP xm_176 :=
  ⟨rfl, xcw_6.1, xcw_6.2.1, xTs_at (k := 7) (i := 70) rfl rfl, xcw_6.2.2, Nat.le_of_ble_eq_true rfl, xbf rfl, ix_cd_ok xc_176_ok (xg_no _ _)⟩
theorem xmk_177 : xmkP xm_177 :=
  ⟨rfl, xcw_6.1, xcw_6.2.1, xTs_at (k := 7) (i := 79) rfl rfl, xcw_6.2.2, Nat.le_of_ble_eq_true rfl, xbf rfl, ix_cd_ok xc_177_ok (xg_no _ _)⟩
theorem xmk_178 : xmkP xm_178 :=
  ⟨rfl, xcw_6.1, xcw_6.2.1, xTs_at (k := 7) (i := 88) rfl rfl, xcw_6.2.2, Nat.le_of_ble_eq_true rfl, xbf rfl, ix_cd_ok xc_178_ok (xg_no _ _)⟩
theorem xmk_179 : xmkP xm_179 :=
  ⟨rfl, xcw_6.1, xcw_6.2.1, xTs_at (k := 7) (i := 96) rfl rfl, xcw_6.2.2, Nat.le_of_ble_eq_true rfl, xbf rfl, ix_cd_ok xc_179_ok (xg_no _ _)⟩
theorem xmk_180 : xmkP xm_180 :=
  ⟨rfl, xcw_6.1, xcw_6.2.1, xTs_at (k := 7) (i := 111) rfl rfl, xcw_6.2.2, Nat.le_of_ble_eq_true rfl, xbf rfl, ix_cd_ok xc_180_ok (xg_no _ _)⟩
theorem xmk_181 : xmkP xm_181 :=
  ⟨rfl, xcw_6.1, xcw_6.2.1, xTs_at (k := 7) (i := 120) rfl rfl, xcw_6.2.2, Nat.le_of_ble_eq_true rfl, xbf rfl, ix_cd_ok xc_181_ok (xg_no _ _)⟩
theorem xmk_182 : xmkP xm_182 :=
  ⟨rfl, xcw_7.1, xcw_7.2.1, xTs_at (k := 2) (i := 113) rfl rfl, xcw_7.2.2, Nat.le_of_ble_eq_true rfl, fun _ => rfl, ix_cd_ok xc_182_ok (xg_no _ _)⟩
theorem xmk_183 : xmkP xm_183 :=
  ⟨rfl, xcw_7.1, xcw_7.2.1, xTs_at (k := 6) (i := 149) rfl rfl, xcw_7.2.2, Nat.le_of_ble_eq_true rfl, xbf rfl, ix_cd_ok xc_183_ok (xg_no _ _)⟩
theorem xmk_184 : xmkP xm_184 :=
  ⟨rfl, xcw_7.1, xcw_7.2.1, xTs_at (k := 7) (i := 66) rfl rfl, xcw_7.2.2, Nat.le_of_ble_eq_true rfl, xbf rfl, ix_cd_ok xc_184_ok (xg_no _ _)⟩
theorem xmk_185 : xmkP xm_185 :=
  ⟨rfl, xcw_7.1, xcw_7.2.1, xTs_at (k := 7) (i := 151) rfl rfl, xcw_7.2.2, Nat.le_of_ble_eq_true rfl, xbf rfl, ix_cd_ok xc_185_ok (xg_no _ _)⟩
theorem xmk_186 : xmkP xm_186 :=
  ⟨rfl, xcw_7.1, xcw_7.2.1, xTs_at (k := 7) (i := 160) rfl rfl, xcw_7.2.2, Nat.le_of_ble_eq_true rfl, xbf rfl, ix_cd_ok xc_186_ok (xg_no _ _)⟩
theorem xmk_187 : xmkP xm_187 :=
  ⟨rfl, xcw_7.1, xcw_7.2.1, xTs_at (k := 7) (i := 28) rfl rfl, xcw_7.2.2, Nat.le_of_ble_eq_true rfl, xbf rfl, ix_cd_ok xc_187_ok (xg_no _ _)⟩
theorem xmk_188 : xmkP xm_188 :=
  ⟨rfl, xcw_7.1, xcw_7.2.1, xTs_at (k := 7) (i := 74) rfl rfl, xcw_7.2.2, Nat.le_of_ble_eq_true rfl, xbf rfl, ix_cd_ok xc_188_ok (xg_no _ _)⟩
theorem xmk_189 : xmkP xm_189 :=
  ⟨rfl, xcw_8.1, xcw_8.2.1, xTs_at (k := 1) (i := 41) rfl rfl, xcw_8.2.2, Nat.le_of_ble_eq_true rfl, fun _ => rfl, ix_cd_ok xc_189_ok (xg_no _ _)⟩
theorem xmk_190 : xmkP xm_190 :=
  ⟨rfl, xcw_8.1, xcw_8.2.1, xTs_at (k := 3) (i := 96) rfl rfl, xcw_8.2.2, Nat.le_of_ble_eq_true rfl, xbf rfl, ix_cd_ok xc_190_ok (xg_no _ _)⟩
theorem xmk_191 : xmkP xm_191 :=
  ⟨rfl, xcw_8.1, xcw_8.2.1, xTs_at (k := 3) (i := 108) rfl rfl, xcw_8.2.2, Nat.le_of_ble_eq_true rfl, xbf rfl, ix_cd_ok xc_191_ok (xg_no _ _)⟩
theorem xmk_192 : xmkP xm_192 :=
  ⟨rfl, xcw_8.1, xcw_8.2.1, xTs_at (k := 3) (i := 112) rfl rfl, xcw_8.2.2, Nat.le_of_ble_eq_true rfl, xbf rfl, ix_cd_ok xc_192_ok (xg_no _ _)⟩
theorem xmk_193 : xmkP xm_193 :=
  ⟨rfl, xcw_8.1, xcw_8.2.1, xTs_at (k := 3) (i := 163) rfl rfl, xcw_8.2.2, Nat.le_of_ble_eq_true rfl, xbf rfl, ix_cd_ok xc_193_ok (xg_no _ _)⟩
theorem xmk_194 : xmkP xm_194 :=
  ⟨rfl, xcw_9.1, xcw_9.2.1, xTs_at (k := 2) (i := 21) rfl rfl, xcw_9.2.2, Nat.le_of_ble_eq_true rfl, fun _ => rfl, ix_cd_ok xc_194_ok (xg_no _ _)⟩
theorem xmk_195 : xmkP xm_195 :=
  ⟨rfl, xcw_9.1, xcw_9.2.1, xTs_at (k := 5) (i := 88) rfl rfl, xcw_9.2.2, Nat.le_of_ble_eq_true rfl, xbf rfl, ix_cd_ok xc_195_ok (xg_no _ _)⟩
theorem xmk_196 : xmkP xm_196 :=
  ⟨rfl, xcw_9.1, xcw_9.2.1, xTs_at (k := 5) (i := 222) rfl rfl, xcw_9.2.2, Nat.le_of_ble_eq_true rfl, xbf rfl, ix_cd_ok xc_196_ok (xg_no _ _)⟩
theorem xmk_197 : xmkP xm_197 :=
  ⟨rfl, xcw_9.1, xcw_9.2.1, xTs_at (k := 5) (i := 226) rfl rfl, xcw_9.2.2, Nat.le_of_ble_eq_true rfl, xbf rfl, ix_cd_ok xc_197_ok (xg_no _ _)⟩
theorem xmk_198 : xmkP xm_198 :=
  ⟨rfl, xcw_9.1, xcw_9.2.1, xTs_at (k := 6) (i := 14) rfl rfl, xcw_9.2.2, Nat.le_of_ble_eq_true rfl, xbf rfl, ix_cd_ok xc_198_ok (xg_no _ _)⟩
theorem xmk_199 : xmkP xm_199 :=
  ⟨rfl, xcw_9.1, xcw_9.2.1, xTs_at (k := 6) (i := 26) rfl rfl, xcw_9.2.2, Nat.le_of_ble_eq_true rfl, xbf rfl, ix_cd_ok xc_199_ok (xg_no _ _)⟩
theorem xmk_200 : xmkP xm_200 :=
  ⟨rfl, xcw_9.1, xcw_9.2.1, xTs_at (k := 6) (i := 38) rfl rfl, xcw_9.2.2, Nat.le_of_ble_eq_true rfl, xbf rfl, ix_cd_ok xc_200_ok (xg_no _ _)⟩
theorem xmk_201 : xmkP xm_201 :=
  ⟨rfl, xcw_9.1, xcw_9.2.1, xTs_at (k := 6) (i := 79) rfl rfl, xcw_9.2.2, Nat.le_of_ble_eq_true rfl, xbf rfl, ix_cd_ok xc_201_ok (xg_no _ _)⟩
theorem xmk_202 : xmkP xm_202 :=
  ⟨rfl, xcw_9.1, xcw_9.2.1, xTs_at (k := 6) (i := 83) rfl rfl, xcw_9.2.2, Nat.le_of_ble_eq_true rfl, xbf rfl, ix_cd_ok xc_202_ok (xg_no _ _)⟩
theorem xmk_203 : xmkP xm_203 :=
  ⟨rfl, xcw_9.1, xcw_9.2.1, xTs_at (k := 6) (i := 42) rfl rfl, xcw_9.2.2, Nat.le_of_ble_eq_true rfl, xbf rfl, ix_cd_ok xc_203_ok (xg_no _ _)⟩
theorem xmk_204 : xmkP xm_204 :=
  ⟨rfl, xcw_9.1, xcw_9.2.1, xTs_at (k := 6) (i := 87) rfl rfl, xcw_9.2.2, Nat.le_of_ble_eq_true rfl, xbf rfl, ix_cd_ok xc_204_ok (xg_no _ _)⟩
theorem xmk_205 : xmkP xm_205 :=
  ⟨rfl, xcw_9.1, xcw_9.2.1, xTs_at (k := 6) (i := 46) rfl rfl, xcw_9.2.2, Nat.le_of_ble_eq_true rfl, xbf rfl, ix_cd_ok xc_205_ok (xg_no _ _)⟩
theorem xmk_206 : xmkP xm_206 :=
  ⟨rfl, xcw_9.1, xcw_9.2.1, xTs_at (k := 6) (i := 55) rfl rfl, xcw_9.2.2, Nat.le_of_ble_eq_true rfl, xbf rfl, ix_cd_ok xc_206_ok (xg_no _ _)⟩
theorem xmk_207 : xmkP xm_207 :=
  ⟨rfl, xcw_9.1, xcw_9.2.1, xTs_at (k := 6) (i := 76) rfl rfl, xcw_9.2.2, Nat.le_of_ble_eq_true rfl, xbf rfl, ix_cd_ok xc_207_ok (xg_no _ _)⟩
theorem xmk_208 : xmkP xm_208 :=
  ⟨rfl, xcw_9.1, xcw_9.2.1, xTs_at (k := 6) (i := 99) rfl rfl, xcw_9.2.2, Nat.le_of_ble_eq_true rfl, xbf rfl, ix_cd_ok xc_208_ok (xg_no _ _)⟩
theorem xmk_209 : xmkP xm_209 :=
  ⟨rfl, xcw_9.1, xcw_9.2.1, xTs_at (k := 6) (i := 6) rfl rfl, xcw_9.2.2, Nat.le_of_ble_eq_true rfl, xbf rfl, ix_cd_ok xc_209_ok (xg_no _ _)⟩
theorem xmk_210 : xmkP xm_210 :=
  ⟨rfl, xcw_9.1, xcw_9.2.1, xTs_at (k := 6) (i := 10) rfl rfl, xcw_9.2.2, Nat.le_of_ble_eq_true rfl, xbf rfl, ix_cd_ok xc_210_ok (xg_no _ _)⟩
theorem xmk_211 : xmkP xm_211 :=
  ⟨rfl, xcw_9.1, xcw_9.2.1, xTs_at (k := 5) (i := 100) rfl rfl, xcw_9.2.2, Nat.le_of_ble_eq_true rfl, xbf rfl, ix_cd_ok xc_211_ok (xg_no _ _)⟩
theorem xmk_212 : xmkP xm_212 :=
  ⟨rfl, xcw_9.1, xcw_9.2.1, xTs_at (k := 5) (i := 157) rfl rfl, xcw_9.2.2, Nat.le_of_ble_eq_true rfl, xbf rfl, ix_cd_ok xc_212_ok (xg_no _ _)⟩
theorem xmk_213 : xmkP xm_213 :=
  ⟨rfl, xcw_9.1, xcw_9.2.1, xTs_at (k := 6) (i := 58) rfl rfl, xcw_9.2.2, Nat.le_of_ble_eq_true rfl, xbf rfl, ix_cd_ok xc_213_ok (xg_no _ _)⟩
theorem xmk_214 : xmkP xm_214 :=
  ⟨rfl, xcw_9.1, xcw_9.2.1, xTs_at (k := 5) (i := 105) rfl rfl, xcw_9.2.2, Nat.le_of_ble_eq_true rfl, xbf rfl, ix_cd_ok xc_214_ok (xg_no _ _)⟩
theorem xmk_215 : xmkP xm_215 :=
  ⟨rfl, xcw_9.1, xcw_9.2.1, xTs_at (k := 5) (i := 96) rfl rfl, xcw_9.2.2, Nat.le_of_ble_eq_true rfl, xbf rfl, ix_cd_ok xc_215_ok (xg_no _ _)⟩
theorem xmk_216 : xmkP xm_216 :=
  ⟨rfl, xcw_9.1, xcw_9.2.1, xTs_at (k := 5) (i := 161) rfl rfl, xcw_9.2.2, Nat.le_of_ble_eq_true rfl, xbf rfl, ix_cd_ok xc_216_ok (xg_no _ _)⟩
theorem xmk_217 : xmkP xm_217 :=
  ⟨rfl, xcw_9.1, xcw_9.2.1, xTs_at (k := 6) (i := 22) rfl rfl, xcw_9.2.2, Nat.le_of_ble_eq_true rfl, xbf rfl, ix_cd_ok xc_217_ok (xg_no _ _)⟩
theorem xmk_218 : xmkP xm_218 :=
  ⟨rfl, xcw_9.1, xcw_9.2.1, xTs_at (k := 5) (i := 230) rfl rfl, xcw_9.2.2, Nat.le_of_ble_eq_true rfl, xbf rfl, ix_cd_ok xc_218_ok (xg_no _ _)⟩
theorem xmk_219 : xmkP xm_219 :=
  ⟨rfl, xcw_9.1, xcw_9.2.1, xTs_at (k := 6) (i := 2) rfl rfl, xcw_9.2.2, Nat.le_of_ble_eq_true rfl, xbf rfl, ix_cd_ok xc_219_ok (xg_no _ _)⟩
theorem xmk_220 : xmkP xm_220 :=
  ⟨rfl, xcw_9.1, xcw_9.2.1, xTs_at (k := 6) (i := 50) rfl rfl, xcw_9.2.2, Nat.le_of_ble_eq_true rfl, xbf rfl, ix_cd_ok xc_220_ok (xg_no _ _)⟩
theorem xmk_221 : xmkP xm_221 :=
  ⟨rfl, xcw_9.1, xcw_9.2.1, xTs_at (k := 6) (i := 95) rfl rfl, xcw_9.2.2, Nat.le_of_ble_eq_true rfl, xbf rfl, ix_cd_ok xc_221_ok (xg_no _ _)⟩
theorem xmk_222 : xmkP xm_222 :=
  ⟨rfl, xcw_9.1, xcw_9.2.1, xTs_at (k := 6) (i := 18) rfl rfl, xcw_9.2.2, Nat.le_of_ble_eq_true rfl, xbf rfl, ix_cd_ok xc_222_ok (xg_no _ _)⟩
theorem xmk_223 : xmkP xm_223 :=
  ⟨rfl, xcw_9.1, xcw_9.2.1, xTs_at (k := 6) (i := 30) rfl rfl, xcw_9.2.2, Nat.le_of_ble_eq_true rfl, xbf rfl, ix_cd_ok xc_223_ok (xg_no _ _)⟩
theorem xmk_224 : xmkP xm_224 :=
  ⟨rfl, xcw_9.1, xcw_9.2.1, xTs_at (k := 5) (i := 234) rfl rfl, xcw_9.2.2, Nat.le_of_ble_eq_true rfl, xbf rfl, ix_cd_ok xc_224_ok (xg_no _ _)⟩
theorem xmk_225 : xmkP xm_225 :=
  ⟨rfl, xcw_9.1, xcw_9.2.1, xTs_at (k := 5) (i := 238) rfl rfl, xcw_9.2.2, Nat.le_of_ble_eq_true rfl, xbf rfl, ix_cd_ok xc_225_ok (xg_no _ _)⟩
theorem xmk_226 : xmkP xm_226 :=
  ⟨rfl, xcw_10.1, xcw_10.2.1, xTs_at (k := 2) (i := 27) rfl rfl, xcw_10.2.2, Nat.le_of_ble_eq_true rfl, fun _ => rfl, ix_cd_ok xc_226_ok (xg_no _ _)⟩
theorem xmk_227 : xmkP xm_227 :=
  ⟨rfl, xcw_10.1, xcw_10.2.1, xTs_at (k := 5) (i := 92) rfl rfl, xcw_10.2.2, Nat.le_of_ble_eq_true rfl, xbf rfl, ix_cd_ok xc_227_ok (xg_no _ _)⟩
theorem xmk_228 : xmkP xm_228 :=
  ⟨rfl, xcw_10.1, xcw_10.2.1, xTs_at (k := 6) (i := 34) rfl rfl, xcw_10.2.2, Nat.le_of_ble_eq_true rfl, xbf rfl, ix_cd_ok xc_228_ok (xg_no _ _)⟩
theorem xmk_229 : xmkP xm_229 :=
  ⟨rfl, xcw_10.1, xcw_10.2.1, xTs_at (k := 6) (i := 91) rfl rfl, xcw_10.2.2, Nat.le_of_ble_eq_true rfl, xbf rfl, ix_cd_ok xc_229_ok (xg_no _ _)⟩
theorem xmk_230 : xmkP xm_230 :=
  ⟨rfl, xcw_10.1, xcw_10.2.1, xTs_at (k := 6) (i := 103) rfl rfl, xcw_10.2.2, Nat.le_of_ble_eq_true rfl, xbf rfl, ix_cd_ok xc_230_ok (xg_no _ _)⟩
theorem xmk_231 : xmkP xm_231 :=
  ⟨rfl, xcw_10.1, xcw_10.2.1, xTs_at (k := 6) (i := 160) rfl rfl, xcw_10.2.2, Nat.le_of_ble_eq_true rfl, xbf rfl, ix_cd_ok xc_231_ok (xg_no _ _)⟩
theorem xmk_232 : xmkP xm_232 :=
  ⟨rfl, xcw_11.1, xcw_11.2.1, xTs_at (k := 2) (i := 153) rfl rfl, xcw_11.2.2, Nat.le_of_ble_eq_true rfl, fun _ => rfl, ix_cd_ok xc_232_ok (xg_no _ _)⟩
theorem xmk_233 : xmkP xm_233 :=
  ⟨rfl, xcw_11.1, xcw_11.2.1, xTs_at (k := 7) (i := 44) rfl rfl, xcw_11.2.2, Nat.le_of_ble_eq_true rfl, xbf rfl, ix_cd_ok xc_233_ok (xg_no _ _)⟩
theorem xmk_234 : xmkP xm_234 :=
  ⟨rfl, xcw_11.1, xcw_11.2.1, xTs_at (k := 7) (i := 40) rfl rfl, xcw_11.2.2, Nat.le_of_ble_eq_true rfl, xbf rfl, ix_cd_ok xc_234_ok (xg_no _ _)⟩
theorem xmk_235 : xmkP xm_235 :=
  ⟨rfl, xcw_11.1, xcw_11.2.1, xTs_at (k := 7) (i := 116) rfl rfl, xcw_11.2.2, Nat.le_of_ble_eq_true rfl, xbf rfl, ix_cd_ok xc_235_ok (xg_no _ _)⟩
theorem xmk_236 : xmkP xm_236 :=
  ⟨rfl, xcw_11.1, xcw_11.2.1, xTs_at (k := 7) (i := 124) rfl rfl, xcw_11.2.2, Nat.le_of_ble_eq_true rfl, xbf rfl, ix_cd_ok xc_236_ok (xg_no _ _)⟩
theorem xmk_237 : xmkP xm_237 :=
  ⟨rfl, xcw_11.1, xcw_11.2.1, xTs_at (k := 7) (i := 83) rfl rfl, xcw_11.2.2, Nat.le_of_ble_eq_true rfl, xbf rfl, ix_cd_ok xc_237_ok (xg_no _ _)⟩
theorem xmk_238 : xmkP xm_238 :=
  ⟨rfl, xcw_11.1, xcw_11.2.1, xTs_at (k := 7) (i := 92) rfl rfl, xcw_11.2.2, Nat.le_of_ble_eq_true rfl, xbf rfl, ix_cd_ok xc_238_ok (xg_no _ _)⟩
theorem xmk_239 : xmkP xm_239 :=
  ⟨rfl, xcw_11.1, xcw_11.2.1, xTs_at (k := 7) (i := 100) rfl rfl, xcw_11.2.2, Nat.le_of_ble_eq_true rfl, xbf rfl, ix_cd_ok xc_239_ok (xg_no _ _)⟩
theorem xmk_240 : xmkP xm_240 :=
  ⟨rfl, xcw_11.1, xcw_11.2.1, xTs_at (k := 7) (i := 104) rfl rfl, xcw_11.2.2, Nat.le_of_ble_eq_true rfl, xbf rfl, ix_cd_ok xc_240_ok (xg_no _ _)⟩
theorem xmk_241 : xmkP xm_241 :=
  ⟨rfl, xcw_12.1, xcw_12.2.1, xTs_at (k := 8) (i := 7) rfl rfl, xcw_12.2.2, Nat.le_of_ble_eq_true rfl, fun _ => rfl, ix_cd_ok xc_241_ok (xg_no _ _)⟩
theorem xmk_242 : xmkP xm_242 :=
  ⟨rfl, xcw_12.1, xcw_12.2.1, xTs_at (k := 9) (i := 232) rfl rfl, xcw_12.2.2, Nat.le_of_ble_eq_true rfl, xbf rfl, ix_cd_ok xc_242_ok (xg_no _ _)⟩
theorem xmk_243 : xmkP xm_243 :=
  ⟨rfl, xcw_12.1, xcw_12.2.1, xTs_at (k := 9) (i := 225) rfl rfl, xcw_12.2.2, Nat.le_of_ble_eq_true rfl, xbf rfl, ix_cd_ok xc_243_ok (xg_no _ _)⟩
theorem xmk_244 : xmkP xm_244 :=
  ⟨rfl, xcw_12.1, xcw_12.2.1, xTs_at (k := 9) (i := 221) rfl rfl, xcw_12.2.2, Nat.le_of_ble_eq_true rfl, xbf rfl, ix_cd_ok xc_244_ok (xg_no _ _)⟩
theorem xmk_245 : xmkP xm_245 :=
  ⟨rfl, xcw_12.1, xcw_12.2.1, xTs_at (k := 9) (i := 229) rfl rfl, xcw_12.2.2, Nat.le_of_ble_eq_true rfl, xbf rfl, ix_cd_ok xc_245_ok (xg_no _ _)⟩
theorem xmk_246 : xmkP xm_246 :=
  ⟨rfl, xcw_12.1, xcw_12.2.1, xTs_at (k := 9) (i := 239) rfl rfl, xcw_12.2.2, Nat.le_of_ble_eq_true rfl, xbf rfl, ix_cd_ok xc_246_ok (xg_no _ _)⟩
theorem xmk_247 : xmkP xm_247 :=
  ⟨rfl, xcw_12.1, xcw_12.2.1, xTs_at (k := 10) (i := 12) rfl rfl, xcw_12.2.2, Nat.le_of_ble_eq_true rfl, xbf rfl, ix_cd_ok xc_247_ok (xg_no _ _)⟩
theorem xmk_248 : xmkP xm_248 :=
  ⟨rfl, xcw_12.1, xcw_12.2.1, xTs_at (k := 9) (i := 236) rfl rfl, xcw_12.2.2, Nat.le_of_ble_eq_true rfl, xbf rfl, ix_cd_ok xc_248_ok (xg_no _ _)⟩
theorem xmk_249 : xmkP xm_249 :=
  ⟨rfl, xcw_12.1, xcw_12.2.1, xTs_at (k := 10) (i := 4) rfl rfl, xcw_12.2.2, Nat.le_of_ble_eq_true rfl, xbf rfl, ix_cd_ok xc_249_ok (xg_no _ _)⟩
theorem xmk_250 : xmkP xm_250 :=
  ⟨rfl, xcw_12.1, xcw_12.2.1, xTs_at (k := 10) (i := 8) rfl rfl, xcw_12.2.2, Nat.le_of_ble_eq_true rfl, xbf rfl, ix_cd_ok xc_250_ok (xg_no _ _)⟩
theorem xmk_251 : xmkP xm_251 :=
  ⟨rfl, xcw_12.1, xcw_12.2.1, xTs_at (k := 10) (i := 16) rfl rfl, xcw_12.2.2, Nat.le_of_ble_eq_true rfl, xbf rfl, ix_cd_ok xc_251_ok (xg_no _ _)⟩
theorem xmk_252 : xmkP xm_252 :=
  ⟨rfl, xcw_12.1, xcw_12.2.1, xTs_at (k := 10) (i := 21) rfl rfl, xcw_12.2.2, Nat.le_of_ble_eq_true rfl, xbf rfl, ix_cd_ok xc_252_ok (xg_no _ _)⟩
theorem xmk_253 : xmkP xm_253 :=
  ⟨rfl, xcw_12.1, xcw_12.2.1, xTs_at (k := 10) (i := 47) rfl rfl, xcw_12.2.2, Nat.le_of_ble_eq_true rfl, xbf rfl, ix_cd_ok xc_253_ok (xg_no _ _)⟩
theorem xmk_254 : xmkP xm_254 :=
  ⟨rfl, xcw_12.1, xcw_12.2.1, xTs_at (k := 10) (i := 54) rfl rfl, xcw_12.2.2, Nat.le_of_ble_eq_true rfl, xbf rfl, ix_cd_ok xc_254_ok (xg_no _ _)⟩
theorem xmk_255 : xmkP xm_255 :=
  ⟨rfl, xcw_12.1, xcw_12.2.1, xTs_at (k := 10) (i := 97) rfl rfl, xcw_12.2.2, Nat.le_of_ble_eq_true rfl, xbf rfl, ix_cd_ok xc_255_ok (xg_no _ _)⟩
theorem xmk_256 : xmkP xm_256 :=
  ⟨rfl, xcw_12.1, xcw_12.2.1, xTs_at (k := 10) (i := 105) rfl rfl, xcw_12.2.2, Nat.le_of_ble_eq_true rfl, xbf rfl, ix_cd_ok xc_256_ok (xg_no _ _)⟩
theorem xmk_257 : xmkP xm_257 :=
  ⟨rfl, xcw_12.1, xcw_12.2.1, xTs_at (k := 10) (i := 149) rfl rfl, xcw_12.2.2, Nat.le_of_ble_eq_true rfl, xbf rfl, ix_cd_ok xc_257_ok (xg_no _ _)⟩
theorem xmk_258 : xmkP xm_258 :=
  ⟨rfl, xcw_12.1, xcw_12.2.1, xTs_at (k := 11) (i := 66) rfl rfl, xcw_12.2.2, Nat.le_of_ble_eq_true rfl, xbf rfl, ix_cd_ok xc_258_ok (xg_no _ _)⟩
theorem xmk_259 : xmkP xm_259 :=
  ⟨rfl, xcw_12.1, xcw_12.2.1, xTs_at (k := 10) (i := 31) rfl rfl, xcw_12.2.2, Nat.le_of_ble_eq_true rfl, xbf rfl, ix_cd_ok xc_259_ok (xg_no _ _)⟩
theorem xmk_260 : xmkP xm_260 :=
  ⟨rfl, xcw_12.1, xcw_12.2.1, xTs_at (k := 10) (i := 50) rfl rfl, xcw_12.2.2, Nat.le_of_ble_eq_true rfl, xbf rfl, ix_cd_ok xc_260_ok (xg_no _ _)⟩
theorem xmk_261 : xmkP xm_261 :=
  ⟨rfl, xcw_12.1, xcw_12.2.1, xTs_at (k := 10) (i := 39) rfl rfl, xcw_12.2.2, Nat.le_of_ble_eq_true rfl, xbf rfl, ix_cd_ok xc_261_ok (xg_no _ _)⟩
theorem xmk_262 : xmkP xm_262 :=
  ⟨rfl, xcw_12.1, xcw_12.2.1, xTs_at (k := 10) (i := 43) rfl rfl, xcw_12.2.2, Nat.le_of_ble_eq_true rfl, xbf rfl, ix_cd_ok xc_262_ok (xg_no _ _)⟩
theorem xmk_263 : xmkP xm_263 :=
  ⟨rfl, xcw_12.1, xcw_12.2.1, xTs_at (k := 10) (i := 61) rfl rfl, xcw_12.2.2, Nat.le_of_ble_eq_true rfl, xbf rfl, ix_cd_ok xc_263_ok (xg_no _ _)⟩
theorem xmk_264 : xmkP xm_264 :=
  ⟨rfl, xcw_12.1, xcw_12.2.1, xTs_at (k := 10) (i := 64) rfl rfl, xcw_12.2.2, Nat.le_of_ble_eq_true rfl, xbf rfl, ix_cd_ok xc_264_ok (xg_no _ _)⟩
theorem xmk_265 : xmkP xm_265 :=
  ⟨rfl, xcw_12.1, xcw_12.2.1, xTs_at (k := 10) (i := 58) rfl rfl, xcw_12.2.2, Nat.le_of_ble_eq_true rfl, xbf rfl, ix_cd_ok xc_265_ok (xg_no _ _)⟩
theorem xmk_266 : xmkP xm_266 :=
  ⟨rfl, xcw_12.1, xcw_12.2.1, xTs_at (k := 10) (i := 35) rfl rfl, xcw_12.2.2, Nat.le_of_ble_eq_true rfl, xbf rfl, ix_cd_ok xc_266_ok (xg_no _ _)⟩
theorem xmk_267 : xmkP xm_267 :=
  ⟨rfl, xcw_12.1, xcw_12.2.1, xTs_at (k := 10) (i := 27) rfl rfl, xcw_12.2.2, Nat.le_of_ble_eq_true rfl, xbf rfl, ix_cd_ok xc_267_ok (xg_no _ _)⟩
theorem xmk_268 : xmkP xm_268 :=
  ⟨rfl, xcw_12.1, xcw_12.2.1, xTs_at (k := 10) (i := 68) rfl rfl, xcw_12.2.2, Nat.le_of_ble_eq_true rfl, xbf rfl, ix_cd_ok xc_268_ok (xg_no _ _)⟩
theorem xmk_269 : xmkP xm_269 :=
  ⟨rfl, xcw_12.1, xcw_12.2.1, xTs_at (k := 10) (i := 72) rfl rfl, xcw_12.2.2, Nat.le_of_ble_eq_true rfl, xbf rfl, ix_cd_ok xc_269_ok (xg_no _ _)⟩
theorem xmk_270 : xmkP xm_270 :=
  ⟨rfl, xcw_12.1, xcw_12.2.1, xTs_at (k := 10) (i := 76) rfl rfl, xcw_12.2.2, Nat.le_of_ble_eq_true rfl, xbf rfl, ix_cd_ok xc_270_ok (xg_no _ _)⟩
theorem xmk_271 : xmkP xm_271 :=
  ⟨rfl, xcw_12.1, xcw_12.2.1, xTs_at (k := 10) (i := 84) rfl rfl, xcw_12.2.2, Nat.le_of_ble_eq_true rfl, xbf rfl, ix_cd_ok xc_271_ok (xg_no _ _)⟩
theorem xmk_272 : xmkP xm_272 :=
  ⟨rfl, xcw_12.1, xcw_12.2.1, xTs_at (k := 10) (i := 93) rfl rfl, xcw_12.2.2, Nat.le_of_ble_eq_true rfl, xbf rfl, ix_cd_ok xc_272_ok (xg_no _ _)⟩
theorem xmk_273 : xmkP xm_273 :=
  ⟨rfl, xcw_12.1, xcw_12.2.1, xTs_at (k := 10) (i := 101) rfl rfl, xcw_12.2.2, Nat.le_of_ble_eq_true rfl, xbf rfl, ix_cd_ok xc_273_ok (xg_no _ _)⟩
theorem xmk_274 : xmkP xm_274 :=
  ⟨rfl, xcw_12.1, xcw_12.2.1, xTs_at (k := 10) (i := 109) rfl rfl, xcw_12.2.2, Nat.le_of_ble_eq_true rfl, xbf rfl, ix_cd_ok xc_274_ok (xg_no _ _)⟩
theorem xmk_275 : xmkP xm_275 :=
  ⟨rfl, xcw_12.1, xcw_12.2.1, xTs_at (k := 10) (i := 89) rfl rfl, xcw_12.2.2, Nat.le_of_ble_eq_true rfl, xbf rfl, ix_cd_ok xc_275_ok (xg_no _ _)⟩
theorem xmk_276 : xmkP xm_276 :=
  ⟨rfl, xcw_12.1, xcw_12.2.1, xTs_at (k := 10) (i := 80) rfl rfl, xcw_12.2.2, Nat.le_of_ble_eq_true rfl, xbf rfl, ix_cd_ok xc_276_ok (xg_no _ _)⟩
theorem xmk_277 : xmkP xm_277 :=
  ⟨rfl, xcw_12.1, xcw_12.2.1, xTs_at (k := 10) (i := 116) rfl rfl, xcw_12.2.2, Nat.le_of_ble_eq_true rfl, xbf rfl, ix_cd_ok xc_277_ok (xg_no _ _)⟩
theorem xmk_278 : xmkP xm_278 :=
  ⟨rfl, xcw_12.1, xcw_12.2.1, xTs_at (k := 10) (i := 113) rfl rfl, xcw_12.2.2, Nat.le_of_ble_eq_true rfl, xbf rfl, ix_cd_ok xc_278_ok (xg_no _ _)⟩
theorem xmk_279 : xmkP xm_279 :=
  ⟨rfl, xcw_12.1, xcw_12.2.1, xTs_at (k := 10) (i := 132) rfl rfl, xcw_12.2.2, Nat.le_of_ble_eq_true rfl, xbf rfl, ix_cd_ok xc_279_ok (xg_no _ _)⟩
theorem xmk_280 : xmkP xm_280 :=
  ⟨rfl, xcw_12.1, xcw_12.2.1, xTs_at (k := 10) (i := 135) rfl rfl, xcw_12.2.2, Nat.le_of_ble_eq_true rfl, xbf rfl, ix_cd_ok xc_280_ok (xg_no _ _)⟩
theorem xmk_281 : xmkP xm_281 :=
  ⟨rfl, xcw_12.1, xcw_12.2.1, xTs_at (k := 10) (i := 128) rfl rfl, xcw_12.2.2, Nat.le_of_ble_eq_true rfl, xbf rfl, ix_cd_ok xc_281_ok (xg_no _ _)⟩
theorem xmk_282 : xmkP xm_282 :=
  ⟨rfl, xcw_12.1, xcw_12.2.1, xTs_at (k := 10) (i := 124) rfl rfl, xcw_12.2.2, Nat.le_of_ble_eq_true rfl, xbf rfl, ix_cd_ok xc_282_ok (xg_no _ _)⟩
theorem xmk_283 : xmkP xm_283 :=
  ⟨rfl, xcw_12.1, xcw_12.2.1, xTs_at (k := 10) (i := 120) rfl rfl, xcw_12.2.2, Nat.le_of_ble_eq_true rfl, xbf rfl, ix_cd_ok xc_283_ok (xg_no _ _)⟩
theorem xmk_284 : xmkP xm_284 :=
  ⟨rfl, xcw_12.1, xcw_12.2.1, xTs_at (k := 10) (i := 145) rfl rfl, xcw_12.2.2, Nat.le_of_ble_eq_true rfl, xbf rfl, ix_cd_ok xc_284_ok (xg_no _ _)⟩
theorem xmk_285 : xmkP xm_285 :=
  ⟨rfl, xcw_12.1, xcw_12.2.1, xTs_at (k := 10) (i := 141) rfl rfl, xcw_12.2.2, Nat.le_of_ble_eq_true rfl, xbf rfl, ix_cd_ok xc_285_ok (xg_no _ _)⟩
theorem xmk_286 : xmkP xm_286 :=
  ⟨rfl, xcw_12.1, xcw_12.2.1, xTs_at (k := 10) (i := 161) rfl rfl, xcw_12.2.2, Nat.le_of_ble_eq_true rfl, xbf rfl, ix_cd_ok xc_286_ok (xg_no _ _)⟩
theorem xmk_287 : xmkP xm_287 :=
  ⟨rfl, xcw_12.1, xcw_12.2.1, xTs_at (k := 10) (i := 157) rfl rfl, xcw_12.2.2, Nat.le_of_ble_eq_true rfl, xbf rfl, ix_cd_ok xc_287_ok (xg_no _ _)⟩
theorem xmk_288 : xmkP xm_288 :=
  ⟨rfl, xcw_12.1, xcw_12.2.1, xTs_at (k := 10) (i := 165) rfl rfl, xcw_12.2.2, Nat.le_of_ble_eq_true rfl, xbf rfl, ix_cd_ok xc_288_ok (xg_no _ _)⟩
theorem xmk_289 : xmkP xm_289 :=
  ⟨rfl, xcw_12.1, xcw_12.2.1, xTs_at (k := 10) (i := 169) rfl rfl, xcw_12.2.2, Nat.le_of_ble_eq_true rfl, xbf rfl, ix_cd_ok xc_289_ok (xg_no _ _)⟩
theorem xmk_290 : xmkP xm_290 :=
  ⟨rfl, xcw_12.1, xcw_12.2.1, xTs_at (k := 10) (i := 181) rfl rfl, xcw_12.2.2, Nat.le_of_ble_eq_true rfl, xbf rfl, ix_cd_ok xc_290_ok (xg_no _ _)⟩
theorem xmk_291 : xmkP xm_291 :=
  ⟨rfl, xcw_12.1, xcw_12.2.1, xTs_at (k := 10) (i := 177) rfl rfl, xcw_12.2.2, Nat.le_of_ble_eq_true rfl, xbf rfl, ix_cd_ok xc_291_ok (xg_no _ _)⟩
theorem xmk_292 : xmkP xm_292 :=
  ⟨rfl, xcw_12.1, xcw_12.2.1, xTs_at (k := 10) (i := 153) rfl rfl, xcw_12.2.2, Nat.le_of_ble_eq_true rfl, xbf rfl, ix_cd_ok xc_292_ok (xg_no _ _)⟩
theorem xmk_293 : xmkP xm_293 :=
  ⟨rfl, xcw_12.1, xcw_12.2.1, xTs_at (k := 10) (i := 173) rfl rfl, xcw_12.2.2, Nat.le_of_ble_eq_true rfl, xbf rfl, ix_cd_ok xc_293_ok (xg_no _ _)⟩
theorem xmk_294 : xmkP xm_294 :=
  ⟨rfl, xcw_12.1, xcw_12.2.1, xTs_at (k := 10) (i := 185) rfl rfl, xcw_12.2.2, Nat.le_of_ble_eq_true rfl, xbf rfl, ix_cd_ok xc_294_ok (xg_no _ _)⟩
theorem xmk_295 : xmkP xm_295 :=
  ⟨rfl, xcw_12.1, xcw_12.2.1, xTs_at (k := 10) (i := 189) rfl rfl, xcw_12.2.2, Nat.le_of_ble_eq_true rfl, xbf rfl, ix_cd_ok xc_295_ok (xg_no _ _)⟩
theorem xmk_296 : xmkP xm_296 :=
  ⟨rfl, xcw_12.1, xcw_12.2.1, xTs_at (k := 10) (i := 193) rfl rfl, xcw_12.2.2, Nat.le_of_ble_eq_true rfl, xbf rfl, ix_cd_ok xc_296_ok (xg_no _ _)⟩
theorem xmk_297 : xmkP xm_297 :=
  ⟨rfl, xcw_12.1, xcw_12.2.1, xTs_at (k := 10) (i := 197) rfl rfl, xcw_12.2.2, Nat.le_of_ble_eq_true rfl, xbf rfl, ix_cd_ok xc_297_ok (xg_no _ _)⟩
theorem xmk_298 : xmkP xm_298 :=
  ⟨rfl, xcw_12.1, xcw_12.2.1, xTs_at (k := 10) (i := 202) rfl rfl, xcw_12.2.2, Nat.le_of_ble_eq_true rfl, xbf rfl, ix_cd_ok xc_298_ok (xg_no _ _)⟩
theorem xmk_299 : xmkP xm_299 :=
  ⟨rfl, xcw_12.1, xcw_12.2.1, xTs_at (k := 10) (i := 207) rfl rfl, xcw_12.2.2, Nat.le_of_ble_eq_true rfl, xbf rfl, ix_cd_ok xc_299_ok (xg_no _ _)⟩
theorem xmk_300 : xmkP xm_300 :=
  ⟨rfl, xcw_12.1, xcw_12.2.1, xTs_at (k := 10) (i := 212) rfl rfl, xcw_12.2.2, Nat.le_of_ble_eq_true rfl, xbf rfl, ix_cd_ok xc_300_ok (xg_no _ _)⟩
theorem xmk_301 : xmkP xm_301 :=
  ⟨rfl, xcw_12.1, xcw_12.2.1, xTs_at (k := 10) (i := 224) rfl rfl, xcw_12.2.2, Nat.le_of_ble_eq_true rfl, xbf rfl, ix_cd_ok xc_301_ok (xg_no _ _)⟩
theorem xmk_302 : xmkP xm_302 :=
  ⟨rfl, xcw_12.1, xcw_12.2.1, xTs_at (k := 10) (i := 220) rfl rfl, xcw_12.2.2, Nat.le_of_ble_eq_true rfl, xbf rfl, ix_cd_ok xc_302_ok (xg_no _ _)⟩
theorem xmk_303 : xmkP xm_303 :=
  ⟨rfl, xcw_12.1, xcw_12.2.1, xTs_at (k := 10) (i := 236) rfl rfl, xcw_12.2.2, Nat.le_of_ble_eq_true rfl, xbf rfl, ix_cd_ok xc_303_ok (xg_no _ _)⟩
theorem xmk_304 : xmkP xm_304 :=
  ⟨rfl, xcw_12.1, xcw_12.2.1, xTs_at (k := 10) (i := 232) rfl rfl, xcw_12.2.2, Nat.le_of_ble_eq_true rfl, xbf rfl, ix_cd_ok xc_304_ok (xg_no _ _)⟩
theorem xmk_305 : xmkP xm_305 :=
  ⟨rfl, xcw_12.1, xcw_12.2.1, xTs_at (k := 10) (i := 228) rfl rfl, xcw_12.2.2, Nat.le_of_ble_eq_true rfl, xbf rfl, ix_cd_ok xc_305_ok (xg_no _ _)⟩
theorem xmk_306 : xmkP xm_306 :=
  ⟨rfl, xcw_12.1, xcw_12.2.1, xTs_at (k := 11) (i := 23) rfl rfl, xcw_12.2.2, Nat.le_of_ble_eq_true rfl, xbf rfl, ix_cd_ok xc_306_ok (xg_no _ _)⟩
theorem xmk_307 : xmkP xm_307 :=
  ⟨rfl, xcw_12.1, xcw_12.2.1, xTs_at (k := 10) (i := 239) rfl rfl, xcw_12.2.2, Nat.le_of_ble_eq_true rfl, xbf rfl, ix_cd_ok xc_307_ok (xg_no _ _)⟩
theorem xmk_308 : xmkP xm_308 :=
  ⟨rfl, xcw_12.1, xcw_12.2.1, xTs_at (k := 11) (i := 11) rfl rfl, xcw_12.2.2, Nat.le_of_ble_eq_true rfl, xbf rfl, ix_cd_ok xc_308_ok (xg_no _ _)⟩
theorem xmk_309 : xmkP xm_309 :=
  ⟨rfl, xcw_12.1, xcw_12.2.1, xTs_at (k := 11) (i := 7) rfl rfl, xcw_12.2.2, Nat.le_of_ble_eq_true rfl, xbf rfl, ix_cd_ok xc_309_ok (xg_no _ _)⟩
theorem xmk_310 : xmkP xm_310 :=
  ⟨rfl, xcw_12.1, xcw_12.2.1, xTs_at (k := 11) (i := 3) rfl rfl, xcw_12.2.2, Nat.le_of_ble_eq_true rfl, xbf rfl, ix_cd_ok xc_310_ok (xg_no _ _)⟩
theorem xmk_311 : xmkP xm_311 :=
  ⟨rfl, xcw_12.1, xcw_12.2.1, xTs_at (k := 11) (i := 19) rfl rfl, xcw_12.2.2, Nat.le_of_ble_eq_true rfl, xbf rfl, ix_cd_ok xc_311_ok (xg_no _ _)⟩
theorem xmk_312 : xmkP xm_312 :=
  ⟨rfl, xcw_12.1, xcw_12.2.1, xTs_at (k := 11) (i := 15) rfl rfl, xcw_12.2.2, Nat.le_of_ble_eq_true rfl, xbf rfl, ix_cd_ok xc_312_ok (xg_no _ _)⟩
theorem xmk_313 : xmkP xm_313 :=
  ⟨rfl, xcw_12.1, xcw_12.2.1, xTs_at (k := 11) (i := 27) rfl rfl, xcw_12.2.2, Nat.le_of_ble_eq_true rfl, xbf rfl, ix_cd_ok xc_313_ok (xg_no _ _)⟩
theorem xmk_314 : xmkP xm_314 :=
  ⟨rfl, xcw_12.1, xcw_12.2.1, xTs_at (k := 10) (i := 216) rfl rfl, xcw_12.2.2, Nat.le_of_ble_eq_true rfl, xbf rfl, ix_cd_ok xc_314_ok (xg_no _ _)⟩
theorem xmk_315 : xmkP xm_315 :=
  ⟨rfl, xcw_12.1, xcw_12.2.1, xTs_at (k := 11) (i := 35) rfl rfl, xcw_12.2.2, Nat.le_of_ble_eq_true rfl, xbf rfl, ix_cd_ok xc_315_ok (xg_no _ _)⟩
theorem xmk_316 : xmkP xm_316 :=
  ⟨rfl, xcw_12.1, xcw_12.2.1, xTs_at (k := 11) (i := 31) rfl rfl, xcw_12.2.2, Nat.le_of_ble_eq_true rfl, xbf rfl, ix_cd_ok xc_316_ok (xg_no _ _)⟩
theorem xmk_317 : xmkP xm_317 :=
  ⟨rfl, xcw_12.1, xcw_12.2.1, xTs_at (k := 11) (i := 39) rfl rfl, xcw_12.2.2, Nat.le_of_ble_eq_true rfl, xbf rfl, ix_cd_ok xc_317_ok (xg_no _ _)⟩
theorem xmk_318 : xmkP xm_318 :=
  ⟨rfl, xcw_12.1, xcw_12.2.1, xTs_at (k := 11) (i := 44) rfl rfl, xcw_12.2.2, Nat.le_of_ble_eq_true rfl, xbf rfl, ix_cd_ok xc_318_ok (xg_no _ _)⟩
theorem xmk_319 : xmkP xm_319 :=
  ⟨rfl, xcw_12.1, xcw_12.2.1, xTs_at (k := 11) (i := 48) rfl rfl, xcw_12.2.2, Nat.le_of_ble_eq_true rfl, xbf rfl, ix_cd_ok xc_319_ok (xg_no _ _)⟩
theorem xmk_320 : xmkP xm_320 :=
  ⟨rfl, xcw_12.1, xcw_12.2.1, xTs_at (k := 11) (i := 58) rfl rfl, xcw_12.2.2, Nat.le_of_ble_eq_true rfl, xbf rfl, ix_cd_ok xc_320_ok (xg_no _ _)⟩
theorem xmk_321 : xmkP xm_321 :=
  ⟨rfl, xcw_12.1, xcw_12.2.1, xTs_at (k := 11) (i := 54) rfl rfl, xcw_12.2.2, Nat.le_of_ble_eq_true rfl, xbf rfl, ix_cd_ok xc_321_ok (xg_no _ _)⟩
theorem xmk_322 : xmkP xm_322 :=
  ⟨rfl, xcw_12.1, xcw_12.2.1, xTs_at (k := 11) (i := 62) rfl rfl, xcw_12.2.2, Nat.le_of_ble_eq_true rfl, xbf rfl, ix_cd_ok xc_322_ok (xg_no _ _)⟩
theorem xmk_323 : xmkP xm_323 :=
  ⟨rfl, xcw_12.1, xcw_12.2.1, xTs_at (k := 11) (i := 82) rfl rfl, xcw_12.2.2, Nat.le_of_ble_eq_true rfl, xbf rfl, ix_cd_ok xc_323_ok (xg_no _ _)⟩
theorem xmk_324 : xmkP xm_324 :=
  ⟨rfl, xcw_12.1, xcw_12.2.1, xTs_at (k := 11) (i := 74) rfl rfl, xcw_12.2.2, Nat.le_of_ble_eq_true rfl, xbf rfl, ix_cd_ok xc_324_ok (xg_no _ _)⟩
theorem xmk_325 : xmkP xm_325 :=
  ⟨rfl, xcw_12.1, xcw_12.2.1, xTs_at (k := 11) (i := 78) rfl rfl, xcw_12.2.2, Nat.le_of_ble_eq_true rfl, xbf rfl, ix_cd_ok xc_325_ok (xg_no _ _)⟩
theorem xmk_326 : xmkP xm_326 :=
  ⟨rfl, xcw_12.1, xcw_12.2.1, xTs_at (k := 11) (i := 70) rfl rfl, xcw_12.2.2, Nat.le_of_ble_eq_true rfl, xbf rfl, ix_cd_ok xc_326_ok (xg_no _ _)⟩
theorem xmk_327 : xmkP xm_327 :=
  ⟨rfl, xcw_12.1, xcw_12.2.1, xTs_at (k := 11) (i := 94) rfl rfl, xcw_12.2.2, Nat.le_of_ble_eq_true rfl, xbf rfl, ix_cd_ok xc_327_ok (xg_no _ _)⟩
theorem xmk_328 : xmkP xm_328 :=
  ⟨rfl, xcw_12.1, xcw_12.2.1, xTs_at (k := 11) (i := 103) rfl rfl, xcw_12.2.2, Nat.le_of_ble_eq_true rfl, xbf rfl, ix_cd_ok xc_328_ok (xg_no _ _)⟩
theorem xmk_329 : xmkP xm_329 :=
  ⟨rfl, xcw_12.1, xcw_12.2.1, xTs_at (k := 11) (i := 99) rfl rfl, xcw_12.2.2, Nat.le_of_ble_eq_true rfl, xbf rfl, ix_cd_ok xc_329_ok (xg_no _ _)⟩
theorem xmk_330 : xmkP xm_330 :=
  ⟨rfl, xcw_12.1, xcw_12.2.1, xTs_at (k := 11) (i := 108) rfl rfl, xcw_12.2.2, Nat.le_of_ble_eq_true rfl, xbf rfl, ix_cd_ok xc_330_ok (xg_no _ _)⟩
theorem xmk_331 : xmkP xm_331 :=
  ⟨rfl, xcw_12.1, xcw_12.2.1, xTs_at (k := 11) (i := 90) rfl rfl, xcw_12.2.2, Nat.le_of_ble_eq_true rfl, xbf rfl, ix_cd_ok xc_331_ok (xg_no _ _)⟩
theorem xmk_332 : xmkP xm_332 :=
  ⟨rfl, xcw_12.1, xcw_12.2.1, xTs_at (k := 11) (i := 86) rfl rfl, xcw_12.2.2, Nat.le_of_ble_eq_true rfl, xbf rfl, ix_cd_ok xc_332_ok (xg_no _ _)⟩
theorem xmk_333 : xmkP xm_333 :=
  ⟨rfl, xcw_12.1, xcw_12.2.1, xTs_at (k := 11) (i := 112) rfl rfl, xcw_12.2.2, Nat.le_of_ble_eq_true rfl, xbf rfl, ix_cd_ok xc_333_ok (xg_no _ _)⟩
theorem xmk_334 : xmkP xm_334 :=
  ⟨rfl, xcw_12.1, xcw_12.2.1, xTs_at (k := 11) (i := 116) rfl rfl, xcw_12.2.2, Nat.le_of_ble_eq_true rfl, xbf rfl, ix_cd_ok xc_334_ok (xg_no _ _)⟩
theorem xmk_335 : xmkP xm_335 :=
  ⟨rfl, xcw_12.1, xcw_12.2.1, xTs_at (k := 11) (i := 120) rfl rfl, xcw_12.2.2, Nat.le_of_ble_eq_true rfl, xbf rfl, ix_cd_ok xc_335_ok (xg_no _ _)⟩
theorem xmk_336 : xmkP xm_336 :=
  ⟨rfl, xcw_12.1, xcw_12.2.1, xTs_at (k := 11) (i := 124) rfl rfl, xcw_12.2.2, Nat.le_of_ble_eq_true rfl, xbf rfl, ix_cd_ok xc_336_ok (xg_no _ _)⟩
theorem xmk_337 : xmkP xm_337 :=
  ⟨rfl, xcw_12.1, xcw_12.2.1, xTs_at (k := 8) (i := 12) rfl rfl, xcw_12.2.2, Nat.le_of_ble_eq_true rfl, xbf rfl, ix_cd_ok xc_337_ok (xg_no _ _)⟩
theorem xmk_338 : xmkP xm_338 :=
  ⟨rfl, xcw_12.1, xcw_12.2.1, xTs_at (k := 11) (i := 154) rfl rfl, xcw_12.2.2, Nat.le_of_ble_eq_true rfl, xbf rfl, ix_cd_ok xc_338_ok (xg_no _ _)⟩
theorem xmk_339 : xmkP xm_339 :=
  ⟨rfl, xcw_12.1, xcw_12.2.1, xTs_at (k := 11) (i := 166) rfl rfl, xcw_12.2.2, Nat.le_of_ble_eq_true rfl, xbf rfl, ix_cd_ok xc_339_ok (xg_no _ _)⟩
theorem xmk_340 : xmkP xm_340 :=
  ⟨rfl, xcw_12.1, xcw_12.2.1, xTs_at (k := 11) (i := 162) rfl rfl, xcw_12.2.2, Nat.le_of_ble_eq_true rfl, xbf rfl, ix_cd_ok xc_340_ok (xg_no _ _)⟩
theorem xmk_341 : xmkP xm_341 :=
  ⟨rfl, xcw_12.1, xcw_12.2.1, xTs_at (k := 11) (i := 135) rfl rfl, xcw_12.2.2, Nat.le_of_ble_eq_true rfl, xbf rfl, ix_cd_ok xc_341_ok (xg_no _ _)⟩
theorem xmk_342 : xmkP xm_342 :=
  ⟨rfl, xcw_12.1, xcw_12.2.1, xTs_at (k := 11) (i := 138) rfl rfl, xcw_12.2.2, Nat.le_of_ble_eq_true rfl, xbf rfl, ix_cd_ok xc_342_ok (xg_no _ _)⟩
theorem xmk_343 : xmkP xm_343 :=
  ⟨rfl, xcw_12.1, xcw_12.2.1, xTs_at (k := 11) (i := 142) rfl rfl, xcw_12.2.2, Nat.le_of_ble_eq_true rfl, xbf rfl, ix_cd_ok xc_343_ok (xg_no _ _)⟩
theorem xmk_344 : xmkP xm_344 :=
  ⟨rfl, xcw_12.1, xcw_12.2.1, xTs_at (k := 11) (i := 132) rfl rfl, xcw_12.2.2, Nat.le_of_ble_eq_true rfl, xbf rfl, ix_cd_ok xc_344_ok (xg_no _ _)⟩
theorem xmk_345 : xmkP xm_345 :=
  ⟨rfl, xcw_12.1, xcw_12.2.1, xTs_at (k := 11) (i := 178) rfl rfl, xcw_12.2.2, Nat.le_of_ble_eq_true rfl, xbf rfl, ix_cd_ok xc_345_ok (xg_no _ _)⟩
theorem xmk_346 : xmkP xm_346 :=
  ⟨rfl, xcw_12.1, xcw_12.2.1, xTs_at (k := 11) (i := 146) rfl rfl, xcw_12.2.2, Nat.le_of_ble_eq_true rfl, xbf rfl, ix_cd_ok xc_346_ok (xg_no _ _)⟩
theorem xmk_347 : xmkP xm_347 :=
  ⟨rfl, xcw_12.1, xcw_12.2.1, xTs_at (k := 11) (i := 198) rfl rfl, xcw_12.2.2, Nat.le_of_ble_eq_true rfl, xbf rfl, ix_cd_ok xc_347_ok (xg_no _ _)⟩
theorem xmk_348 : xmkP xm_348 :=
  ⟨rfl, xcw_12.1, xcw_12.2.1, xTs_at (k := 11) (i := 222) rfl rfl, xcw_12.2.2, Nat.le_of_ble_eq_true rfl, xbf rfl, ix_cd_ok xc_348_ok (xg_no _ _)⟩
theorem xmk_349 : xmkP xm_349 :=
  ⟨rfl, xcw_12.1, xcw_12.2.1, xTs_at (k := 11) (i := 158) rfl rfl, xcw_12.2.2, Nat.le_of_ble_eq_true rfl, xbf rfl, ix_cd_ok xc_349_ok (xg_no _ _)⟩
theorem xmk_350 : xmkP xm_350 :=
  ⟨rfl, xcw_12.1, xcw_12.2.1, xTs_at (k := 11) (i := 190) rfl rfl, xcw_12.2.2, Nat.le_of_ble_eq_true rfl, xbf rfl, ix_cd_ok xc_350_ok (xg_no _ _)⟩
theorem xmk_351 : xmkP xm_351 :=
  ⟨rfl, xcw_12.1, xcw_12.2.1, xTs_at (k := 11) (i := 202) rfl rfl, xcw_12.2.2, Nat.le_of_ble_eq_true rfl, xbf rfl, ix_cd_ok xc_351_ok (xg_no _ _)⟩
theorem xmk_352 : xmkP xm_352 :=
  ⟨rfl, xcw_12.1, xcw_12.2.1, xTs_at (k := 11) (i := 182) rfl rfl, xcw_12.2.2, Nat.le_of_ble_eq_true rfl, xbf rfl, ix_cd_ok xc_352_ok (xg_no _ _)⟩
theorem xmk_353 : xmkP xm_353 :=
  ⟨rfl, xcw_12.1, xcw_12.2.1, xTs_at (k := 11) (i := 174) rfl rfl, xcw_12.2.2, Nat.le_of_ble_eq_true rfl, xbf rfl, ix_cd_ok xc_353_ok (xg_no _ _)⟩
theorem xmk_354 : xmkP xm_354 :=
  ⟨rfl, xcw_12.1, xcw_12.2.1, xTs_at (k := 11) (i := 233) rfl rfl, xcw_12.2.2, Nat.le_of_ble_eq_true rfl, xbf rfl, ix_cd_ok xc_354_ok (xg_no _ _)⟩
theorem xmk_355 : xmkP xm_355 :=
  ⟨rfl, xcw_12.1, xcw_12.2.1, xTs_at (k := 11) (i := 230) rfl rfl, xcw_12.2.2, Nat.le_of_ble_eq_true rfl, xbf rfl, ix_cd_ok xc_355_ok (xg_no _ _)⟩
theorem xmk_356 : xmkP xm_356 :=
  ⟨rfl, xcw_12.1, xcw_12.2.1, xTs_at (k := 11) (i := 214) rfl rfl, xcw_12.2.2, Nat.le_of_ble_eq_true rfl, xbf rfl, ix_cd_ok xc_356_ok (xg_no _ _)⟩
theorem xmk_357 : xmkP xm_357 :=
  ⟨rfl, xcw_12.1, xcw_12.2.1, xTs_at (k := 12) (i := 8) rfl rfl, xcw_12.2.2, Nat.le_of_ble_eq_true rfl, xbf rfl, ix_cd_ok xc_357_ok (xg_no _ _)⟩
theorem xmk_358 : xmkP xm_358 :=
  ⟨rfl, xcw_12.1, xcw_12.2.1, xTs_at (k := 11) (i := 226) rfl rfl, xcw_12.2.2, Nat.le_of_ble_eq_true rfl, xbf rfl, ix_cd_ok xc_358_ok (xg_no _ _)⟩
theorem xmk_359 : xmkP xm_359 :=
  ⟨rfl, xcw_12.1, xcw_12.2.1, xTs_at (k := 11) (i := 218) rfl rfl, xcw_12.2.2, Nat.le_of_ble_eq_true rfl, xbf rfl, ix_cd_ok xc_359_ok (xg_no _ _)⟩
theorem xmk_360 : xmkP xm_360 :=
  ⟨rfl, xcw_12.1, xcw_12.2.1, xTs_at (k := 11) (i := 210) rfl rfl, xcw_12.2.2, Nat.le_of_ble_eq_true rfl, xbf rfl, ix_cd_ok xc_360_ok (xg_no _ _)⟩
theorem xmk_361 : xmkP xm_361 :=
  ⟨rfl, xcw_12.1, xcw_12.2.1, xTs_at (k := 12) (i := 5) rfl rfl, xcw_12.2.2, Nat.le_of_ble_eq_true rfl, xbf rfl, ix_cd_ok xc_361_ok (xg_no _ _)⟩
theorem xmk_362 : xmkP xm_362 :=
  ⟨rfl, xcw_12.1, xcw_12.2.1, xTs_at (k := 12) (i := 1) rfl rfl, xcw_12.2.2, Nat.le_of_ble_eq_true rfl, xbf rfl, ix_cd_ok xc_362_ok (xg_no _ _)⟩
theorem xmk_363 : xmkP xm_363 :=
  ⟨rfl, xcw_12.1, xcw_12.2.1, xTs_at (k := 11) (i := 237) rfl rfl, xcw_12.2.2, Nat.le_of_ble_eq_true rfl, xbf rfl, ix_cd_ok xc_363_ok (xg_no _ _)⟩
theorem xmk_364 : xmkP xm_364 :=
  ⟨rfl, xcw_12.1, xcw_12.2.1, xTs_at (k := 11) (i := 206) rfl rfl, xcw_12.2.2, Nat.le_of_ble_eq_true rfl, xbf rfl, ix_cd_ok xc_364_ok (xg_no _ _)⟩
theorem xmk_365 : xmkP xm_365 :=
  ⟨rfl, xcw_12.1, xcw_12.2.1, xTs_at (k := 11) (i := 170) rfl rfl, xcw_12.2.2, Nat.le_of_ble_eq_true rfl, xbf rfl, ix_cd_ok xc_365_ok (xg_no _ _)⟩
theorem xmk_366 : xmkP xm_366 :=
  ⟨rfl, xcw_12.1, xcw_12.2.1, xTs_at (k := 12) (i := 11) rfl rfl, xcw_12.2.2, Nat.le_of_ble_eq_true rfl, xbf rfl, ix_cd_ok xc_366_ok (xg_no _ _)⟩
theorem xmk_367 : xmkP xm_367 :=
  ⟨rfl, xcw_12.1, xcw_12.2.1, xTs_at (k := 11) (i := 194) rfl rfl, xcw_12.2.2, Nat.le_of_ble_eq_true rfl, xbf rfl, ix_cd_ok xc_367_ok (xg_no _ _)⟩
theorem xmk_368 : xmkP xm_368 :=
  ⟨rfl, xcw_12.1, xcw_12.2.1, xTs_at (k := 11) (i := 186) rfl rfl, xcw_12.2.2, Nat.le_of_ble_eq_true rfl, xbf rfl, ix_cd_ok xc_368_ok (xg_no _ _)⟩
theorem xmk_369 : xmkP xm_369 :=
  ⟨rfl, xcw_12.1, xcw_12.2.1, xTs_at (k := 11) (i := 150) rfl rfl, xcw_12.2.2, Nat.le_of_ble_eq_true rfl, xbf rfl, ix_cd_ok xc_369_ok (xg_no _ _)⟩
theorem xmk_370 : xmkP xm_370 :=
  ⟨rfl, xcw_12.1, xcw_12.2.1, xTs_at (k := 12) (i := 15) rfl rfl, xcw_12.2.2, Nat.le_of_ble_eq_true rfl, xbf rfl, ix_cd_ok xc_370_ok (xg_no _ _)⟩
theorem xmk_371 : xmkP xm_371 :=
  ⟨rfl, xcw_12.1, xcw_12.2.1, xTs_at (k := 11) (i := 128) rfl rfl, xcw_12.2.2, Nat.le_of_ble_eq_true rfl, xbf rfl, ix_cd_ok xc_371_ok (xg_no _ _)⟩
theorem xmk_372 : xmkP xm_372 :=
  ⟨rfl, xcw_12.1, xcw_12.2.1, xTs_at (k := 12) (i := 19) rfl rfl, xcw_12.2.2, Nat.le_of_ble_eq_true rfl, xbf rfl, ix_cd_ok xc_372_ok (xg_no _ _)⟩
theorem xmk_373 : xmkP xm_373 :=
  ⟨rfl, xcw_12.1, xcw_12.2.1, xTs_at (k := 12) (i := 31) rfl rfl, xcw_12.2.2, Nat.le_of_ble_eq_true rfl, xbf rfl, ix_cd_ok xc_373_ok (xg_no _ _)⟩
theorem xmk_374 : xmkP xm_374 :=
  ⟨rfl, xcw_12.1, xcw_12.2.1, xTs_at (k := 12) (i := 47) rfl rfl, xcw_12.2.2, Nat.le_of_ble_eq_true rfl, xbf rfl, ix_cd_ok xc_374_ok (xg_no _ _)⟩
theorem xmk_375 : xmkP xm_375 :=
  ⟨rfl, xcw_12.1, xcw_12.2.1, xTs_at (k := 12) (i := 27) rfl rfl, xcw_12.2.2, Nat.le_of_ble_eq_true rfl, xbf rfl, ix_cd_ok xc_375_ok (xg_no _ _)⟩
theorem xmk_376 : xmkP xm_376 :=
  ⟨rfl, xcw_12.1, xcw_12.2.1, xTs_at (k := 12) (i := 108) rfl rfl, xcw_12.2.2, Nat.le_of_ble_eq_true rfl, xbf rfl, ix_cd_ok xc_376_ok (xg_no _ _)⟩
theorem xmk_377 : xmkP xm_377 :=
  ⟨rfl, xcw_12.1, xcw_12.2.1, xTs_at (k := 12) (i := 43) rfl rfl, xcw_12.2.2, Nat.le_of_ble_eq_true rfl, xbf rfl, ix_cd_ok xc_377_ok (xg_no _ _)⟩
theorem xmk_378 : xmkP xm_378 :=
  ⟨rfl, xcw_12.1, xcw_12.2.1, xTs_at (k := 12) (i := 138) rfl rfl, xcw_12.2.2, Nat.le_of_ble_eq_true rfl, xbf rfl, ix_cd_ok xc_378_ok (xg_no _ _)⟩
theorem xmk_379 : xmkP xm_379 :=
  ⟨rfl, xcw_12.1, xcw_12.2.1, xTs_at (k := 12) (i := 23) rfl rfl, xcw_12.2.2, Nat.le_of_ble_eq_true rfl, xbf rfl, ix_cd_ok xc_379_ok (xg_no _ _)⟩
theorem xmk_380 : xmkP xm_380 :=
  ⟨rfl, xcw_12.1, xcw_12.2.1, xTs_at (k := 12) (i := 35) rfl rfl, xcw_12.2.2, Nat.le_of_ble_eq_true rfl, xbf rfl, ix_cd_ok xc_380_ok (xg_no _ _)⟩
theorem xmk_381 : xmkP xm_381 :=
  ⟨rfl, xcw_12.1, xcw_12.2.1, xTs_at (k := 12) (i := 39) rfl rfl, xcw_12.2.2, Nat.le_of_ble_eq_true rfl, xbf rfl, ix_cd_ok xc_381_ok (xg_no _ _)⟩
theorem xmk_382 : xmkP xm_382 :=
  ⟨rfl, xcw_12.1, xcw_12.2.1, xTs_at (k := 12) (i := 100) rfl rfl, xcw_12.2.2, Nat.le_of_ble_eq_true rfl, xbf rfl, ix_cd_ok xc_382_ok (xg_no _ _)⟩
theorem xmk_383 : xmkP xm_383 :=
  ⟨rfl, xcw_12.1, xcw_12.2.1, xTs_at (k := 12) (i := 55) rfl rfl, xcw_12.2.2, Nat.le_of_ble_eq_true rfl, xbf rfl, ix_cd_ok xc_383_ok (xg_no _ _)⟩
theorem xmk_384 : xmkP xm_384 :=
  ⟨rfl, xcw_12.1, xcw_12.2.1, xTs_at (k := 12) (i := 58) rfl rfl, xcw_12.2.2, Nat.le_of_ble_eq_true rfl, xbf rfl, ix_cd_ok xc_384_ok (xg_no _ _)⟩
theorem xmk_385 : xmkP xm_385 :=
  ⟨rfl, xcw_12.1, xcw_12.2.1, xTs_at (k := 12) (i := 51) rfl rfl, xcw_12.2.2, Nat.le_of_ble_eq_true rfl, xbf rfl, ix_cd_ok xc_385_ok (xg_no _ _)⟩
theorem xmk_386 : xmkP xm_386 :=
  ⟨rfl, xcw_12.1, xcw_12.2.1, xTs_at (k := 12) (i := 66) rfl rfl, xcw_12.2.2, Nat.le_of_ble_eq_true rfl, xbf rfl, ix_cd_ok xc_386_ok (xg_no _ _)⟩
theorem xmk_387 : xmkP xm_387 :=
  ⟨rfl, xcw_12.1, xcw_12.2.1, xTs_at (k := 12) (i := 83) rfl rfl, xcw_12.2.2, Nat.le_of_ble_eq_true rfl, xbf rfl, ix_cd_ok xc_387_ok (xg_no _ _)⟩
theorem xmk_388 : xmkP xm_388 :=
  ⟨rfl, xcw_12.1, xcw_12.2.1, xTs_at (k := 12) (i := 92) rfl rfl, xcw_12.2.2, Nat.le_of_ble_eq_true rfl, xbf rfl, ix_cd_ok xc_388_ok (xg_no _ _)⟩
theorem xmk_389 : xmkP xm_389 :=
  ⟨rfl, xcw_12.1, xcw_12.2.1, xTs_at (k := 12) (i := 96) rfl rfl, xcw_12.2.2, Nat.le_of_ble_eq_true rfl, xbf rfl, ix_cd_ok xc_389_ok (xg_no _ _)⟩
theorem xmk_390 : xmkP xm_390 :=
  ⟨rfl, xcw_12.1, xcw_12.2.1, xTs_at (k := 12) (i := 79) rfl rfl, xcw_12.2.2, Nat.le_of_ble_eq_true rfl, xbf rfl, ix_cd_ok xc_390_ok (xg_no _ _)⟩
theorem xmk_391 : xmkP xm_391 :=
  ⟨rfl, xcw_12.1, xcw_12.2.1, xTs_at (k := 12) (i := 88) rfl rfl, xcw_12.2.2, Nat.le_of_ble_eq_true rfl, xbf rfl, ix_cd_ok xc_391_ok (xg_no _ _)⟩
theorem xmk_392 : xmkP xm_392 :=
  ⟨rfl, xcw_12.1, xcw_12.2.1, xTs_at (k := 12) (i := 71) rfl rfl, xcw_12.2.2, Nat.le_of_ble_eq_true rfl, xbf rfl, ix_cd_ok xc_392_ok (xg_no _ _)⟩
theorem xmk_393 : xmkP xm_393 :=
  ⟨rfl, xcw_12.1, xcw_12.2.1, xTs_at (k := 12) (i := 75) rfl rfl, xcw_12.2.2, Nat.le_of_ble_eq_true rfl, xbf rfl, ix_cd_ok xc_393_ok (xg_no _ _)⟩
theorem xmk_394 : xmkP xm_394 :=
  ⟨rfl, xcw_12.1, xcw_12.2.1, xTs_at (k := 12) (i := 62) rfl rfl, xcw_12.2.2, Nat.le_of_ble_eq_true rfl, xbf rfl, ix_cd_ok xc_394_ok (xg_no _ _)⟩
theorem xmk_395 : xmkP xm_395 :=
  ⟨rfl, xcw_12.1, xcw_12.2.1, xTs_at (k := 12) (i := 104) rfl rfl, xcw_12.2.2, Nat.le_of_ble_eq_true rfl, xbf rfl, ix_cd_ok xc_395_ok (xg_no _ _)⟩
theorem xmk_396 : xmkP xm_396 :=
  ⟨rfl, xcw_12.1, xcw_12.2.1, xTs_at (k := 12) (i := 112) rfl rfl, xcw_12.2.2, Nat.le_of_ble_eq_true rfl, xbf rfl, ix_cd_ok xc_396_ok (xg_no _ _)⟩
theorem xmk_397 : xmkP xm_397 :=
  ⟨rfl, xcw_12.1, xcw_12.2.1, xTs_at (k := 12) (i := 116) rfl rfl, xcw_12.2.2, Nat.le_of_ble_eq_true rfl, xbf rfl, ix_cd_ok xc_397_ok (xg_no _ _)⟩
theorem xmk_398 : xmkP xm_398 :=
  ⟨rfl, xcw_12.1, xcw_12.2.1, xTs_at (k := 12) (i := 125) rfl rfl, xcw_12.2.2, Nat.le_of_ble_eq_true rfl, xbf rfl, ix_cd_ok xc_398_ok (xg_no _ _)⟩
theorem xmk_399 : xmkP xm_399 :=
  ⟨rfl, xcw_12.1, xcw_12.2.1, xTs_at (k := 12) (i := 120) rfl rfl, xcw_12.2.2, Nat.le_of_ble_eq_true rfl, xbf rfl, ix_cd_ok xc_399_ok (xg_no _ _)⟩
theorem xmk_400 : xmkP xm_400 :=
  ⟨rfl, xcw_12.1, xcw_12.2.1, xTs_at (k := 12) (i := 129) rfl rfl, xcw_12.2.2, Nat.le_of_ble_eq_true rfl, xbf rfl, ix_cd_ok xc_400_ok (xg_no _ _)⟩
theorem xmk_401 : xmkP xm_401 :=
  ⟨rfl, xcw_12.1, xcw_12.2.1, xTs_at (k := 12) (i := 134) rfl rfl, xcw_12.2.2, Nat.le_of_ble_eq_true rfl, xbf rfl, ix_cd_ok xc_401_ok (xg_no _ _)⟩
theorem xmk_402 : xmkP xm_402 :=
  ⟨rfl, xcw_12.1, xcw_12.2.1, xTs_at (k := 12) (i := 142) rfl rfl, xcw_12.2.2, Nat.le_of_ble_eq_true rfl, xbf rfl, ix_cd_ok xc_402_ok (xg_no _ _)⟩
theorem xmk_403 : xmkP xm_403 :=
  ⟨rfl, xcw_12.1, xcw_12.2.1, xTs_at (k := 12) (i := 146) rfl rfl, xcw_12.2.2, Nat.le_of_ble_eq_true rfl, xbf rfl, ix_cd_ok xc_403_ok (xg_no _ _)⟩
theorem xmk_404 : xmkP xm_404 :=
  ⟨rfl, xcw_12.1, xcw_12.2.1, xTs_at (k := 12) (i := 150) rfl rfl, xcw_12.2.2, Nat.le_of_ble_eq_true rfl, xbf rfl, ix_cd_ok xc_404_ok (xg_no _ _)⟩
theorem xmk_405 : xmkP xm_405 :=
  ⟨rfl, xcw_12.1, xcw_12.2.1, xTs_at (k := 12) (i := 154) rfl rfl, xcw_12.2.2, Nat.le_of_ble_eq_true rfl, xbf rfl, ix_cd_ok xc_405_ok (xg_no _ _)⟩
theorem xmk_406 : xmkP xm_406 :=
  ⟨rfl, xcw_12.1, xcw_12.2.1, xTs_at (k := 12) (i := 158) rfl rfl, xcw_12.2.2, Nat.le_of_ble_eq_true rfl, xbf rfl, ix_cd_ok xc_406_ok (xg_no _ _)⟩
theorem xmk_407 : xmkP xm_407 :=
  ⟨rfl, xcw_13.1, xcw_13.2.1, xTs_at (k := 5) (i := 109) rfl rfl, xcw_13.2.2, Nat.le_of_ble_eq_true rfl, xbf rfl, ix_cd_ok xc_407_ok (xg_no _ _)⟩
theorem xmk_408 : xmkP xm_408 :=
  ⟨rfl, xcw_13.1, xcw_13.2.1, xTs_at (k := 5) (i := 119) rfl rfl, xcw_13.2.2, Nat.le_of_ble_eq_true rfl, xbf rfl, ix_cd_ok xc_408_ok (xg_no _ _)⟩
theorem xmk_409 : xmkP xm_409 :=
  ⟨rfl, xcw_13.1, xcw_13.2.1, xTs_at (k := 5) (i := 167) rfl rfl, xcw_13.2.2, Nat.le_of_ble_eq_true rfl, xbf rfl, ix_cd_ok xc_409_ok (xg_no _ _)⟩
theorem xmk_410 : xmkP xm_410 :=
  ⟨rfl, xcw_13.1, xcw_13.2.1, xTs_at (k := 5) (i := 171) rfl rfl, xcw_13.2.2, Nat.le_of_ble_eq_true rfl, xbf rfl, ix_cd_ok xc_410_ok (xg_no _ _)⟩
theorem xmk_411 : xmkP xm_411 :=
  ⟨rfl, xcw_13.1, xcw_13.2.1, xTs_at (k := 5) (i := 113) rfl rfl, xcw_13.2.2, Nat.le_of_ble_eq_true rfl, xbf rfl, ix_cd_ok xc_411_ok (xg_no _ _)⟩
theorem xmk_412 : xmkP xm_412 :=
  ⟨rfl, xcw_13.1, xcw_13.2.1, xTs_at (k := 5) (i := 123) rfl rfl, xcw_13.2.2, Nat.le_of_ble_eq_true rfl, xbf rfl, ix_cd_ok xc_412_ok (xg_no _ _)⟩
theorem xmk_413 : xmkP xm_413 :=
  ⟨rfl, xcw_13.1, xcw_13.2.1, xTs_at (k := 5) (i := 129) rfl rfl, xcw_13.2.2, Nat.le_of_ble_eq_true rfl, xbf rfl, ix_cd_ok xc_413_ok (xg_no _ _)⟩
theorem xmk_414 : xmkP xm_414 :=
  ⟨rfl, xcw_14.1, xcw_14.2.1, xTs_at (k := 5) (i := 126) rfl rfl, xcw_14.2.2, Nat.le_of_ble_eq_true rfl, xbf rfl, ix_cd_ok xc_414_ok (xg_no _ _)⟩
theorem xmk_415 : xmkP xm_415 :=
  ⟨rfl, xcw_14.1, xcw_14.2.1, xTs_at (k := 5) (i := 178) rfl rfl, xcw_14.2.2, Nat.le_of_ble_eq_true rfl, xbf rfl, ix_cd_ok xc_415_ok (xg_no _ _)⟩
theorem xmk_416 : xmkP xm_416 :=
  ⟨rfl, xcw_14.1, xcw_14.2.1, xTs_at (k := 5) (i := 175) rfl rfl, xcw_14.2.2, Nat.le_of_ble_eq_true rfl, xbf rfl, ix_cd_ok xc_416_ok (xg_no _ _)⟩
theorem xmk_417 : xmkP xm_417 :=
  ⟨rfl, xcw_14.1, xcw_14.2.1, xTs_at (k := 5) (i := 183) rfl rfl, xcw_14.2.2, Nat.le_of_ble_eq_true rfl, xbf rfl, ix_cd_ok xc_417_ok (xg_no _ _)⟩
theorem xmk_418 : xmkP xm_418 :=
  ⟨rfl, xcw_15.1, xcw_15.2.1, xTs_at (k := 5) (i := 134) rfl rfl, xcw_15.2.2, Nat.le_of_ble_eq_true rfl, xbf rfl, ix_cd_ok xc_418_ok (xg_no _ _)⟩
theorem xmks_0 : ∀ (k : Nat) (M : ix_M), 0 ≤ k → k < 20 → xT_M k = some M → xmkP M := by
  intro k M h1 h2 h
  obtain ⟨j, rfl⟩ : ∃ j, k = 0 + j := ⟨k - 0, by omega⟩
  rcases (show j = 0 ∨ j = 1 ∨ j = 2 ∨ j = 3 ∨ j = 4 ∨ j = 5 ∨ j = 6 ∨ j = 7 ∨ j = 8 ∨ j = 9 ∨ j = 10 ∨ j = 11 ∨ j = 12 ∨ j = 13 ∨ j = 14 ∨ j = 15 ∨ j = 16 ∨ j = 17 ∨ j = 18 ∨ j = 19 by omega) with rfl | rfl | rfl | rfl | rfl | rfl | rfl | rfl | rfl | rfl | rfl | rfl | rfl | rfl | rfl | rfl | rfl | rfl | rfl | rfl
  · have e : M = xm_0 := (Option.some.inj (h.symm.trans (show xT_M (0 + 0) = some xm_0 from rfl)))
    rw [e]; exact xmk_0
  · have e : M = xm_1 := (Option.some.inj (h.symm.trans (show xT_M (0 + 1) = some xm_1 from rfl)))
    rw [e]; exact xmk_1
  · have e : M = xm_2 := (Option.some.inj (h.symm.trans (show xT_M (0 + 2) = some xm_2 from rfl)))
    rw [e]; exact xmk_2
  · have e : M = xm_3 := (Option.some.inj (h.symm.trans (show xT_M (0 + 3) = some xm_3 from rfl)))
    rw [e]; exact xmk_3
  · have e : M = xm_4 := (Option.some.inj (h.symm.trans (show xT_M (0 + 4) = some xm_4 from rfl)))
    rw [e]; exact xmk_4
  · have e : M = xm_5 := (Option.some.inj (h.symm.trans (show xT_M (0 + 5) = some xm_5 from rfl)))
    rw [e]; exact xmk_5
  · have e : M = xm_6 := (Option.some.inj (h.symm.trans (show xT_M (0 + 6) = some xm_6 from rfl)))
    rw [e]; exact xmk_6
  · have e : M = xm_7 := (Option.some.inj (h.symm.trans (show xT_M (0 + 7) = some xm_7 from rfl)))
    rw [e]; exact xmk_7
  · have e : M = xm_8 := (Option.some.inj (h.symm.trans (show xT_M (0 + 8) = some xm_8 from rfl)))
    rw [e]; exact xmk_8
  · have e : M = xm_9 := (Option.some.inj (h.symm.trans (show xT_M (0 + 9) = some xm_9 from rfl)))
    rw [e]; exact xmk_9
  · have e : M = xm_10 := (Option.some.inj (h.symm.trans (show xT_M (0 + 10) = some xm_10 from rfl)))
    rw [e]; exact xmk_10
  · have e : M = xm_11 := (Option.some.inj (h.symm.trans (show xT_M (0 + 11) = some xm_11 from rfl)))
    rw [e]; exact xmk_11
  · have e : M = xm_12 := (Option.some.inj (h.symm.trans (show xT_M (0 + 12) = some xm_12 from rfl)))
    rw [e]; exact xmk_12
  · have e : M = xm_13 := (Option.some.inj (h.symm.trans (show xT_M (0 + 13) = some xm_13 from rfl)))
    rw [e]; exact xmk_13
  · have e : M = xm_14 := (Option.some.inj (h.symm.trans (show xT_M (0 + 14) = some xm_14 from rfl)))
    rw [e]; exact xmk_14
  · have e : M = xm_15 := (Option.some.inj (h.symm.trans (show xT_M (0 + 15) = some xm_15 from rfl)))
    rw [e]; exact xmk_15
  · have e : M = xm_16 := (Option.some.inj (h.symm.trans (show xT_M (0 + 16) = some xm_16 from rfl)))
    rw [e]; exact xmk_16
  · have e : M = xm_17 := (Option.some.inj (h.symm.trans (show xT_M (0 + 17) = some xm_17 from rfl)))
    rw [e]; exact xmk_17
  · have e : M = xm_18 := (Option.some.inj (h.symm.trans (show xT_M (0 + 18) = some xm_18 from rfl)))
    rw [e]; exact xmk_18
  · have e : M = xm_19 := (Option.some.inj (h.symm.trans (show xT_M (0 + 19) = some xm_19 from rfl)))
    rw [e]; exact xmk_19
theorem xmks_20 : ∀ (k : Nat) (M : ix_M), 20 ≤ k → k < 40 → xT_M k = some M → xmkP M := by
  intro k M h1 h2 h
  obtain ⟨j, rfl⟩ : ∃ j, k = 20 + j := ⟨k - 20, by omega⟩
  rcases (show j = 0 ∨ j = 1 ∨ j = 2 ∨ j = 3 ∨ j = 4 ∨ j = 5 ∨ j = 6 ∨ j = 7 ∨ j = 8 ∨ j = 9 ∨ j = 10 ∨ j = 11 ∨ j = 12 ∨ j = 13 ∨ j = 14 ∨ j = 15 ∨ j = 16 ∨ j = 17 ∨ j = 18 ∨ j = 19 by omega) with rfl | rfl | rfl | rfl | rfl | rfl | rfl | rfl | rfl | rfl | rfl | rfl | rfl | rfl | rfl | rfl | rfl | rfl | rfl | rfl
  · have e : M = xm_20 := (Option.some.inj (h.symm.trans (show xT_M (20 + 0) = some xm_20 from rfl)))
    rw [e]; exact xmk_20
  · have e : M = xm_21 := (Option.some.inj (h.symm.trans (show xT_M (20 + 1) = some xm_21 from rfl)))
    rw [e]; exact xmk_21
  · have e : M = xm_22 := (Option.some.inj (h.symm.trans (show xT_M (20 + 2) = some xm_22 from rfl)))
    rw [e]; exact xmk_22
  · have e : M = xm_23 := (Option.some.inj (h.symm.trans (show xT_M (20 + 3) = some xm_23 from rfl)))
    rw [e]; exact xmk_23
  · have e : M = xm_24 := (Option.some.inj (h.symm.trans (show xT_M (20 + 4) = some xm_24 from rfl)))
    rw [e]; exact xmk_24
  · have e : M = xm_25 := (Option.some.inj (h.symm.trans (show xT_M (20 + 5) = some xm_25 from rfl)))
    rw [e]; exact xmk_25
  · have e : M = xm_26 := (Option.some.inj (h.symm.trans (show xT_M (20 + 6) = some xm_26 from rfl)))
    rw [e]; exact xmk_26
  · have e : M = xm_27 := (Option.some.inj (h.symm.trans (show xT_M (20 + 7) = some xm_27 from rfl)))
    rw [e]; exact xmk_27
  · have e : M = xm_28 := (Option.some.inj (h.symm.trans (show xT_M (20 + 8) = some xm_28 from rfl)))
    rw [e]; exact xmk_28
  · have e : M = xm_29 := (Option.some.inj (h.symm.trans (show xT_M (20 + 9) = some xm_29 from rfl)))
    rw [e]; exact xmk_29
  · have e : M = xm_30 := (Option.some.inj (h.symm.trans (show xT_M (20 + 10) = some xm_30 from rfl)))
    rw [e]; exact xmk_30
  · have e : M = xm_31 := (Option.some.inj (h.symm.trans (show xT_M (20 + 11) = some xm_31 from rfl)))
    rw [e]; exact xmk_31
  · have e : M = xm_32 := (Option.some.inj (h.symm.trans (show xT_M (20 + 12) = some xm_32 from rfl)))
    rw [e]; exact xmk_32
  · have e : M = xm_33 := (Option.some.inj (h.symm.trans (show xT_M (20 + 13) = some xm_33 from rfl)))
    rw [e]; exact xmk_33
  · have e : M = xm_34 := (Option.some.inj (h.symm.trans (show xT_M (20 + 14) = some xm_34 from rfl)))
    rw [e]; exact xmk_34
  · have e : M = xm_35 := (Option.some.inj (h.symm.trans (show xT_M (20 + 15) = some xm_35 from rfl)))
    rw [e]; exact xmk_35
  · have e : M = xm_36 := (Option.some.inj (h.symm.trans (show xT_M (20 + 16) = some xm_36 from rfl)))
    rw [e]; exact xmk_36
  · have e : M = xm_37 := (Option.some.inj (h.symm.trans (show xT_M (20 + 17) = some xm_37 from rfl)))
    rw [e]; exact xmk_37
  · have e : M = xm_38 := (Option.some.inj (h.symm.trans (show xT_M (20 + 18) = some xm_38 from rfl)))
    rw [e]; exact xmk_38
  · have e : M = xm_39 := (Option.some.inj (h.symm.trans (show xT_M (20 + 19) = some xm_39 from rfl)))
    rw [e]; exact xmk_39
theorem xmks_40 : ∀ (k : Nat) (M : ix_M), 40 ≤ k → k < 60 → xT_M k = some M → xmkP M := by
  intro k M h1 h2 h
  obtain ⟨j, rfl⟩ : ∃ j, k = 40 + j := ⟨k - 40, by omega⟩
  rcases (show j = 0 ∨ j = 1 ∨ j = 2 ∨ j = 3 ∨ j = 4 ∨ j = 5 ∨ j = 6 ∨ j = 7 ∨ j = 8 ∨ j = 9 ∨ j = 10 ∨ j = 11 ∨ j = 12 ∨ j = 13 ∨ j = 14 ∨ j = 15 ∨ j = 16 ∨ j = 17 ∨ j = 18 ∨ j = 19 by omega) with rfl | rfl | rfl | rfl | rfl | rfl | rfl | rfl | rfl | rfl | rfl | rfl | rfl | rfl | rfl | rfl | rfl | rfl | rfl | rfl
  · have e : M = xm_40 := (Option.some.inj (h.symm.trans (show xT_M (40 + 0) = some xm_40 from rfl)))
    rw [e]; exact xmk_40
  · have e : M = xm_41 := (Option.some.inj (h.symm.trans (show xT_M (40 + 1) = some xm_41 from rfl)))
    rw [e]; exact xmk_41
  · have e : M = xm_42 := (Option.some.inj (h.symm.trans (show xT_M (40 + 2) = some xm_42 from rfl)))
    rw [e]; exact xmk_42
  · have e : M = xm_43 := (Option.some.inj (h.symm.trans (show xT_M (40 + 3) = some xm_43 from rfl)))
    rw [e]; exact xmk_43
  · have e : M = xm_44 := (Option.some.inj (h.symm.trans (show xT_M (40 + 4) = some xm_44 from rfl)))
    rw [e]; exact xmk_44
  · have e : M = xm_45 := (Option.some.inj (h.symm.trans (show xT_M (40 + 5) = some xm_45 from rfl)))
    rw [e]; exact xmk_45
  · have e : M = xm_46 := (Option.some.inj (h.symm.trans (show xT_M (40 + 6) = some xm_46 from rfl)))
    rw [e]; exact xmk_46
  · have e : M = xm_47 := (Option.some.inj (h.symm.trans (show xT_M (40 + 7) = some xm_47 from rfl)))
    rw [e]; exact xmk_47
  · have e : M = xm_48 := (Option.some.inj (h.symm.trans (show xT_M (40 + 8) = some xm_48 from rfl)))
    rw [e]; exact xmk_48
  · have e : M = xm_49 := (Option.some.inj (h.symm.trans (show xT_M (40 + 9) = some xm_49 from rfl)))
    rw [e]; exact xmk_49
  · have e : M = xm_50 := (Option.some.inj (h.symm.trans (show xT_M (40 + 10) = some xm_50 from rfl)))
    rw [e]; exact xmk_50
  · have e : M = xm_51 := (Option.some.inj (h.symm.trans (show xT_M (40 + 11) = some xm_51 from rfl)))
    rw [e]; exact xmk_51
  · have e : M = xm_52 := (Option.some.inj (h.symm.trans (show xT_M (40 + 12) = some xm_52 from rfl)))
    rw [e]; exact xmk_52
  · have e : M = xm_53 := (Option.some.inj (h.symm.trans (show xT_M (40 + 13) = some xm_53 from rfl)))
    rw [e]; exact xmk_53
  · have e : M = xm_54 := (Option.some.inj (h.symm.trans (show xT_M (40 + 14) = some xm_54 from rfl)))
    rw [e]; exact xmk_54
  · have e : M = xm_55 := (Option.some.inj (h.symm.trans (show xT_M (40 + 15) = some xm_55 from rfl)))
    rw [e]; exact xmk_55
  · have e : M = xm_56 := (Option.some.inj (h.symm.trans (show xT_M (40 + 16) = some xm_56 from rfl)))
    rw [e]; exact xmk_56
  · have e : M = xm_57 := (Option.some.inj (h.symm.trans (show xT_M (40 + 17) = some xm_57 from rfl)))
    rw [e]; exact xmk_57
  · have e : M = xm_58 := (Option.some.inj (h.symm.trans (show xT_M (40 + 18) = some xm_58 from rfl)))
    rw [e]; exact xmk_58
  · have e : M = xm_59 := (Option.some.inj (h.symm.trans (show xT_M (40 + 19) = some xm_59 from rfl)))
    rw [e]; exact xmk_59
theorem xmks_60 : ∀ (k : Nat) (M : ix_M), 60 ≤ k → k < 80 → xT_M k = some M → xmkP M := by
  intro k M h1 h2 h
  obtain ⟨j, rfl⟩ : ∃ j, k = 60 + j := ⟨k - 60, by omega⟩
  rcases (show j = 0 ∨ j = 1 ∨ j = 2 ∨ j = 3 ∨ j = 4 ∨ j = 5 ∨ j = 6 ∨ j = 7 ∨ j = 8 ∨ j = 9 ∨ j = 10 ∨ j = 11 ∨ j = 12 ∨ j = 13 ∨ j = 14 ∨ j = 15 ∨ j = 16 ∨ j = 17 ∨ j = 18 ∨ j = 19 by omega) with rfl | rfl | rfl | rfl | rfl | rfl | rfl | rfl | rfl | rfl | rfl | rfl | rfl | rfl | rfl | rfl | rfl | rfl | rfl | rfl
  · have e : M = xm_60 := (Option.some.inj (h.symm.trans (show xT_M (60 + 0) = some xm_60 from rfl)))
    rw [e]; exact xmk_60
  · have e : M = xm_61 := (Option.some.inj (h.symm.trans (show xT_M (60 + 1) = some xm_61 from rfl)))
    rw [e]; exact xmk_61
  · have e : M = xm_62 := (Option.some.inj (h.symm.trans (show xT_M (60 + 2) = some xm_62 from rfl)))
    rw [e]; exact xmk_62
  · have e : M = xm_63 := (Option.some.inj (h.symm.trans (show xT_M (60 + 3) = some xm_63 from rfl)))
    rw [e]; exact xmk_63
  · have e : M = xm_64 := (Option.some.inj (h.symm.trans (show xT_M (60 + 4) = some xm_64 from rfl)))
    rw [e]; exact xmk_64
  · have e : M = xm_65 := (Option.some.inj (h.symm.trans (show xT_M (60 + 5) = some xm_65 from rfl)))
    rw [e]; exact xmk_65
  · have e : M = xm_66 := (Option.some.inj (h.symm.trans (show xT_M (60 + 6) = some xm_66 from rfl)))
    rw [e]; exact xmk_66
  · have e : M = xm_67 := (Option.some.inj (h.symm.trans (show xT_M (60 + 7) = some xm_67 from rfl)))
    rw [e]; exact xmk_67
  · have e : M = xm_68 := (Option.some.inj (h.symm.trans (show xT_M (60 + 8) = some xm_68 from rfl)))
    rw [e]; exact xmk_68
  · have e : M = xm_69 := (Option.some.inj (h.symm.trans (show xT_M (60 + 9) = some xm_69 from rfl)))
    rw [e]; exact xmk_69
  · have e : M = xm_70 := (Option.some.inj (h.symm.trans (show xT_M (60 + 10) = some xm_70 from rfl)))
    rw [e]; exact xmk_70
  · have e : M = xm_71 := (Option.some.inj (h.symm.trans (show xT_M (60 + 11) = some xm_71 from rfl)))
    rw [e]; exact xmk_71
  · have e : M = xm_72 := (Option.some.inj (h.symm.trans (show xT_M (60 + 12) = some xm_72 from rfl)))
    rw [e]; exact xmk_72
  · have e : M = xm_73 := (Option.some.inj (h.symm.trans (show xT_M (60 + 13) = some xm_73 from rfl)))
    rw [e]; exact xmk_73
  · have e : M = xm_74 := (Option.some.inj (h.symm.trans (show xT_M (60 + 14) = some xm_74 from rfl)))
    rw [e]; exact xmk_74
  · have e : M = xm_75 := (Option.some.inj (h.symm.trans (show xT_M (60 + 15) = some xm_75 from rfl)))
    rw [e]; exact xmk_75
  · have e : M = xm_76 := (Option.some.inj (h.symm.trans (show xT_M (60 + 16) = some xm_76 from rfl)))
    rw [e]; exact xmk_76
  · have e : M = xm_77 := (Option.some.inj (h.symm.trans (show xT_M (60 + 17) = some xm_77 from rfl)))
    rw [e]; exact xmk_77
  · have e : M = xm_78 := (Option.some.inj (h.symm.trans (show xT_M (60 + 18) = some xm_78 from rfl)))
    rw [e]; exact xmk_78
  · have e : M = xm_79 := (Option.some.inj (h.symm.trans (show xT_M (60 + 19) = some xm_79 from rfl)))
    rw [e]; exact xmk_79
theorem xmks_80 : ∀ (k : Nat) (M : ix_M), 80 ≤ k → k < 100 → xT_M k = some M → xmkP M := by
  intro k M h1 h2 h
  obtain ⟨j, rfl⟩ : ∃ j, k = 80 + j := ⟨k - 80, by omega⟩
  rcases (show j = 0 ∨ j = 1 ∨ j = 2 ∨ j = 3 ∨ j = 4 ∨ j = 5 ∨ j = 6 ∨ j = 7 ∨ j = 8 ∨ j = 9 ∨ j = 10 ∨ j = 11 ∨ j = 12 ∨ j = 13 ∨ j = 14 ∨ j = 15 ∨ j = 16 ∨ j = 17 ∨ j = 18 ∨ j = 19 by omega) with rfl | rfl | rfl | rfl | rfl | rfl | rfl | rfl | rfl | rfl | rfl | rfl | rfl | rfl | rfl | rfl | rfl | rfl | rfl | rfl
  · have e : M = xm_80 := (Option.some.inj (h.symm.trans (show xT_M (80 + 0) = some xm_80 from rfl)))
    rw [e]; exact xmk_80
  · have e : M = xm_81 := (Option.some.inj (h.symm.trans (show xT_M (80 + 1) = some xm_81 from rfl)))
    rw [e]; exact xmk_81
  · have e : M = xm_82 := (Option.some.inj (h.symm.trans (show xT_M (80 + 2) = some xm_82 from rfl)))
    rw [e]; exact xmk_82
  · have e : M = xm_83 := (Option.some.inj (h.symm.trans (show xT_M (80 + 3) = some xm_83 from rfl)))
    rw [e]; exact xmk_83
  · have e : M = xm_84 := (Option.some.inj (h.symm.trans (show xT_M (80 + 4) = some xm_84 from rfl)))
    rw [e]; exact xmk_84
  · have e : M = xm_85 := (Option.some.inj (h.symm.trans (show xT_M (80 + 5) = some xm_85 from rfl)))
    rw [e]; exact xmk_85
  · have e : M = xm_86 := (Option.some.inj (h.symm.trans (show xT_M (80 + 6) = some xm_86 from rfl)))
    rw [e]; exact xmk_86
  · have e : M = xm_87 := (Option.some.inj (h.symm.trans (show xT_M (80 + 7) = some xm_87 from rfl)))
    rw [e]; exact xmk_87
  · have e : M = xm_88 := (Option.some.inj (h.symm.trans (show xT_M (80 + 8) = some xm_88 from rfl)))
    rw [e]; exact xmk_88
  · have e : M = xm_89 := (Option.some.inj (h.symm.trans (show xT_M (80 + 9) = some xm_89 from rfl)))
    rw [e]; exact xmk_89
  · have e : M = xm_90 := (Option.some.inj (h.symm.trans (show xT_M (80 + 10) = some xm_90 from rfl)))
    rw [e]; exact xmk_90
  · have e : M = xm_91 := (Option.some.inj (h.symm.trans (show xT_M (80 + 11) = some xm_91 from rfl)))
    rw [e]; exact xmk_91
  · have e : M = xm_92 := (Option.some.inj (h.symm.trans (show xT_M (80 + 12) = some xm_92 from rfl)))
    rw [e]; exact xmk_92
  · have e : M = xm_93 := (Option.some.inj (h.symm.trans (show xT_M (80 + 13) = some xm_93 from rfl)))
    rw [e]; exact xmk_93
  · have e : M = xm_94 := (Option.some.inj (h.symm.trans (show xT_M (80 + 14) = some xm_94 from rfl)))
    rw [e]; exact xmk_94
  · have e : M = xm_95 := (Option.some.inj (h.symm.trans (show xT_M (80 + 15) = some xm_95 from rfl)))
    rw [e]; exact xmk_95
  · have e : M = xm_96 := (Option.some.inj (h.symm.trans (show xT_M (80 + 16) = some xm_96 from rfl)))
    rw [e]; exact xmk_96
  · have e : M = xm_97 := (Option.some.inj (h.symm.trans (show xT_M (80 + 17) = some xm_97 from rfl)))
    rw [e]; exact xmk_97
  · have e : M = xm_98 := (Option.some.inj (h.symm.trans (show xT_M (80 + 18) = some xm_98 from rfl)))
    rw [e]; exact xmk_98
  · have e : M = xm_99 := (Option.some.inj (h.symm.trans (show xT_M (80 + 19) = some xm_99 from rfl)))
    rw [e]; exact xmk_99
theorem xmks_100 : ∀ (k : Nat) (M : ix_M), 100 ≤ k → k < 120 → xT_M k = some M → xmkP M := by
  intro k M h1 h2 h
  obtain ⟨j, rfl⟩ : ∃ j, k = 100 + j := ⟨k - 100, by omega⟩
  rcases (show j = 0 ∨ j = 1 ∨ j = 2 ∨ j = 3 ∨ j = 4 ∨ j = 5 ∨ j = 6 ∨ j = 7 ∨ j = 8 ∨ j = 9 ∨ j = 10 ∨ j = 11 ∨ j = 12 ∨ j = 13 ∨ j = 14 ∨ j = 15 ∨ j = 16 ∨ j = 17 ∨ j = 18 ∨ j = 19 by omega) with rfl | rfl | rfl | rfl | rfl | rfl | rfl | rfl | rfl | rfl | rfl | rfl | rfl | rfl | rfl | rfl | rfl | rfl | rfl | rfl
  · have e : M = xm_100 := (Option.some.inj (h.symm.trans (show xT_M (100 + 0) = some xm_100 from rfl)))
    rw [e]; exact xmk_100
  · have e : M = xm_101 := (Option.some.inj (h.symm.trans (show xT_M (100 + 1) = some xm_101 from rfl)))
    rw [e]; exact xmk_101
  · have e : M = xm_102 := (Option.some.inj (h.symm.trans (show xT_M (100 + 2) = some xm_102 from rfl)))
    rw [e]; exact xmk_102
  · have e : M = xm_103 := (Option.some.inj (h.symm.trans (show xT_M (100 + 3) = some xm_103 from rfl)))
    rw [e]; exact xmk_103
  · have e : M = xm_104 := (Option.some.inj (h.symm.trans (show xT_M (100 + 4) = some xm_104 from rfl)))
    rw [e]; exact xmk_104
  · have e : M = xm_105 := (Option.some.inj (h.symm.trans (show xT_M (100 + 5) = some xm_105 from rfl)))
    rw [e]; exact xmk_105
  · have e : M = xm_106 := (Option.some.inj (h.symm.trans (show xT_M (100 + 6) = some xm_106 from rfl)))
    rw [e]; exact xmk_106
  · have e : M = xm_107 := (Option.some.inj (h.symm.trans (show xT_M (100 + 7) = some xm_107 from rfl)))
    rw [e]; exact xmk_107
  · have e : M = xm_108 := (Option.some.inj (h.symm.trans (show xT_M (100 + 8) = some xm_108 from rfl)))
    rw [e]; exact xmk_108
  · have e : M = xm_109 := (Option.some.inj (h.symm.trans (show xT_M (100 + 9) = some xm_109 from rfl)))
    rw [e]; exact xmk_109
  · have e : M = xm_110 := (Option.some.inj (h.symm.trans (show xT_M (100 + 10) = some xm_110 from rfl)))
    rw [e]; exact xmk_110
  · have e : M = xm_111 := (Option.some.inj (h.symm.trans (show xT_M (100 + 11) = some xm_111 from rfl)))
    rw [e]; exact xmk_111
  · have e : M = xm_112 := (Option.some.inj (h.symm.trans (show xT_M (100 + 12) = some xm_112 from rfl)))
    rw [e]; exact xmk_112
  · have e : M = xm_113 := (Option.some.inj (h.symm.trans (show xT_M (100 + 13) = some xm_113 from rfl)))
    rw [e]; exact xmk_113
  · have e : M = xm_114 := (Option.some.inj (h.symm.trans (show xT_M (100 + 14) = some xm_114 from rfl)))
    rw [e]; exact xmk_114
  · have e : M = xm_115 := (Option.some.inj (h.symm.trans (show xT_M (100 + 15) = some xm_115 from rfl)))
    rw [e]; exact xmk_115
  · have e : M = xm_116 := (Option.some.inj (h.symm.trans (show xT_M (100 + 16) = some xm_116 from rfl)))
    rw [e]; exact xmk_116
  · have e : M = xm_117 := (Option.some.inj (h.symm.trans (show xT_M (100 + 17) = some xm_117 from rfl)))
    rw [e]; exact xmk_117
  · have e : M = xm_118 := (Option.some.inj (h.symm.trans (show xT_M (100 + 18) = some xm_118 from rfl)))
    rw [e]; exact xmk_118
  · have e : M = xm_119 := (Option.some.inj (h.symm.trans (show xT_M (100 + 19) = some xm_119 from rfl)))
    rw [e]; exact xmk_119
theorem xmks_120 : ∀ (k : Nat) (M : ix_M), 120 ≤ k → k < 140 → xT_M k = some M → xmkP M := by
  intro k M h1 h2 h
  obtain ⟨j, rfl⟩ : ∃ j, k = 120 + j := ⟨k - 120, by omega⟩
  rcases (show j = 0 ∨ j = 1 ∨ j = 2 ∨ j = 3 ∨ j = 4 ∨ j = 5 ∨ j = 6 ∨ j = 7 ∨ j = 8 ∨ j = 9 ∨ j = 10 ∨ j = 11 ∨ j = 12 ∨ j = 13 ∨ j = 14 ∨ j = 15 ∨ j = 16 ∨ j = 17 ∨ j = 18 ∨ j = 19 by omega) with rfl | rfl | rfl | rfl | rfl | rfl | rfl | rfl | rfl | rfl | rfl | rfl | rfl | rfl | rfl | rfl | rfl | rfl | rfl | rfl
  · have e : M = xm_120 := (Option.some.inj (h.symm.trans (show xT_M (120 + 0) = some xm_120 from rfl)))
    rw [e]; exact xmk_120
  · have e : M = xm_121 := (Option.some.inj (h.symm.trans (show xT_M (120 + 1) = some xm_121 from rfl)))
    rw [e]; exact xmk_121
  · have e : M = xm_122 := (Option.some.inj (h.symm.trans (show xT_M (120 + 2) = some xm_122 from rfl)))
    rw [e]; exact xmk_122
  · have e : M = xm_123 := (Option.some.inj (h.symm.trans (show xT_M (120 + 3) = some xm_123 from rfl)))
    rw [e]; exact xmk_123
  · have e : M = xm_124 := (Option.some.inj (h.symm.trans (show xT_M (120 + 4) = some xm_124 from rfl)))
    rw [e]; exact xmk_124
  · have e : M = xm_125 := (Option.some.inj (h.symm.trans (show xT_M (120 + 5) = some xm_125 from rfl)))
    rw [e]; exact xmk_125
  · have e : M = xm_126 := (Option.some.inj (h.symm.trans (show xT_M (120 + 6) = some xm_126 from rfl)))
    rw [e]; exact xmk_126
  · have e : M = xm_127 := (Option.some.inj (h.symm.trans (show xT_M (120 + 7) = some xm_127 from rfl)))
    rw [e]; exact xmk_127
  · have e : M = xm_128 := (Option.some.inj (h.symm.trans (show xT_M (120 + 8) = some xm_128 from rfl)))
    rw [e]; exact xmk_128
  · have e : M = xm_129 := (Option.some.inj (h.symm.trans (show xT_M (120 + 9) = some xm_129 from rfl)))
    rw [e]; exact xmk_129
  · have e : M = xm_130 := (Option.some.inj (h.symm.trans (show xT_M (120 + 10) = some xm_130 from rfl)))
    rw [e]; exact xmk_130
  · have e : M = xm_131 := (Option.some.inj (h.symm.trans (show xT_M (120 + 11) = some xm_131 from rfl)))
    rw [e]; exact xmk_131
  · have e : M = xm_132 := (Option.some.inj (h.symm.trans (show xT_M (120 + 12) = some xm_132 from rfl)))
    rw [e]; exact xmk_132
  · have e : M = xm_133 := (Option.some.inj (h.symm.trans (show xT_M (120 + 13) = some xm_133 from rfl)))
    rw [e]; exact xmk_133
  · have e : M = xm_134 := (Option.some.inj (h.symm.trans (show xT_M (120 + 14) = some xm_134 from rfl)))
    rw [e]; exact xmk_134
  · have e : M = xm_135 := (Option.some.inj (h.symm.trans (show xT_M (120 + 15) = some xm_135 from rfl)))
    rw [e]; exact xmk_135
  · have e : M = xm_136 := (Option.some.inj (h.symm.trans (show xT_M (120 + 16) = some xm_136 from rfl)))
    rw [e]; exact xmk_136
  · have e : M = xm_137 := (Option.some.inj (h.symm.trans (show xT_M (120 + 17) = some xm_137 from rfl)))
    rw [e]; exact xmk_137
  · have e : M = xm_138 := (Option.some.inj (h.symm.trans (show xT_M (120 + 18) = some xm_138 from rfl)))
    rw [e]; exact xmk_138
  · have e : M = xm_139 := (Option.some.inj (h.symm.trans (show xT_M (120 + 19) = some xm_139 from rfl)))
    rw [e]; exact xmk_139
theorem xmks_140 : ∀ (k : Nat) (M : ix_M), 140 ≤ k → k < 160 → xT_M k = some M → xmkP M := by
  intro k M h1 h2 h
  obtain ⟨j, rfl⟩ : ∃ j, k = 140 + j := ⟨k - 140, by omega⟩
  rcases (show j = 0 ∨ j = 1 ∨ j = 2 ∨ j = 3 ∨ j = 4 ∨ j = 5 ∨ j = 6 ∨ j = 7 ∨ j = 8 ∨ j = 9 ∨ j = 10 ∨ j = 11 ∨ j = 12 ∨ j = 13 ∨ j = 14 ∨ j = 15 ∨ j = 16 ∨ j = 17 ∨ j = 18 ∨ j = 19 by omega) with rfl | rfl | rfl | rfl | rfl | rfl | rfl | rfl | rfl | rfl | rfl | rfl | rfl | rfl | rfl | rfl | rfl | rfl | rfl | rfl
  · have e : M = xm_140 := (Option.some.inj (h.symm.trans (show xT_M (140 + 0) = some xm_140 from rfl)))
    rw [e]; exact xmk_140
  · have e : M = xm_141 := (Option.some.inj (h.symm.trans (show xT_M (140 + 1) = some xm_141 from rfl)))
    rw [e]; exact xmk_141
  · have e : M = xm_142 := (Option.some.inj (h.symm.trans (show xT_M (140 + 2) = some xm_142 from rfl)))
    rw [e]; exact xmk_142
  · have e : M = xm_143 := (Option.some.inj (h.symm.trans (show xT_M (140 + 3) = some xm_143 from rfl)))
    rw [e]; exact xmk_143
  · have e : M = xm_144 := (Option.some.inj (h.symm.trans (show xT_M (140 + 4) = some xm_144 from rfl)))
    rw [e]; exact xmk_144
  · have e : M = xm_145 := (Option.some.inj (h.symm.trans (show xT_M (140 + 5) = some xm_145 from rfl)))
    rw [e]; exact xmk_145
  · have e : M = xm_146 := (Option.some.inj (h.symm.trans (show xT_M (140 + 6) = some xm_146 from rfl)))
    rw [e]; exact xmk_146
  · have e : M = xm_147 := (Option.some.inj (h.symm.trans (show xT_M (140 + 7) = some xm_147 from rfl)))
    rw [e]; exact xmk_147
  · have e : M = xm_148 := (Option.some.inj (h.symm.trans (show xT_M (140 + 8) = some xm_148 from rfl)))
    rw [e]; exact xmk_148
  · have e : M = xm_149 := (Option.some.inj (h.symm.trans (show xT_M (140 + 9) = some xm_149 from rfl)))
    rw [e]; exact xmk_149
  · have e : M = xm_150 := (Option.some.inj (h.symm.trans (show xT_M (140 + 10) = some xm_150 from rfl)))
    rw [e]; exact xmk_150
  · have e : M = xm_151 := (Option.some.inj (h.symm.trans (show xT_M (140 + 11) = some xm_151 from rfl)))
    rw [e]; exact xmk_151
  · have e : M = xm_152 := (Option.some.inj (h.symm.trans (show xT_M (140 + 12) = some xm_152 from rfl)))
    rw [e]; exact xmk_152
  · have e : M = xm_153 := (Option.some.inj (h.symm.trans (show xT_M (140 + 13) = some xm_153 from rfl)))
    rw [e]; exact xmk_153
  · have e : M = xm_154 := (Option.some.inj (h.symm.trans (show xT_M (140 + 14) = some xm_154 from rfl)))
    rw [e]; exact xmk_154
  · have e : M = xm_155 := (Option.some.inj (h.symm.trans (show xT_M (140 + 15) = some xm_155 from rfl)))
    rw [e]; exact xmk_155
  · have e : M = xm_156 := (Option.some.inj (h.symm.trans (show xT_M (140 + 16) = some xm_156 from rfl)))
    rw [e]; exact xmk_156
  · have e : M = xm_157 := (Option.some.inj (h.symm.trans (show xT_M (140 + 17) = some xm_157 from rfl)))
    rw [e]; exact xmk_157
  · have e : M = xm_158 := (Option.some.inj (h.symm.trans (show xT_M (140 + 18) = some xm_158 from rfl)))
    rw [e]; exact xmk_158
  · have e : M = xm_159 := (Option.some.inj (h.symm.trans (show xT_M (140 + 19) = some xm_159 from rfl)))
    rw [e]; exact xmk_159
theorem xmks_160 : ∀ (k : Nat) (M : ix_M), 160 ≤ k → k < 180 → xT_M k = some M → xmkP M := by
  intro k M h1 h2 h
  obtain ⟨j, rfl⟩ : ∃ j, k = 160 + j := ⟨k - 160, by omega⟩
  rcases (show j = 0 ∨ j = 1 ∨ j = 2 ∨ j = 3 ∨ j = 4 ∨ j = 5 ∨ j = 6 ∨ j = 7 ∨ j = 8 ∨ j = 9 ∨ j = 10 ∨ j = 11 ∨ j = 12 ∨ j = 13 ∨ j = 14 ∨ j = 15 ∨ j = 16 ∨ j = 17 ∨ j = 18 ∨ j = 19 by omega) with rfl | rfl | rfl | rfl | rfl | rfl | rfl | rfl | rfl | rfl | rfl | rfl | rfl | rfl | rfl | rfl | rfl | rfl | rfl | rfl
  · have e : M = xm_160 := (Option.some.inj (h.symm.trans (show xT_M (160 + 0) = some xm_160 from rfl)))
    rw [e]; exact xmk_160
  · have e : M = xm_161 := (Option.some.inj (h.symm.trans (show xT_M (160 + 1) = some xm_161 from rfl)))
    rw [e]; exact xmk_161
  · have e : M = xm_162 := (Option.some.inj (h.symm.trans (show xT_M (160 + 2) = some xm_162 from rfl)))
    rw [e]; exact xmk_162
  · have e : M = xm_163 := (Option.some.inj (h.symm.trans (show xT_M (160 + 3) = some xm_163 from rfl)))
    rw [e]; exact xmk_163
  · have e : M = xm_164 := (Option.some.inj (h.symm.trans (show xT_M (160 + 4) = some xm_164 from rfl)))
    rw [e]; exact xmk_164
  · have e : M = xm_165 := (Option.some.inj (h.symm.trans (show xT_M (160 + 5) = some xm_165 from rfl)))
    rw [e]; exact xmk_165
  · have e : M = xm_166 := (Option.some.inj (h.symm.trans (show xT_M (160 + 6) = some xm_166 from rfl)))
    rw [e]; exact xmk_166
  · have e : M = xm_167 := (Option.some.inj (h.symm.trans (show xT_M (160 + 7) = some xm_167 from rfl)))
    rw [e]; exact xmk_167
  · have e : M = xm_168 := (Option.some.inj (h.symm.trans (show xT_M (160 + 8) = some xm_168 from rfl)))
    rw [e]; exact xmk_168
  · have e : M = xm_169 := (Option.some.inj (h.symm.trans (show xT_M (160 + 9) = some xm_169 from rfl)))
    rw [e]; exact xmk_169
  · have e : M = xm_170 := (Option.some.inj (h.symm.trans (show xT_M (160 + 10) = some xm_170 from rfl)))
    rw [e]; exact xmk_170
  · have e : M = xm_171 := (Option.some.inj (h.symm.trans (show xT_M (160 + 11) = some xm_171 from rfl)))
    rw [e]; exact xmk_171
  · have e : M = xm_172 := (Option.some.inj (h.symm.trans (show xT_M (160 + 12) = some xm_172 from rfl)))
    rw [e]; exact xmk_172
  · have e : M = xm_173 := (Option.some.inj (h.symm.trans (show xT_M (160 + 13) = some xm_173 from rfl)))
    rw [e]; exact xmk_173
  · have e : M = xm_174 := (Option.some.inj (h.symm.trans (show xT_M (160 + 14) = some xm_174 from rfl)))
    rw [e]; exact xmk_174
  · have e : M = xm_175 := (Option.some.inj (h.symm.trans (show xT_M (160 + 15) = some xm_175 from rfl)))
    rw [e]; exact xmk_175
  · have e : M = xm_176 := (Option.some.inj (h.symm.trans (show xT_M (160 + 16) = some xm_176 from rfl)))
    rw [e]; exact xmk_176
  · have e : M = xm_177 := (Option.some.inj (h.symm.trans (show xT_M (160 + 17) = some xm_177 from rfl)))
    rw [e]; exact xmk_177
  · have e : M = xm_178 := (Option.some.inj (h.symm.trans (show xT_M (160 + 18) = some xm_178 from rfl)))
    rw [e]; exact xmk_178
  · have e : M = xm_179 := (Option.some.inj (h.symm.trans (show xT_M (160 + 19) = some xm_179 from rfl)))
    rw [e]; exact xmk_179
theorem xmks_180 : ∀ (k : Nat) (M : ix_M), 180 ≤ k → k < 200 → xT_M k = some M → xmkP M := by
  intro k M h1 h2 h
  obtain ⟨j, rfl⟩ : ∃ j, k = 180 + j := ⟨k - 180, by omega⟩
  rcases (show j = 0 ∨ j = 1 ∨ j = 2 ∨ j = 3 ∨ j = 4 ∨ j = 5 ∨ j = 6 ∨ j = 7 ∨ j = 8 ∨ j = 9 ∨ j = 10 ∨ j = 11 ∨ j = 12 ∨ j = 13 ∨ j = 14 ∨ j = 15 ∨ j = 16 ∨ j = 17 ∨ j = 18 ∨ j = 19 by omega) with rfl | rfl | rfl | rfl | rfl | rfl | rfl | rfl | rfl | rfl | rfl | rfl | rfl | rfl | rfl | rfl | rfl | rfl | rfl | rfl
  · have e : M = xm_180 := (Option.some.inj (h.symm.trans (show xT_M (180 + 0) = some xm_180 from rfl)))
    rw [e]; exact xmk_180
  · have e : M = xm_181 := (Option.some.inj (h.symm.trans (show xT_M (180 + 1) = some xm_181 from rfl)))
    rw [e]; exact xmk_181
  · have e : M = xm_182 := (Option.some.inj (h.symm.trans (show xT_M (180 + 2) = some xm_182 from rfl)))
    rw [e]; exact xmk_182
  · have e : M = xm_183 := (Option.some.inj (h.symm.trans (show xT_M (180 + 3) = some xm_183 from rfl)))
    rw [e]; exact xmk_183
  · have e : M = xm_184 := (Option.some.inj (h.symm.trans (show xT_M (180 + 4) = some xm_184 from rfl)))
    rw [e]; exact xmk_184
  · have e : M = xm_185 := (Option.some.inj (h.symm.trans (show xT_M (180 + 5) = some xm_185 from rfl)))
    rw [e]; exact xmk_185
  · have e : M = xm_186 := (Option.some.inj (h.symm.trans (show xT_M (180 + 6) = some xm_186 from rfl)))
    rw [e]; exact xmk_186
  · have e : M = xm_187 := (Option.some.inj (h.symm.trans (show xT_M (180 + 7) = some xm_187 from rfl)))
    rw [e]; exact xmk_187
  · have e : M = xm_188 := (Option.some.inj (h.symm.trans (show xT_M (180 + 8) = some xm_188 from rfl)))
    rw [e]; exact xmk_188
  · have e : M = xm_189 := (Option.some.inj (h.symm.trans (show xT_M (180 + 9) = some xm_189 from rfl)))
    rw [e]; exact xmk_189
  · have e : M = xm_190 := (Option.some.inj (h.symm.trans (show xT_M (180 + 10) = some xm_190 from rfl)))
    rw [e]; exact xmk_190
  · have e : M = xm_191 := (Option.some.inj (h.symm.trans (show xT_M (180 + 11) = some xm_191 from rfl)))
    rw [e]; exact xmk_191
  · have e : M = xm_192 := (Option.some.inj (h.symm.trans (show xT_M (180 + 12) = some xm_192 from rfl)))
    rw [e]; exact xmk_192
  · have e : M = xm_193 := (Option.some.inj (h.symm.trans (show xT_M (180 + 13) = some xm_193 from rfl)))
    rw [e]; exact xmk_193
  · have e : M = xm_194 := (Option.some.inj (h.symm.trans (show xT_M (180 + 14) = some xm_194 from rfl)))
    rw [e]; exact xmk_194
  · have e : M = xm_195 := (Option.some.inj (h.symm.trans (show xT_M (180 + 15) = some xm_195 from rfl)))
    rw [e]; exact xmk_195
  · have e : M = xm_196 := (Option.some.inj (h.symm.trans (show xT_M (180 + 16) = some xm_196 from rfl)))
    rw [e]; exact xmk_196
  · have e : M = xm_197 := (Option.some.inj (h.symm.trans (show xT_M (180 + 17) = some xm_197 from rfl)))
    rw [e]; exact xmk_197
  · have e : M = xm_198 := (Option.some.inj (h.symm.trans (show xT_M (180 + 18) = some xm_198 from rfl)))
    rw [e]; exact xmk_198
  · have e : M = xm_199 := (Option.some.inj (h.symm.trans (show xT_M (180 + 19) = some xm_199 from rfl)))
    rw [e]; exact xmk_199
theorem xmks_200 : ∀ (k : Nat) (M : ix_M), 200 ≤ k → k < 220 → xT_M k = some M → xmkP M := by
  intro k M h1 h2 h
  obtain ⟨j, rfl⟩ : ∃ j, k = 200 + j := ⟨k - 200, by omega⟩
  rcases (show j = 0 ∨ j = 1 ∨ j = 2 ∨ j = 3 ∨ j = 4 ∨ j = 5 ∨ j = 6 ∨ j = 7 ∨ j = 8 ∨ j = 9 ∨ j = 10 ∨ j = 11 ∨ j = 12 ∨ j = 13 ∨ j = 14 ∨ j = 15 ∨ j = 16 ∨ j = 17 ∨ j = 18 ∨ j = 19 by omega) with rfl | rfl | rfl | rfl | rfl | rfl | rfl | rfl | rfl | rfl | rfl | rfl | rfl | rfl | rfl | rfl | rfl | rfl | rfl | rfl
  · have e : M = xm_200 := (Option.some.inj (h.symm.trans (show xT_M (200 + 0) = some xm_200 from rfl)))
    rw [e]; exact xmk_200
  · have e : M = xm_201 := (Option.some.inj (h.symm.trans (show xT_M (200 + 1) = some xm_201 from rfl)))
    rw [e]; exact xmk_201
  · have e : M = xm_202 := (Option.some.inj (h.symm.trans (show xT_M (200 + 2) = some xm_202 from rfl)))
    rw [e]; exact xmk_202
  · have e : M = xm_203 := (Option.some.inj (h.symm.trans (show xT_M (200 + 3) = some xm_203 from rfl)))
    rw [e]; exact xmk_203
  · have e : M = xm_204 := (Option.some.inj (h.symm.trans (show xT_M (200 + 4) = some xm_204 from rfl)))
    rw [e]; exact xmk_204
  · have e : M = xm_205 := (Option.some.inj (h.symm.trans (show xT_M (200 + 5) = some xm_205 from rfl)))
    rw [e]; exact xmk_205
  · have e : M = xm_206 := (Option.some.inj (h.symm.trans (show xT_M (200 + 6) = some xm_206 from rfl)))
    rw [e]; exact xmk_206
  · have e : M = xm_207 := (Option.some.inj (h.symm.trans (show xT_M (200 + 7) = some xm_207 from rfl)))
    rw [e]; exact xmk_207
  · have e : M = xm_208 := (Option.some.inj (h.symm.trans (show xT_M (200 + 8) = some xm_208 from rfl)))
    rw [e]; exact xmk_208
  · have e : M = xm_209 := (Option.some.inj (h.symm.trans (show xT_M (200 + 9) = some xm_209 from rfl)))
    rw [e]; exact xmk_209
  · have e : M = xm_210 := (Option.some.inj (h.symm.trans (show xT_M (200 + 10) = some xm_210 from rfl)))
    rw [e]; exact xmk_210
  · have e : M = xm_211 := (Option.some.inj (h.symm.trans (show xT_M (200 + 11) = some xm_211 from rfl)))
    rw [e]; exact xmk_211
  · have e : M = xm_212 := (Option.some.inj (h.symm.trans (show xT_M (200 + 12) = some xm_212 from rfl)))
    rw [e]; exact xmk_212
  · have e : M = xm_213 := (Option.some.inj (h.symm.trans (show xT_M (200 + 13) = some xm_213 from rfl)))
    rw [e]; exact xmk_213
  · have e : M = xm_214 := (Option.some.inj (h.symm.trans (show xT_M (200 + 14) = some xm_214 from rfl)))
    rw [e]; exact xmk_214
  · have e : M = xm_215 := (Option.some.inj (h.symm.trans (show xT_M (200 + 15) = some xm_215 from rfl)))
    rw [e]; exact xmk_215
  · have e : M = xm_216 := (Option.some.inj (h.symm.trans (show xT_M (200 + 16) = some xm_216 from rfl)))
    rw [e]; exact xmk_216
  · have e : M = xm_217 := (Option.some.inj (h.symm.trans (show xT_M (200 + 17) = some xm_217 from rfl)))
    rw [e]; exact xmk_217
  · have e : M = xm_218 := (Option.some.inj (h.symm.trans (show xT_M (200 + 18) = some xm_218 from rfl)))
    rw [e]; exact xmk_218
  · have e : M = xm_219 := (Option.some.inj (h.symm.trans (show xT_M (200 + 19) = some xm_219 from rfl)))
    rw [e]; exact xmk_219
theorem xmks_220 : ∀ (k : Nat) (M : ix_M), 220 ≤ k → k < 240 → xT_M k = some M → xmkP M := by
  intro k M h1 h2 h
  obtain ⟨j, rfl⟩ : ∃ j, k = 220 + j := ⟨k - 220, by omega⟩
  rcases (show j = 0 ∨ j = 1 ∨ j = 2 ∨ j = 3 ∨ j = 4 ∨ j = 5 ∨ j = 6 ∨ j = 7 ∨ j = 8 ∨ j = 9 ∨ j = 10 ∨ j = 11 ∨ j = 12 ∨ j = 13 ∨ j = 14 ∨ j = 15 ∨ j = 16 ∨ j = 17 ∨ j = 18 ∨ j = 19 by omega) with rfl | rfl | rfl | rfl | rfl | rfl | rfl | rfl | rfl | rfl | rfl | rfl | rfl | rfl | rfl | rfl | rfl | rfl | rfl | rfl
  · have e : M = xm_220 := (Option.some.inj (h.symm.trans (show xT_M (220 + 0) = some xm_220 from rfl)))
    rw [e]; exact xmk_220
  · have e : M = xm_221 := (Option.some.inj (h.symm.trans (show xT_M (220 + 1) = some xm_221 from rfl)))
    rw [e]; exact xmk_221
  · have e : M = xm_222 := (Option.some.inj (h.symm.trans (show xT_M (220 + 2) = some xm_222 from rfl)))
    rw [e]; exact xmk_222
  · have e : M = xm_223 := (Option.some.inj (h.symm.trans (show xT_M (220 + 3) = some xm_223 from rfl)))
    rw [e]; exact xmk_223
  · have e : M = xm_224 := (Option.some.inj (h.symm.trans (show xT_M (220 + 4) = some xm_224 from rfl)))
    rw [e]; exact xmk_224
  · have e : M = xm_225 := (Option.some.inj (h.symm.trans (show xT_M (220 + 5) = some xm_225 from rfl)))
    rw [e]; exact xmk_225
  · have e : M = xm_226 := (Option.some.inj (h.symm.trans (show xT_M (220 + 6) = some xm_226 from rfl)))
    rw [e]; exact xmk_226
  · have e : M = xm_227 := (Option.some.inj (h.symm.trans (show xT_M (220 + 7) = some xm_227 from rfl)))
    rw [e]; exact xmk_227
  · have e : M = xm_228 := (Option.some.inj (h.symm.trans (show xT_M (220 + 8) = some xm_228 from rfl)))
    rw [e]; exact xmk_228
  · have e : M = xm_229 := (Option.some.inj (h.symm.trans (show xT_M (220 + 9) = some xm_229 from rfl)))
    rw [e]; exact xmk_229
  · have e : M = xm_230 := (Option.some.inj (h.symm.trans (show xT_M (220 + 10) = some xm_230 from rfl)))
    rw [e]; exact xmk_230
  · have e : M = xm_231 := (Option.some.inj (h.symm.trans (show xT_M (220 + 11) = some xm_231 from rfl)))
    rw [e]; exact xmk_231
  · have e : M = xm_232 := (Option.some.inj (h.symm.trans (show xT_M (220 + 12) = some xm_232 from rfl)))
    rw [e]; exact xmk_232
  · have e : M = xm_233 := (Option.some.inj (h.symm.trans (show xT_M (220 + 13) = some xm_233 from rfl)))
    rw [e]; exact xmk_233
  · have e : M = xm_234 := (Option.some.inj (h.symm.trans (show xT_M (220 + 14) = some xm_234 from rfl)))
    rw [e]; exact xmk_234
  · have e : M = xm_235 := (Option.some.inj (h.symm.trans (show xT_M (220 + 15) = some xm_235 from rfl)))
    rw [e]; exact xmk_235
  · have e : M = xm_236 := (Option.some.inj (h.symm.trans (show xT_M (220 + 16) = some xm_236 from rfl)))
    rw [e]; exact xmk_236
  · have e : M = xm_237 := (Option.some.inj (h.symm.trans (show xT_M (220 + 17) = some xm_237 from rfl)))
    rw [e]; exact xmk_237
  · have e : M = xm_238 := (Option.some.inj (h.symm.trans (show xT_M (220 + 18) = some xm_238 from rfl)))
    rw [e]; exact xmk_238
  · have e : M = xm_239 := (Option.some.inj (h.symm.trans (show xT_M (220 + 19) = some xm_239 from rfl)))
    rw [e]; exact xmk_239
theorem xmks_240 : ∀ (k : Nat) (M : ix_M), 240 ≤ k → k < 260 → xT_M k = some M → xmkP M := by
  intro k M h1 h2 h
  obtain ⟨j, rfl⟩ : ∃ j, k = 240 + j := ⟨k - 240, by omega⟩
  rcases (show j = 0 ∨ j = 1 ∨ j = 2 ∨ j = 3 ∨ j = 4 ∨ j = 5 ∨ j = 6 ∨ j = 7 ∨ j = 8 ∨ j = 9 ∨ j = 10 ∨ j = 11 ∨ j = 12 ∨ j = 13 ∨ j = 14 ∨ j = 15 ∨ j = 16 ∨ j = 17 ∨ j = 18 ∨ j = 19 by omega) with rfl | rfl | rfl | rfl | rfl | rfl | rfl | rfl | rfl | rfl | rfl | rfl | rfl | rfl | rfl | rfl | rfl | rfl | rfl | rfl
  · have e : M = xm_240 := (Option.some.inj (h.symm.trans (show xT_M (240 + 0) = some xm_240 from rfl)))
    rw [e]; exact xmk_240
  · have e : M = xm_241 := (Option.some.inj (h.symm.trans (show xT_M (240 + 1) = some xm_241 from rfl)))
    rw [e]; exact xmk_241
  · have e : M = xm_242 := (Option.some.inj (h.symm.trans (show xT_M (240 + 2) = some xm_242 from rfl)))
    rw [e]; exact xmk_242
  · have e : M = xm_243 := (Option.some.inj (h.symm.trans (show xT_M (240 + 3) = some xm_243 from rfl)))
    rw [e]; exact xmk_243
  · have e : M = xm_244 := (Option.some.inj (h.symm.trans (show xT_M (240 + 4) = some xm_244 from rfl)))
    rw [e]; exact xmk_244
  · have e : M = xm_245 := (Option.some.inj (h.symm.trans (show xT_M (240 + 5) = some xm_245 from rfl)))
    rw [e]; exact xmk_245
  · have e : M = xm_246 := (Option.some.inj (h.symm.trans (show xT_M (240 + 6) = some xm_246 from rfl)))
    rw [e]; exact xmk_246
  · have e : M = xm_247 := (Option.some.inj (h.symm.trans (show xT_M (240 + 7) = some xm_247 from rfl)))
    rw [e]; exact xmk_247
  · have e : M = xm_248 := (Option.some.inj (h.symm.trans (show xT_M (240 + 8) = some xm_248 from rfl)))
    rw [e]; exact xmk_248
  · have e : M = xm_249 := (Option.some.inj (h.symm.trans (show xT_M (240 + 9) = some xm_249 from rfl)))
    rw [e]; exact xmk_249
  · have e : M = xm_250 := (Option.some.inj (h.symm.trans (show xT_M (240 + 10) = some xm_250 from rfl)))
    rw [e]; exact xmk_250
  · have e : M = xm_251 := (Option.some.inj (h.symm.trans (show xT_M (240 + 11) = some xm_251 from rfl)))
    rw [e]; exact xmk_251
  · have e : M = xm_252 := (Option.some.inj (h.symm.trans (show xT_M (240 + 12) = some xm_252 from rfl)))
    rw [e]; exact xmk_252
  · have e : M = xm_253 := (Option.some.inj (h.symm.trans (show xT_M (240 + 13) = some xm_253 from rfl)))
    rw [e]; exact xmk_253
  · have e : M = xm_254 := (Option.some.inj (h.symm.trans (show xT_M (240 + 14) = some xm_254 from rfl)))
    rw [e]; exact xmk_254
  · have e : M = xm_255 := (Option.some.inj (h.symm.trans (show xT_M (240 + 15) = some xm_255 from rfl)))
    rw [e]; exact xmk_255
  · have e : M = xm_256 := (Option.some.inj (h.symm.trans (show xT_M (240 + 16) = some xm_256 from rfl)))
    rw [e]; exact xmk_256
  · have e : M = xm_257 := (Option.some.inj (h.symm.trans (show xT_M (240 + 17) = some xm_257 from rfl)))
    rw [e]; exact xmk_257
  · have e : M = xm_258 := (Option.some.inj (h.symm.trans (show xT_M (240 + 18) = some xm_258 from rfl)))
    rw [e]; exact xmk_258
  · have e : M = xm_259 := (Option.some.inj (h.symm.trans (show xT_M (240 + 19) = some xm_259 from rfl)))
    rw [e]; exact xmk_259
theorem xmks_260 : ∀ (k : Nat) (M : ix_M), 260 ≤ k → k < 280 → xT_M k = some M → xmkP M := by
  intro k M h1 h2 h
  obtain ⟨j, rfl⟩ : ∃ j, k = 260 + j := ⟨k - 260, by omega⟩
  rcases (show j = 0 ∨ j = 1 ∨ j = 2 ∨ j = 3 ∨ j = 4 ∨ j = 5 ∨ j = 6 ∨ j = 7 ∨ j = 8 ∨ j = 9 ∨ j = 10 ∨ j = 11 ∨ j = 12 ∨ j = 13 ∨ j = 14 ∨ j = 15 ∨ j = 16 ∨ j = 17 ∨ j = 18 ∨ j = 19 by omega) with rfl | rfl | rfl | rfl | rfl | rfl | rfl | rfl | rfl | rfl | rfl | rfl | rfl | rfl | rfl | rfl | rfl | rfl | rfl | rfl
  · have e : M = xm_260 := (Option.some.inj (h.symm.trans (show xT_M (260 + 0) = some xm_260 from rfl)))
    rw [e]; exact xmk_260
  · have e : M = xm_261 := (Option.some.inj (h.symm.trans (show xT_M (260 + 1) = some xm_261 from rfl)))
    rw [e]; exact xmk_261
  · have e : M = xm_262 := (Option.some.inj (h.symm.trans (show xT_M (260 + 2) = some xm_262 from rfl)))
    rw [e]; exact xmk_262
  · have e : M = xm_263 := (Option.some.inj (h.symm.trans (show xT_M (260 + 3) = some xm_263 from rfl)))
    rw [e]; exact xmk_263
  · have e : M = xm_264 := (Option.some.inj (h.symm.trans (show xT_M (260 + 4) = some xm_264 from rfl)))
    rw [e]; exact xmk_264
  · have e : M = xm_265 := (Option.some.inj (h.symm.trans (show xT_M (260 + 5) = some xm_265 from rfl)))
    rw [e]; exact xmk_265
  · have e : M = xm_266 := (Option.some.inj (h.symm.trans (show xT_M (260 + 6) = some xm_266 from rfl)))
    rw [e]; exact xmk_266
  · have e : M = xm_267 := (Option.some.inj (h.symm.trans (show xT_M (260 + 7) = some xm_267 from rfl)))
    rw [e]; exact xmk_267
  · have e : M = xm_268 := (Option.some.inj (h.symm.trans (show xT_M (260 + 8) = some xm_268 from rfl)))
    rw [e]; exact xmk_268
  · have e : M = xm_269 := (Option.some.inj (h.symm.trans (show xT_M (260 + 9) = some xm_269 from rfl)))
    rw [e]; exact xmk_269
  · have e : M = xm_270 := (Option.some.inj (h.symm.trans (show xT_M (260 + 10) = some xm_270 from rfl)))
    rw [e]; exact xmk_270
  · have e : M = xm_271 := (Option.some.inj (h.symm.trans (show xT_M (260 + 11) = some xm_271 from rfl)))
    rw [e]; exact xmk_271
  · have e : M = xm_272 := (Option.some.inj (h.symm.trans (show xT_M (260 + 12) = some xm_272 from rfl)))
    rw [e]; exact xmk_272
  · have e : M = xm_273 := (Option.some.inj (h.symm.trans (show xT_M (260 + 13) = some xm_273 from rfl)))
    rw [e]; exact xmk_273
  · have e : M = xm_274 := (Option.some.inj (h.symm.trans (show xT_M (260 + 14) = some xm_274 from rfl)))
    rw [e]; exact xmk_274
  · have e : M = xm_275 := (Option.some.inj (h.symm.trans (show xT_M (260 + 15) = some xm_275 from rfl)))
    rw [e]; exact xmk_275
  · have e : M = xm_276 := (Option.some.inj (h.symm.trans (show xT_M (260 + 16) = some xm_276 from rfl)))
    rw [e]; exact xmk_276
  · have e : M = xm_277 := (Option.some.inj (h.symm.trans (show xT_M (260 + 17) = some xm_277 from rfl)))
    rw [e]; exact xmk_277
  · have e : M = xm_278 := (Option.some.inj (h.symm.trans (show xT_M (260 + 18) = some xm_278 from rfl)))
    rw [e]; exact xmk_278
  · have e : M = xm_279 := (Option.some.inj (h.symm.trans (show xT_M (260 + 19) = some xm_279 from rfl)))
    rw [e]; exact xmk_279
theorem xmks_280 : ∀ (k : Nat) (M : ix_M), 280 ≤ k → k < 300 → xT_M k = some M → xmkP M := by
  intro k M h1 h2 h
  obtain ⟨j, rfl⟩ : ∃ j, k = 280 + j := ⟨k - 280, by omega⟩
  rcases (show j = 0 ∨ j = 1 ∨ j = 2 ∨ j = 3 ∨ j = 4 ∨ j = 5 ∨ j = 6 ∨ j = 7 ∨ j = 8 ∨ j = 9 ∨ j = 10 ∨ j = 11 ∨ j = 12 ∨ j = 13 ∨ j = 14 ∨ j = 15 ∨ j = 16 ∨ j = 17 ∨ j = 18 ∨ j = 19 by omega) with rfl | rfl | rfl | rfl | rfl | rfl | rfl | rfl | rfl | rfl | rfl | rfl | rfl | rfl | rfl | rfl | rfl | rfl | rfl | rfl
  · have e : M = xm_280 := (Option.some.inj (h.symm.trans (show xT_M (280 + 0) = some xm_280 from rfl)))
    rw [e]; exact xmk_280
  · have e : M = xm_281 := (Option.some.inj (h.symm.trans (show xT_M (280 + 1) = some xm_281 from rfl)))
    rw [e]; exact xmk_281
  · have e : M = xm_282 := (Option.some.inj (h.symm.trans (show xT_M (280 + 2) = some xm_282 from rfl)))
    rw [e]; exact xmk_282
  · have e : M = xm_283 := (Option.some.inj (h.symm.trans (show xT_M (280 + 3) = some xm_283 from rfl)))
    rw [e]; exact xmk_283
  · have e : M = xm_284 := (Option.some.inj (h.symm.trans (show xT_M (280 + 4) = some xm_284 from rfl)))
    rw [e]; exact xmk_284
  · have e : M = xm_285 := (Option.some.inj (h.symm.trans (show xT_M (280 + 5) = some xm_285 from rfl)))
    rw [e]; exact xmk_285
  · have e : M = xm_286 := (Option.some.inj (h.symm.trans (show xT_M (280 + 6) = some xm_286 from rfl)))
    rw [e]; exact xmk_286
  · have e : M = xm_287 := (Option.some.inj (h.symm.trans (show xT_M (280 + 7) = some xm_287 from rfl)))
    rw [e]; exact xmk_287
  · have e : M = xm_288 := (Option.some.inj (h.symm.trans (show xT_M (280 + 8) = some xm_288 from rfl)))
    rw [e]; exact xmk_288
  · have e : M = xm_289 := (Option.some.inj (h.symm.trans (show xT_M (280 + 9) = some xm_289 from rfl)))
    rw [e]; exact xmk_289
  · have e : M = xm_290 := (Option.some.inj (h.symm.trans (show xT_M (280 + 10) = some xm_290 from rfl)))
    rw [e]; exact xmk_290
  · have e : M = xm_291 := (Option.some.inj (h.symm.trans (show xT_M (280 + 11) = some xm_291 from rfl)))
    rw [e]; exact xmk_291
  · have e : M = xm_292 := (Option.some.inj (h.symm.trans (show xT_M (280 + 12) = some xm_292 from rfl)))
    rw [e]; exact xmk_292
  · have e : M = xm_293 := (Option.some.inj (h.symm.trans (show xT_M (280 + 13) = some xm_293 from rfl)))
    rw [e]; exact xmk_293
  · have e : M = xm_294 := (Option.some.inj (h.symm.trans (show xT_M (280 + 14) = some xm_294 from rfl)))
    rw [e]; exact xmk_294
  · have e : M = xm_295 := (Option.some.inj (h.symm.trans (show xT_M (280 + 15) = some xm_295 from rfl)))
    rw [e]; exact xmk_295
  · have e : M = xm_296 := (Option.some.inj (h.symm.trans (show xT_M (280 + 16) = some xm_296 from rfl)))
    rw [e]; exact xmk_296
  · have e : M = xm_297 := (Option.some.inj (h.symm.trans (show xT_M (280 + 17) = some xm_297 from rfl)))
    rw [e]; exact xmk_297
  · have e : M = xm_298 := (Option.some.inj (h.symm.trans (show xT_M (280 + 18) = some xm_298 from rfl)))
    rw [e]; exact xmk_298
  · have e : M = xm_299 := (Option.some.inj (h.symm.trans (show xT_M (280 + 19) = some xm_299 from rfl)))
    rw [e]; exact xmk_299
theorem xmks_300 : ∀ (k : Nat) (M : ix_M), 300 ≤ k → k < 320 → xT_M k = some M → xmkP M := by
  intro k M h1 h2 h
  obtain ⟨j, rfl⟩ : ∃ j, k = 300 + j := ⟨k - 300, by omega⟩
  rcases (show j = 0 ∨ j = 1 ∨ j = 2 ∨ j = 3 ∨ j = 4 ∨ j = 5 ∨ j = 6 ∨ j = 7 ∨ j = 8 ∨ j = 9 ∨ j = 10 ∨ j = 11 ∨ j = 12 ∨ j = 13 ∨ j = 14 ∨ j = 15 ∨ j = 16 ∨ j = 17 ∨ j = 18 ∨ j = 19 by omega) with rfl | rfl | rfl | rfl | rfl | rfl | rfl | rfl | rfl | rfl | rfl | rfl | rfl | rfl | rfl | rfl | rfl | rfl | rfl | rfl
  · have e : M = xm_300 := (Option.some.inj (h.symm.trans (show xT_M (300 + 0) = some xm_300 from rfl)))
    rw [e]; exact xmk_300
  · have e : M = xm_301 := (Option.some.inj (h.symm.trans (show xT_M (300 + 1) = some xm_301 from rfl)))
    rw [e]; exact xmk_301
  · have e : M = xm_302 := (Option.some.inj (h.symm.trans (show xT_M (300 + 2) = some xm_302 from rfl)))
    rw [e]; exact xmk_302
  · have e : M = xm_303 := (Option.some.inj (h.symm.trans (show xT_M (300 + 3) = some xm_303 from rfl)))
    rw [e]; exact xmk_303
  · have e : M = xm_304 := (Option.some.inj (h.symm.trans (show xT_M (300 + 4) = some xm_304 from rfl)))
    rw [e]; exact xmk_304
  · have e : M = xm_305 := (Option.some.inj (h.symm.trans (show xT_M (300 + 5) = some xm_305 from rfl)))
    rw [e]; exact xmk_305
  · have e : M = xm_306 := (Option.some.inj (h.symm.trans (show xT_M (300 + 6) = some xm_306 from rfl)))
    rw [e]; exact xmk_306
  · have e : M = xm_307 := (Option.some.inj (h.symm.trans (show xT_M (300 + 7) = some xm_307 from rfl)))
    rw [e]; exact xmk_307
  · have e : M = xm_308 := (Option.some.inj (h.symm.trans (show xT_M (300 + 8) = some xm_308 from rfl)))
    rw [e]; exact xmk_308
  · have e : M = xm_309 := (Option.some.inj (h.symm.trans (show xT_M (300 + 9) = some xm_309 from rfl)))
    rw [e]; exact xmk_309
  · have e : M = xm_310 := (Option.some.inj (h.symm.trans (show xT_M (300 + 10) = some xm_310 from rfl)))
    rw [e]; exact xmk_310
  · have e : M = xm_311 := (Option.some.inj (h.symm.trans (show xT_M (300 + 11) = some xm_311 from rfl)))
    rw [e]; exact xmk_311
  · have e : M = xm_312 := (Option.some.inj (h.symm.trans (show xT_M (300 + 12) = some xm_312 from rfl)))
    rw [e]; exact xmk_312
  · have e : M = xm_313 := (Option.some.inj (h.symm.trans (show xT_M (300 + 13) = some xm_313 from rfl)))
    rw [e]; exact xmk_313
  · have e : M = xm_314 := (Option.some.inj (h.symm.trans (show xT_M (300 + 14) = some xm_314 from rfl)))
    rw [e]; exact xmk_314
  · have e : M = xm_315 := (Option.some.inj (h.symm.trans (show xT_M (300 + 15) = some xm_315 from rfl)))
    rw [e]; exact xmk_315
  · have e : M = xm_316 := (Option.some.inj (h.symm.trans (show xT_M (300 + 16) = some xm_316 from rfl)))
    rw [e]; exact xmk_316
  · have e : M = xm_317 := (Option.some.inj (h.symm.trans (show xT_M (300 + 17) = some xm_317 from rfl)))
    rw [e]; exact xmk_317
  · have e : M = xm_318 := (Option.some.inj (h.symm.trans (show xT_M (300 + 18) = some xm_318 from rfl)))
    rw [e]; exact xmk_318
  · have e : M = xm_319 := (Option.some.inj (h.symm.trans (show xT_M (300 + 19) = some xm_319 from rfl)))
    rw [e]; exact xmk_319
theorem xmks_320 : ∀ (k : Nat) (M : ix_M), 320 ≤ k → k < 340 → xT_M k = some M → xmkP M := by
  intro k M h1 h2 h
  obtain ⟨j, rfl⟩ : ∃ j, k = 320 + j := ⟨k - 320, by omega⟩
  rcases (show j = 0 ∨ j = 1 ∨ j = 2 ∨ j = 3 ∨ j = 4 ∨ j = 5 ∨ j = 6 ∨ j = 7 ∨ j = 8 ∨ j = 9 ∨ j = 10 ∨ j = 11 ∨ j = 12 ∨ j = 13 ∨ j = 14 ∨ j = 15 ∨ j = 16 ∨ j = 17 ∨ j = 18 ∨ j = 19 by omega) with rfl | rfl | rfl | rfl | rfl | rfl | rfl | rfl | rfl | rfl | rfl | rfl | rfl | rfl | rfl | rfl | rfl | rfl | rfl | rfl
  · have e : M = xm_320 := (Option.some.inj (h.symm.trans (show xT_M (320 + 0) = some xm_320 from rfl)))
    rw [e]; exact xmk_320
  · have e : M = xm_321 := (Option.some.inj (h.symm.trans (show xT_M (320 + 1) = some xm_321 from rfl)))
    rw [e]; exact xmk_321
  · have e : M = xm_322 := (Option.some.inj (h.symm.trans (show xT_M (320 + 2) = some xm_322 from rfl)))
    rw [e]; exact xmk_322
  · have e : M = xm_323 := (Option.some.inj (h.symm.trans (show xT_M (320 + 3) = some xm_323 from rfl)))
    rw [e]; exact xmk_323
  · have e : M = xm_324 := (Option.some.inj (h.symm.trans (show xT_M (320 + 4) = some xm_324 from rfl)))
    rw [e]; exact xmk_324
  · have e : M = xm_325 := (Option.some.inj (h.symm.trans (show xT_M (320 + 5) = some xm_325 from rfl)))
    rw [e]; exact xmk_325
  · have e : M = xm_326 := (Option.some.inj (h.symm.trans (show xT_M (320 + 6) = some xm_326 from rfl)))
    rw [e]; exact xmk_326
  · have e : M = xm_327 := (Option.some.inj (h.symm.trans (show xT_M (320 + 7) = some xm_327 from rfl)))
    rw [e]; exact xmk_327
  · have e : M = xm_328 := (Option.some.inj (h.symm.trans (show xT_M (320 + 8) = some xm_328 from rfl)))
    rw [e]; exact xmk_328
  · have e : M = xm_329 := (Option.some.inj (h.symm.trans (show xT_M (320 + 9) = some xm_329 from rfl)))
    rw [e]; exact xmk_329
  · have e : M = xm_330 := (Option.some.inj (h.symm.trans (show xT_M (320 + 10) = some xm_330 from rfl)))
    rw [e]; exact xmk_330
  · have e : M = xm_331 := (Option.some.inj (h.symm.trans (show xT_M (320 + 11) = some xm_331 from rfl)))
    rw [e]; exact xmk_331
  · have e : M = xm_332 := (Option.some.inj (h.symm.trans (show xT_M (320 + 12) = some xm_332 from rfl)))
    rw [e]; exact xmk_332
  · have e : M = xm_333 := (Option.some.inj (h.symm.trans (show xT_M (320 + 13) = some xm_333 from rfl)))
    rw [e]; exact xmk_333
  · have e : M = xm_334 := (Option.some.inj (h.symm.trans (show xT_M (320 + 14) = some xm_334 from rfl)))
    rw [e]; exact xmk_334
  · have e : M = xm_335 := (Option.some.inj (h.symm.trans (show xT_M (320 + 15) = some xm_335 from rfl)))
    rw [e]; exact xmk_335
  · have e : M = xm_336 := (Option.some.inj (h.symm.trans (show xT_M (320 + 16) = some xm_336 from rfl)))
    rw [e]; exact xmk_336
  · have e : M = xm_337 := (Option.some.inj (h.symm.trans (show xT_M (320 + 17) = some xm_337 from rfl)))
    rw [e]; exact xmk_337
  · have e : M = xm_338 := (Option.some.inj (h.symm.trans (show xT_M (320 + 18) = some xm_338 from rfl)))
    rw [e]; exact xmk_338
  · have e : M = xm_339 := (Option.some.inj (h.symm.trans (show xT_M (320 + 19) = some xm_339 from rfl)))
    rw [e]; exact xmk_339
theorem xmks_340 : ∀ (k : Nat) (M : ix_M), 340 ≤ k → k < 360 → xT_M k = some M → xmkP M := by
  intro k M h1 h2 h
  obtain ⟨j, rfl⟩ : ∃ j, k = 340 + j := ⟨k - 340, by omega⟩
  rcases (show j = 0 ∨ j = 1 ∨ j = 2 ∨ j = 3 ∨ j = 4 ∨ j = 5 ∨ j = 6 ∨ j = 7 ∨ j = 8 ∨ j = 9 ∨ j = 10 ∨ j = 11 ∨ j = 12 ∨ j = 13 ∨ j = 14 ∨ j = 15 ∨ j = 16 ∨ j = 17 ∨ j = 18 ∨ j = 19 by omega) with rfl | rfl | rfl | rfl | rfl | rfl | rfl | rfl | rfl | rfl | rfl | rfl | rfl | rfl | rfl | rfl | rfl | rfl | rfl | rfl
  · have e : M = xm_340 := (Option.some.inj (h.symm.trans (show xT_M (340 + 0) = some xm_340 from rfl)))
    rw [e]; exact xmk_340
  · have e : M = xm_341 := (Option.some.inj (h.symm.trans (show xT_M (340 + 1) = some xm_341 from rfl)))
    rw [e]; exact xmk_341
  · have e : M = xm_342 := (Option.some.inj (h.symm.trans (show xT_M (340 + 2) = some xm_342 from rfl)))
    rw [e]; exact xmk_342
  · have e : M = xm_343 := (Option.some.inj (h.symm.trans (show xT_M (340 + 3) = some xm_343 from rfl)))
    rw [e]; exact xmk_343
  · have e : M = xm_344 := (Option.some.inj (h.symm.trans (show xT_M (340 + 4) = some xm_344 from rfl)))
    rw [e]; exact xmk_344
  · have e : M = xm_345 := (Option.some.inj (h.symm.trans (show xT_M (340 + 5) = some xm_345 from rfl)))
    rw [e]; exact xmk_345
  · have e : M = xm_346 := (Option.some.inj (h.symm.trans (show xT_M (340 + 6) = some xm_346 from rfl)))
    rw [e]; exact xmk_346
  · have e : M = xm_347 := (Option.some.inj (h.symm.trans (show xT_M (340 + 7) = some xm_347 from rfl)))
    rw [e]; exact xmk_347
  · have e : M = xm_348 := (Option.some.inj (h.symm.trans (show xT_M (340 + 8) = some xm_348 from rfl)))
    rw [e]; exact xmk_348
  · have e : M = xm_349 := (Option.some.inj (h.symm.trans (show xT_M (340 + 9) = some xm_349 from rfl)))
    rw [e]; exact xmk_349
  · have e : M = xm_350 := (Option.some.inj (h.symm.trans (show xT_M (340 + 10) = some xm_350 from rfl)))
    rw [e]; exact xmk_350
  · have e : M = xm_351 := (Option.some.inj (h.symm.trans (show xT_M (340 + 11) = some xm_351 from rfl)))
    rw [e]; exact xmk_351
  · have e : M = xm_352 := (Option.some.inj (h.symm.trans (show xT_M (340 + 12) = some xm_352 from rfl)))
    rw [e]; exact xmk_352
  · have e : M = xm_353 := (Option.some.inj (h.symm.trans (show xT_M (340 + 13) = some xm_353 from rfl)))
    rw [e]; exact xmk_353
  · have e : M = xm_354 := (Option.some.inj (h.symm.trans (show xT_M (340 + 14) = some xm_354 from rfl)))
    rw [e]; exact xmk_354
  · have e : M = xm_355 := (Option.some.inj (h.symm.trans (show xT_M (340 + 15) = some xm_355 from rfl)))
    rw [e]; exact xmk_355
  · have e : M = xm_356 := (Option.some.inj (h.symm.trans (show xT_M (340 + 16) = some xm_356 from rfl)))
    rw [e]; exact xmk_356
  · have e : M = xm_357 := (Option.some.inj (h.symm.trans (show xT_M (340 + 17) = some xm_357 from rfl)))
    rw [e]; exact xmk_357
  · have e : M = xm_358 := (Option.some.inj (h.symm.trans (show xT_M (340 + 18) = some xm_358 from rfl)))
    rw [e]; exact xmk_358
  · have e : M = xm_359 := (Option.some.inj (h.symm.trans (show xT_M (340 + 19) = some xm_359 from rfl)))
    rw [e]; exact xmk_359
theorem xmks_360 : ∀ (k : Nat) (M : ix_M), 360 ≤ k → k < 380 → xT_M k = some M → xmkP M := by
  intro k M h1 h2 h
  obtain ⟨j, rfl⟩ : ∃ j, k = 360 + j := ⟨k - 360, by omega⟩
  rcases (show j = 0 ∨ j = 1 ∨ j = 2 ∨ j = 3 ∨ j = 4 ∨ j = 5 ∨ j = 6 ∨ j = 7 ∨ j = 8 ∨ j = 9 ∨ j = 10 ∨ j = 11 ∨ j = 12 ∨ j = 13 ∨ j = 14 ∨ j = 15 ∨ j = 16 ∨ j = 17 ∨ j = 18 ∨ j = 19 by omega) with rfl | rfl | rfl | rfl | rfl | rfl | rfl | rfl | rfl | rfl | rfl | rfl | rfl | rfl | rfl | rfl | rfl | rfl | rfl | rfl
  · have e : M = xm_360 := (Option.some.inj (h.symm.trans (show xT_M (360 + 0) = some xm_360 from rfl)))
    rw [e]; exact xmk_360
  · have e : M = xm_361 := (Option.some.inj (h.symm.trans (show xT_M (360 + 1) = some xm_361 from rfl)))
    rw [e]; exact xmk_361
  · have e : M = xm_362 := (Option.some.inj (h.symm.trans (show xT_M (360 + 2) = some xm_362 from rfl)))
    rw [e]; exact xmk_362
  · have e : M = xm_363 := (Option.some.inj (h.symm.trans (show xT_M (360 + 3) = some xm_363 from rfl)))
    rw [e]; exact xmk_363
  · have e : M = xm_364 := (Option.some.inj (h.symm.trans (show xT_M (360 + 4) = some xm_364 from rfl)))
    rw [e]; exact xmk_364
  · have e : M = xm_365 := (Option.some.inj (h.symm.trans (show xT_M (360 + 5) = some xm_365 from rfl)))
    rw [e]; exact xmk_365
  · have e : M = xm_366 := (Option.some.inj (h.symm.trans (show xT_M (360 + 6) = some xm_366 from rfl)))
    rw [e]; exact xmk_366
  · have e : M = xm_367 := (Option.some.inj (h.symm.trans (show xT_M (360 + 7) = some xm_367 from rfl)))
    rw [e]; exact xmk_367
  · have e : M = xm_368 := (Option.some.inj (h.symm.trans (show xT_M (360 + 8) = some xm_368 from rfl)))
    rw [e]; exact xmk_368
  · have e : M = xm_369 := (Option.some.inj (h.symm.trans (show xT_M (360 + 9) = some xm_369 from rfl)))
    rw [e]; exact xmk_369
  · have e : M = xm_370 := (Option.some.inj (h.symm.trans (show xT_M (360 + 10) = some xm_370 from rfl)))
    rw [e]; exact xmk_370
  · have e : M = xm_371 := (Option.some.inj (h.symm.trans (show xT_M (360 + 11) = some xm_371 from rfl)))
    rw [e]; exact xmk_371
  · have e : M = xm_372 := (Option.some.inj (h.symm.trans (show xT_M (360 + 12) = some xm_372 from rfl)))
    rw [e]; exact xmk_372
  · have e : M = xm_373 := (Option.some.inj (h.symm.trans (show xT_M (360 + 13) = some xm_373 from rfl)))
    rw [e]; exact xmk_373
  · have e : M = xm_374 := (Option.some.inj (h.symm.trans (show xT_M (360 + 14) = some xm_374 from rfl)))
    rw [e]; exact xmk_374
  · have e : M = xm_375 := (Option.some.inj (h.symm.trans (show xT_M (360 + 15) = some xm_375 from rfl)))
    rw [e]; exact xmk_375
  · have e : M = xm_376 := (Option.some.inj (h.symm.trans (show xT_M (360 + 16) = some xm_376 from rfl)))
    rw [e]; exact xmk_376
  · have e : M = xm_377 := (Option.some.inj (h.symm.trans (show xT_M (360 + 17) = some xm_377 from rfl)))
    rw [e]; exact xmk_377
  · have e : M = xm_378 := (Option.some.inj (h.symm.trans (show xT_M (360 + 18) = some xm_378 from rfl)))
    rw [e]; exact xmk_378
  · have e : M = xm_379 := (Option.some.inj (h.symm.trans (show xT_M (360 + 19) = some xm_379 from rfl)))
    rw [e]; exact xmk_379
theorem xmks_380 : ∀ (k : Nat) (M : ix_M), 380 ≤ k → k < 400 → xT_M k = some M → xmkP M := by
  intro k M h1 h2 h
  obtain ⟨j, rfl⟩ : ∃ j, k = 380 + j := ⟨k - 380, by omega⟩
  rcases (show j = 0 ∨ j = 1 ∨ j = 2 ∨ j = 3 ∨ j = 4 ∨ j = 5 ∨ j = 6 ∨ j = 7 ∨ j = 8 ∨ j = 9 ∨ j = 10 ∨ j = 11 ∨ j = 12 ∨ j = 13 ∨ j = 14 ∨ j = 15 ∨ j = 16 ∨ j = 17 ∨ j = 18 ∨ j = 19 by omega) with rfl | rfl | rfl | rfl | rfl | rfl | rfl | rfl | rfl | rfl | rfl | rfl | rfl | rfl | rfl | rfl | rfl | rfl | rfl | rfl
  · have e : M = xm_380 := (Option.some.inj (h.symm.trans (show xT_M (380 + 0) = some xm_380 from rfl)))
    rw [e]; exact xmk_380
  · have e : M = xm_381 := (Option.some.inj (h.symm.trans (show xT_M (380 + 1) = some xm_381 from rfl)))
    rw [e]; exact xmk_381
  · have e : M = xm_382 := (Option.some.inj (h.symm.trans (show xT_M (380 + 2) = some xm_382 from rfl)))
    rw [e]; exact xmk_382
  · have e : M = xm_383 := (Option.some.inj (h.symm.trans (show xT_M (380 + 3) = some xm_383 from rfl)))
    rw [e]; exact xmk_383
  · have e : M = xm_384 := (Option.some.inj (h.symm.trans (show xT_M (380 + 4) = some xm_384 from rfl)))
    rw [e]; exact xmk_384
  · have e : M = xm_385 := (Option.some.inj (h.symm.trans (show xT_M (380 + 5) = some xm_385 from rfl)))
    rw [e]; exact xmk_385
  · have e : M = xm_386 := (Option.some.inj (h.symm.trans (show xT_M (380 + 6) = some xm_386 from rfl)))
    rw [e]; exact xmk_386
  · have e : M = xm_387 := (Option.some.inj (h.symm.trans (show xT_M (380 + 7) = some xm_387 from rfl)))
    rw [e]; exact xmk_387
  · have e : M = xm_388 := (Option.some.inj (h.symm.trans (show xT_M (380 + 8) = some xm_388 from rfl)))
    rw [e]; exact xmk_388
  · have e : M = xm_389 := (Option.some.inj (h.symm.trans (show xT_M (380 + 9) = some xm_389 from rfl)))
    rw [e]; exact xmk_389
  · have e : M = xm_390 := (Option.some.inj (h.symm.trans (show xT_M (380 + 10) = some xm_390 from rfl)))
    rw [e]; exact xmk_390
  · have e : M = xm_391 := (Option.some.inj (h.symm.trans (show xT_M (380 + 11) = some xm_391 from rfl)))
    rw [e]; exact xmk_391
  · have e : M = xm_392 := (Option.some.inj (h.symm.trans (show xT_M (380 + 12) = some xm_392 from rfl)))
    rw [e]; exact xmk_392
  · have e : M = xm_393 := (Option.some.inj (h.symm.trans (show xT_M (380 + 13) = some xm_393 from rfl)))
    rw [e]; exact xmk_393
  · have e : M = xm_394 := (Option.some.inj (h.symm.trans (show xT_M (380 + 14) = some xm_394 from rfl)))
    rw [e]; exact xmk_394
  · have e : M = xm_395 := (Option.some.inj (h.symm.trans (show xT_M (380 + 15) = some xm_395 from rfl)))
    rw [e]; exact xmk_395
  · have e : M = xm_396 := (Option.some.inj (h.symm.trans (show xT_M (380 + 16) = some xm_396 from rfl)))
    rw [e]; exact xmk_396
  · have e : M = xm_397 := (Option.some.inj (h.symm.trans (show xT_M (380 + 17) = some xm_397 from rfl)))
    rw [e]; exact xmk_397
  · have e : M = xm_398 := (Option.some.inj (h.symm.trans (show xT_M (380 + 18) = some xm_398 from rfl)))
    rw [e]; exact xmk_398
  · have e : M = xm_399 := (Option.some.inj (h.symm.trans (show xT_M (380 + 19) = some xm_399 from rfl)))
    rw [e]; exact xmk_399
theorem xmks_400 : ∀ (k : Nat) (M : ix_M), 400 ≤ k → k < 419 → xT_M k = some M → xmkP M := by
  intro k M h1 h2 h
  obtain ⟨j, rfl⟩ : ∃ j, k = 400 + j := ⟨k - 400, by omega⟩
  rcases (show j = 0 ∨ j = 1 ∨ j = 2 ∨ j = 3 ∨ j = 4 ∨ j = 5 ∨ j = 6 ∨ j = 7 ∨ j = 8 ∨ j = 9 ∨ j = 10 ∨ j = 11 ∨ j = 12 ∨ j = 13 ∨ j = 14 ∨ j = 15 ∨ j = 16 ∨ j = 17 ∨ j = 18 by omega) with rfl | rfl | rfl | rfl | rfl | rfl | rfl | rfl | rfl | rfl | rfl | rfl | rfl | rfl | rfl | rfl | rfl | rfl | rfl
  · have e : M = xm_400 := (Option.some.inj (h.symm.trans (show xT_M (400 + 0) = some xm_400 from rfl)))
    rw [e]; exact xmk_400
  · have e : M = xm_401 := (Option.some.inj (h.symm.trans (show xT_M (400 + 1) = some xm_401 from rfl)))
    rw [e]; exact xmk_401
  · have e : M = xm_402 := (Option.some.inj (h.symm.trans (show xT_M (400 + 2) = some xm_402 from rfl)))
    rw [e]; exact xmk_402
  · have e : M = xm_403 := (Option.some.inj (h.symm.trans (show xT_M (400 + 3) = some xm_403 from rfl)))
    rw [e]; exact xmk_403
  · have e : M = xm_404 := (Option.some.inj (h.symm.trans (show xT_M (400 + 4) = some xm_404 from rfl)))
    rw [e]; exact xmk_404
  · have e : M = xm_405 := (Option.some.inj (h.symm.trans (show xT_M (400 + 5) = some xm_405 from rfl)))
    rw [e]; exact xmk_405
  · have e : M = xm_406 := (Option.some.inj (h.symm.trans (show xT_M (400 + 6) = some xm_406 from rfl)))
    rw [e]; exact xmk_406
  · have e : M = xm_407 := (Option.some.inj (h.symm.trans (show xT_M (400 + 7) = some xm_407 from rfl)))
    rw [e]; exact xmk_407
  · have e : M = xm_408 := (Option.some.inj (h.symm.trans (show xT_M (400 + 8) = some xm_408 from rfl)))
    rw [e]; exact xmk_408
  · have e : M = xm_409 := (Option.some.inj (h.symm.trans (show xT_M (400 + 9) = some xm_409 from rfl)))
    rw [e]; exact xmk_409
  · have e : M = xm_410 := (Option.some.inj (h.symm.trans (show xT_M (400 + 10) = some xm_410 from rfl)))
    rw [e]; exact xmk_410
  · have e : M = xm_411 := (Option.some.inj (h.symm.trans (show xT_M (400 + 11) = some xm_411 from rfl)))
    rw [e]; exact xmk_411
  · have e : M = xm_412 := (Option.some.inj (h.symm.trans (show xT_M (400 + 12) = some xm_412 from rfl)))
    rw [e]; exact xmk_412
  · have e : M = xm_413 := (Option.some.inj (h.symm.trans (show xT_M (400 + 13) = some xm_413 from rfl)))
    rw [e]; exact xmk_413
  · have e : M = xm_414 := (Option.some.inj (h.symm.trans (show xT_M (400 + 14) = some xm_414 from rfl)))
    rw [e]; exact xmk_414
  · have e : M = xm_415 := (Option.some.inj (h.symm.trans (show xT_M (400 + 15) = some xm_415 from rfl)))
    rw [e]; exact xmk_415
  · have e : M = xm_416 := (Option.some.inj (h.symm.trans (show xT_M (400 + 16) = some xm_416 from rfl)))
    rw [e]; exact xmk_416
  · have e : M = xm_417 := (Option.some.inj (h.symm.trans (show xT_M (400 + 17) = some xm_417 from rfl)))
    rw [e]; exact xmk_417
  · have e : M = xm_418 := (Option.some.inj (h.symm.trans (show xT_M (400 + 18) = some xm_418 from rfl)))
    rw [e]; exact xmk_418
theorem xok_M (A : Nat → Option (Nat × (Nat → Int32))) : ix_okM (xT A) xon xTs := by
  intro mid M h
  have h : xT_M mid = some M := h
  have hn : mid < 419 := by
    unfold xT_M at h
    cases hb : Nat.blt mid 419 with
    | false => rw [hb] at h; cases h
    | true => exact Nat.blt_eq.mp hb
  by_cases h0 : mid < 20
  · exact xmks_0 mid M (by omega) h0 h
  by_cases h20 : mid < 40
  · exact xmks_20 mid M (by omega) h20 h
  by_cases h40 : mid < 60
  · exact xmks_40 mid M (by omega) h40 h
  by_cases h60 : mid < 80
  · exact xmks_60 mid M (by omega) h60 h
  by_cases h80 : mid < 100
  · exact xmks_80 mid M (by omega) h80 h
  by_cases h100 : mid < 120
  · exact xmks_100 mid M (by omega) h100 h
  by_cases h120 : mid < 140
  · exact xmks_120 mid M (by omega) h120 h
  by_cases h140 : mid < 160
  · exact xmks_140 mid M (by omega) h140 h
  by_cases h160 : mid < 180
  · exact xmks_160 mid M (by omega) h160 h
  by_cases h180 : mid < 200
  · exact xmks_180 mid M (by omega) h180 h
  by_cases h200 : mid < 220
  · exact xmks_200 mid M (by omega) h200 h
  by_cases h220 : mid < 240
  · exact xmks_220 mid M (by omega) h220 h
  by_cases h240 : mid < 260
  · exact xmks_240 mid M (by omega) h240 h
  by_cases h260 : mid < 280
  · exact xmks_260 mid M (by omega) h260 h
  by_cases h280 : mid < 300
  · exact xmks_280 mid M (by omega) h280 h
  by_cases h300 : mid < 320
  · exact xmks_300 mid M (by omega) h300 h
  by_cases h320 : mid < 340
  · exact xmks_320 mid M (by omega) h320 h
  by_cases h340 : mid < 360
  · exact xmks_340 mid M (by omega) h340 h
  by_cases h360 : mid < 380
  · exact xmks_360 mid M (by omega) h360 h
  by_cases h380 : mid < 400
  · exact xmks_380 mid M (by omega) h380 h
  by_cases h400 : mid < 419
  · exact xmks_400 mid M (by omega) h400 h
  · omega
theorem xok (A : Nat → Option (Nat × (Nat → Int32))) : ix_okT (xT A) xcl xon xTs xNs := ⟨xok_F A, xok_D A, xok_C A, xok_K A, xok_I A, xok_M A, xTs_good⟩
noncomputable def xpN (c : String) (idx : Nat) : Option (Nat × Nat) := match ([("PacketWall", 21, 1, 33), ("PacketWall$Headers", 23, 1, 39), ("PacketWall", 35, 1, 103), ("PacketWall$Flows", 20, 1, 162), ("PacketWall", 52, 2, 19), ("PacketWall$Parser", 17, 2, 25), ("PacketWall$Machine", 19, 2, 111), ("PacketWall$Machine", 26, 2, 145), ("PacketWall$Machine", 47, 2, 149), ("PacketWall$Machine", 52, 2, 151), ("PacketWall$Machine", 53, 2, 175), ("PacketWall$Frame", 9, 2, 180), ("PacketWall", 73, 3, 20), ("PacketWall$Headers", 78, 3, 138), ("PacketWall$Packet", 19, 3, 164), ("PacketWall$Headers", 74, 3, 214), ("PacketWall$Headers", 82, 3, 238), ("PacketWall$Headers", 122, 4, 7), ("PacketWall$Headers", 132, 4, 22), ("PacketWall$Headers", 140, 4, 38), ("PacketWall$Gathering", 130, 4, 161), ("PacketWall$Gathering", 134, 4, 162), ("PacketWall$Gathering", 138, 4, 163), ("PacketWall$Flows", 168, 4, 197), ("PacketWall$Flows", 178, 4, 203), ("PacketWall$Flows", 119, 5, 79), ("PacketWall$Row", 56, 7, 107), ("PacketWall$Flow", 104, 7, 191), ("PacketWall$Flow", 108, 7, 192), ("PacketWall$Flow", 112, 7, 193), ("PacketWall$Flow", 116, 7, 206)] : List (String × Nat × Nat × Nat)).find? (fun q => q.1 == c && q.2.1 == idx) with
  | some q => some (q.2.2.1, q.2.2.2)
  | none => none
theorem xw_o3 : Cond.arrayOver (.object "PacketWall$Packet") ∈ lw_tbl := xW_in 1 _ (List.mem_of_getElem? (i := 30) (by decide +kernel))
theorem xw_o4 : Cond.arrayOver (.object "PacketWall$Gathering") ∈ lw_tbl := xW_in 1 _ (List.mem_of_getElem? (i := 101) (by decide +kernel))
theorem xw_o5 : Cond.arrayOver (.object "PacketWall$Flow") ∈ lw_tbl := xW_in 1 _ (List.mem_of_getElem? (i := 160) (by decide +kernel))
theorem xw_o6 : Cond.arrayOver (.object "PacketWall$Row") ∈ lw_tbl := xW_in 2 _ (List.mem_of_getElem? (i := 108) (by decide +kernel))
theorem xw_o7 : Cond.arrayOver (.object "PacketWall$Frame") ∈ lw_tbl := xW_in 2 _ (List.mem_of_getElem? (i := 147) (by decide +kernel))
theorem xw_a0 : Cond.arrayClass .int ∈ xTs := xat_ok (q := some (1, 64)) (by decide +kernel) rfl
theorem xw_a1 : Cond.arrayClass .long ∈ xTs := xat_ok (q := some (1, 226)) (by decide +kernel) rfl
theorem xw_a2 : Cond.arrayClass .boolean ∈ xTs := xat_ok (q := some (1, 227)) (by decide +kernel) rfl
end
section
-- ===== end of PART A; then your names; then what follows =====
/-! THE CLAIM OUT OF ONE WALK OF THE LAW'S BODY. Your part is whole_start (and what it stands on); all else here is the same for every law, but numbers. -/
noncomputable def R_law : String := "PacketWallLaw"
noncomputable def lw_P (b : Addr) (xs : List Int32) (args : Array Value) (s : State) : Prop := args = #[.ref b] ∧ s.IntsAt b xs ∧ xs.length ≤ 3072 ∧ (Jvm.Cond.and given_1 narrow_1).before args s = true
noncomputable def lw_Q (_ : Array Value) (s : State) (o : Outcome) (t : State) : Prop := o = .returned (some (.int 1)) ∧ Framed s o t [] 600000 7302250
noncomputable def lw_Z (below : List Frame) (a : Array Value) (s : State) : State → Prop := fun t => ∃ o, t.status = .running ∧ Ended t below o ∧ lw_Q a s o t
/-- the law's own end, with 1 on the stack, nothing written that was there before, its room as the claim has it -/
theorem lw_ret {p : Program} {l : Launch} {e : Env} {s : State} {m : MethodId} {below : List Frame} {meth : Method} {c : Code} {b : Nat} (hx : p.tables.exec = Jvm.exec) (hb : c.code = code) (hr : meth.sig.returnType = ret) (hlocks : meth.locks = false) {pc : Nat} {H : Heap} {ls : Array Slot} (hdg : decode code pc = .ok (.ireturn, 1)) : W p l e room_1 s m #[Value.ref b] below meth c H [] 600000 7302250 (lw_Z below #[Value.ref b] s) (F0 m pc ls [.int 1]) := by
  intro T hT X
  obtain ⟨fs, hret, hrun, hended, hW, hframe⟩ := X.leave (v := some (.int 1)) (hlocks := hlocks) (fun h => by rw [hr] at h; cases h)
  have hmeth' : T.vm.method? m = some meth := X.method'
  refine ⟨T.setFrames fs, ?_, .returned (some (.int 1)), hrun, hended, rfl, ⟨_, rfl⟩, hW, hframe⟩
  jvm_step X.here [X.here.top, hx, hb, hdg, hmeth', hr, ret, narrow_b1]
  (try refine ⟨rfl, ?_⟩); (try refine ⟨rfl, ?_⟩)
  first | (intro acts; rw [hret _ acts rfl rfl rfl]) | rw [hret _ _ rfl rfl rfl]
  exact Steps.refl _
/-- what holds at the law's entry: the machine, the code, the tables' words (any of lw_tbl by 'hts w (by decide +kernel)'), the script of L ints xs at the cell b, what the Statement gives of the start (any of its parts by flat_of_before) -/
noncomputable def lw_At (p : Program) (s : State) (m : MethodId) (meth : Method) (c : Code) (b L : Nat) (xs : Nat → Int32) : Prop :=
  p.tables.exec = Jvm.exec ∧ c.code = code ∧ meth.sig.returnType = ret ∧ c.maxLocals = 4 ∧ s.vm.findClass R_law = some m.cls ∧ (∀ w ∈ lw_tbl, w.before #[Value.ref b] s = true) ∧ va_X b L xs s s.heap ∧ b < s.heap.size ∧ meth.locks = false ∧ (Jvm.Cond.and given_1 narrow_1).before #[Value.ref b] s = true

/-! ===== what the start gives of static rows and Strings ===== -/
noncomputable def xeatL : List Cond → List Cond → List Cond
  | [], ws => ws
  | _ :: _, [] => []
  | c :: cs, w :: r => bif decide (c = w) then xeatL cs r else xeatL cs (w :: r)
theorem xeatL_ok : ∀ (cs ws : List Cond), ∀ w ∈ ws, w ∈ xeatL cs ws ∨ w ∈ cs
  | [], ws, w, h => Or.inl h
  | _ :: _, [], w, h => by cases h
  | c :: cs, v :: r, w, h => by
    unfold xeatL
    cases hd : decide (c = v) with
    | true =>
      have e : c = v := of_decide_eq_true hd
      rcases List.mem_cons.mp h with rfl | h
      · exact Or.inr (by rw [e]; exact List.mem_cons_self)
      · exact (xeatL_ok cs r w h).imp id (fun q => List.mem_cons_of_mem _ q)
    | false => exact (xeatL_ok cs (v :: r) w h).imp id (fun q => List.mem_cons_of_mem _ q)
noncomputable def xwStat (C n : String) (v : List Int32) : List Cond := Cond.arrayOf (.static C n "[I") .int :: Cond.eq (.length (.static C n "[I")) (.int (Int32.ofNat v.length)) :: (List.range v.length).map (fun j => Cond.eq (.elem (.static C n "[I") (.int (Int32.ofNat j))) (.int (v.getD j 0)))
noncomputable def xwStr (C : String) (k : Nat) (v : List Int32) : List Cond := Cond.exactly (.string C k) "java/lang/String" :: Cond.eq (.field (.string C k) "java/lang/String" "coder" "B") (.int 0) :: Cond.arrayOf (.field (.string C k) "java/lang/String" "value" "[B") .byte :: Cond.eq (.length (.field (.string C k) "java/lang/String" "value" "[B")) (.int (Int32.ofNat v.length)) :: (List.range v.length).map (fun j => Cond.eq (.elem (.field (.string C k) "java/lang/String" "value" "[B") (.int (Int32.ofNat j))) (.int (v.getD j 0)))
noncomputable def xwant : List Cond := xwStat "PacketWall$Headers" "LEAST" xv_1 ++ xwStat "PacketWall$Headers" "FIELD_COUNTS" xv_2 ++ xwStat "PacketWall$Headers" "FIRST_FORM" xv_3 ++ xwStat "PacketWall$Headers" "FORMS" xv_4 ++ xwStat "PacketWall$Flow" "NEXT_STATES" xv_5 ++ xwStat "PacketWall$Flow" "STREAM_LIVES" xv_6 ++ [Cond.eq (.static "java/lang/String" "COMPACT_STRINGS" "Z") (.int 1), Cond.isRef (.static "jdk/internal/util/Preconditions" "SIOOBE_FORMATTER" "Ljava/util/function/BiFunction;")] ++ xwStat "PacketWall$Headers" "NET_IN_SIX" xv_7 ++ xwStat "PacketWall$Headers" "NET_IN_FOUR" xv_8 ++ xwStr "PacketWall$Parser" 209 xs_0 ++ xwStr "PacketWall$Parser" 217 xs_1 ++ xwStr "PacketWall$Parser" 173 xs_2 ++ xwStr "PacketWall$Parser" 175 xs_3 ++ xwStr "PacketWall$Parser" 177 xs_4 ++ xwStr "PacketWall$Parser" 179 xs_5 ++ xwStr "PacketWall$Parser" 181 xs_6 ++ xwStr "PacketWall$Parser" 183 xs_7 ++ xwStr "PacketWall$Parser" 185 xs_8 ++ xwStr "PacketWall$Parser" 187 xs_9 ++ xwStr "PacketWall$Parser" 189 xs_10 ++ xwStr "PacketWall$Parser" 191 xs_11 ++ xwStr "PacketWall$Parser" 193 xs_12 ++ xwStr "PacketWall$Parser" 195 xs_13 ++ xwStr "PacketWall$Parser" 197 xs_14 ++ xwStr "PacketWall$Parser" 199 xs_15
set_option maxRecDepth 100000 in
theorem xwant_eat : xeatL (flatC narrow_1) xwant = [] := by decide +kernel
theorem xwant_ok {args : Array Value} {s : State} (h : (Jvm.Cond.and given_1 narrow_1).before args s = true) : ∀ w ∈ xwant, w.before args s = true := by
  rw [Cond.before_and, Bool.and_eq_true] at h
  intro w hw
  rcases xeatL_ok (flatC narrow_1) xwant w hw with q | q
  · rw [xwant_eat] at q; cases q
  · exact flat_of_before _ h.2 w q
end
