section
theorem xmk_83 : xmkP xm_83 :=
  ⟨rfl, xcw_2.1, xcw_2.2.1, xTs_at (k := 7) (i := 186) rfl rfl, xcw_2.2.2, Nat.le_of_ble_eq_true rfl, xbf rfl, ix_cd_ok xc_83_ok (xg_no _ _)⟩
theorem xmk_84 : xmkP xm_84 :=
  ⟨rfl, xcw_2.1, xcw_2.2.1, xTs_at (k := 7) (i := 201) rfl rfl, xcw_2.2.2, Nat.le_of_ble_eq_true rfl, xbf rfl, ix_cd_ok xc_84_ok (xg_no _ _)⟩
theorem xmk_85 : xmkP xm_85 :=
  ⟨rfl, xcw_2.1, xcw_2.2.1, xTs_at (k := 7) (i := 222) rfl rfl, xcw_2.2.2, Nat.le_of_ble_eq_true rfl, xbf rfl, ix_cd_ok xc_85_ok (xg_no _ _)⟩
theorem xmk_86 : xmkP xm_86 :=
  ⟨rfl, xcw_2.1, xcw_2.2.1, xTs_at (k := 5) (i := 69) rfl rfl, xcw_2.2.2, Nat.le_of_ble_eq_true rfl, xbf rfl, ix_cd_ok xc_86_ok (xg_no _ _)⟩
theorem xmk_87 : xmkP xm_87 :=
  ⟨rfl, xcw_2.1, xcw_2.2.1, xTs_at (k := 4) (i := 227) rfl rfl, xcw_2.2.2, Nat.le_of_ble_eq_true rfl, xbf rfl, ix_cd_ok xc_87_ok (xg_no _ _)⟩
theorem xmk_88 : xmkP xm_88 :=
  ⟨rfl, xcw_2.1, xcw_2.2.1, xTs_at (k := 4) (i := 216) rfl rfl, xcw_2.2.2, Nat.le_of_ble_eq_true rfl, xbf rfl, ix_cd_ok xc_88_ok (xg_no _ _)⟩
theorem xmk_89 : xmkP xm_89 :=
  ⟨rfl, xcw_2.1, xcw_2.2.1, xTs_at (k := 4) (i := 192) rfl rfl, xcw_2.2.2, Nat.le_of_ble_eq_true rfl, xbf rfl, ix_cd_ok xc_89_ok (xg_no _ _)⟩
theorem xmk_90 : xmkP xm_90 :=
  ⟨rfl, xcw_2.1, xcw_2.2.1, xTs_at (k := 4) (i := 201) rfl rfl, xcw_2.2.2, Nat.le_of_ble_eq_true rfl, xbf rfl, ix_cd_ok xc_90_ok (xg_no _ _)⟩
theorem xmk_91 : xmkP xm_91 :=
  ⟨rfl, xcw_3.1, xcw_3.2.1, xTs_at (k := 2) (i := 177) rfl rfl, xcw_3.2.2, Nat.le_of_ble_eq_true rfl, fun _ => rfl, ix_cd_ok xc_91_ok (xg_no _ _)⟩
theorem xmk_92 : xmkP xm_92 :=
  ⟨rfl, xcw_4.1, xcw_4.2.1, xTs_at (k := 1) (i := 105) rfl rfl, xcw_4.2.2, Nat.le_of_ble_eq_true rfl, fun _ => rfl, ix_cd_ok xc_92_ok (xg_no _ _)⟩
theorem xmk_93 : xmkP xm_93 :=
  ⟨rfl, xcw_4.1, xcw_4.2.1, xTs_at (k := 4) (i := 77) rfl rfl, xcw_4.2.2, Nat.le_of_ble_eq_true rfl, xbf rfl, ix_cd_ok xc_93_ok (xg_no _ _)⟩
theorem xmk_94 : xmkP xm_94 :=
  ⟨rfl, xcw_4.1, xcw_4.2.1, xTs_at (k := 4) (i := 92) rfl rfl, xcw_4.2.2, Nat.le_of_ble_eq_true rfl, xbf rfl, ix_cd_ok xc_94_ok (xg_no _ _)⟩
theorem xmk_95 : xmkP xm_95 :=
  ⟨rfl, xcw_4.1, xcw_4.2.1, xTs_at (k := 4) (i := 110) rfl rfl, xcw_4.2.2, Nat.le_of_ble_eq_true rfl, xbf rfl, ix_cd_ok xc_95_ok (xg_no _ _)⟩
theorem xmk_96 : xmkP xm_96 :=
  ⟨rfl, xcw_4.1, xcw_4.2.1, xTs_at (k := 4) (i := 114) rfl rfl, xcw_4.2.2, Nat.le_of_ble_eq_true rfl, xbf rfl, ix_cd_ok xc_96_ok (xg_no _ _)⟩
theorem xmk_97 : xmkP xm_97 :=
  ⟨rfl, xcw_4.1, xcw_4.2.1, xTs_at (k := 4) (i := 143) rfl rfl, xcw_4.2.2, Nat.le_of_ble_eq_true rfl, xbf rfl, ix_cd_ok xc_97_ok (xg_no _ _)⟩
theorem xmk_98 : xmkP xm_98 :=
  ⟨rfl, xcw_4.1, xcw_4.2.1, xTs_at (k := 4) (i := 151) rfl rfl, xcw_4.2.2, Nat.le_of_ble_eq_true rfl, xbf rfl, ix_cd_ok xc_98_ok (xg_no _ _)⟩
theorem xmk_99 : xmkP xm_99 :=
  ⟨rfl, xcw_4.1, xcw_4.2.1, xTs_at (k := 4) (i := 159) rfl rfl, xcw_4.2.2, Nat.le_of_ble_eq_true rfl, xbf rfl, ix_cd_ok xc_99_ok (xg_no _ _)⟩
theorem xmk_100 : xmkP xm_100 :=
  ⟨rfl, xcw_4.1, xcw_4.2.1, xTs_at (k := 4) (i := 124) rfl rfl, xcw_4.2.2, Nat.le_of_ble_eq_true rfl, xbf rfl, ix_cd_ok xc_100_ok (xg_no _ _)⟩
theorem xmk_101 : xmkP xm_101 :=
  ⟨rfl, xcw_4.1, xcw_4.2.1, xTs_at (k := 4) (i := 155) rfl rfl, xcw_4.2.2, Nat.le_of_ble_eq_true rfl, xbf rfl, ix_cd_ok xc_101_ok (xg_no _ _)⟩
theorem xmk_102 : xmkP xm_102 :=
  ⟨rfl, xcw_4.1, xcw_4.2.1, xTs_at (k := 4) (i := 131) rfl rfl, xcw_4.2.2, Nat.le_of_ble_eq_true rfl, xbf rfl, ix_cd_ok xc_102_ok (xg_no _ _)⟩
theorem xmk_103 : xmkP xm_103 :=
  ⟨rfl, xcw_4.1, xcw_4.2.1, xTs_at (k := 4) (i := 139) rfl rfl, xcw_4.2.2, Nat.le_of_ble_eq_true rfl, xbf rfl, ix_cd_ok xc_103_ok (xg_no _ _)⟩
theorem xmk_104 : xmkP xm_104 :=
  ⟨rfl, xcw_5.1, xcw_5.2.1, xTs_at (k := 1) (i := 35) rfl rfl, xcw_5.2.2, Nat.le_of_ble_eq_true rfl, fun _ => rfl, ix_cd_ok xc_104_ok (xg_no _ _)⟩
theorem xmk_105 : xmkP xm_105 :=
  ⟨rfl, xcw_5.1, xcw_5.2.1, xTs_at (k := 3) (i := 120) rfl rfl, xcw_5.2.2, Nat.le_of_ble_eq_true rfl, xbf rfl, ix_cd_ok xc_105_ok (xg_no _ _)⟩
theorem xmk_106 : xmkP xm_106 :=
  ⟨rfl, xcw_5.1, xcw_5.2.1, xTs_at (k := 4) (i := 6) rfl rfl, xcw_5.2.2, Nat.le_of_ble_eq_true rfl, xbf rfl, ix_cd_ok xc_106_ok (xg_no _ _)⟩
theorem xmk_107 : xmkP xm_107 :=
  ⟨rfl, xcw_5.1, xcw_5.2.1, xTs_at (k := 3) (i := 137) rfl rfl, xcw_5.2.2, Nat.le_of_ble_eq_true rfl, xbf rfl, ix_cd_ok xc_107_ok (xg_no _ _)⟩
theorem xmk_108 : xmkP xm_108 :=
  ⟨rfl, xcw_5.1, xcw_5.2.1, xTs_at (k := 3) (i := 222) rfl rfl, xcw_5.2.2, Nat.le_of_ble_eq_true rfl, xbf rfl, ix_cd_ok xc_108_ok (xg_no _ _)⟩
theorem xmk_109 : xmkP xm_109 :=
  ⟨rfl, xcw_5.1, xcw_5.2.1, xTs_at (k := 3) (i := 206) rfl rfl, xcw_5.2.2, Nat.le_of_ble_eq_true rfl, xbf rfl, ix_cd_ok xc_109_ok (xg_no _ _)⟩
theorem xmk_110 : xmkP xm_110 :=
  ⟨rfl, xcw_5.1, xcw_5.2.1, xTs_at (k := 3) (i := 203) rfl rfl, xcw_5.2.2, Nat.le_of_ble_eq_true rfl, xbf rfl, ix_cd_ok xc_110_ok (xg_no _ _)⟩
theorem xmk_111 : xmkP xm_111 :=
  ⟨rfl, xcw_5.1, xcw_5.2.1, xTs_at (k := 4) (i := 60) rfl rfl, xcw_5.2.2, Nat.le_of_ble_eq_true rfl, xbf rfl, ix_cd_ok xc_111_ok (xg_no _ _)⟩
theorem xmk_112 : xmkP xm_112 :=
  ⟨rfl, xcw_5.1, xcw_5.2.1, xTs_at (k := 6) (i := 231) rfl rfl, xcw_5.2.2, Nat.le_of_ble_eq_true rfl, xbf rfl, ix_cd_ok xc_112_ok (xg_no _ _)⟩
theorem xmk_113 : xmkP xm_113 :=
  ⟨rfl, xcw_5.1, xcw_5.2.1, xTs_at (k := 4) (i := 83) rfl rfl, xcw_5.2.2, Nat.le_of_ble_eq_true rfl, xbf rfl, ix_cd_ok xc_113_ok (xg_no _ _)⟩
theorem xmk_114 : xmkP xm_114 :=
  ⟨rfl, xcw_5.1, xcw_5.2.1, xTs_at (k := 4) (i := 73) rfl rfl, xcw_5.2.2, Nat.le_of_ble_eq_true rfl, xbf rfl, ix_cd_ok xc_114_ok (xg_no _ _)⟩
theorem xmk_115 : xmkP xm_115 :=
  ⟨rfl, xcw_5.1, xcw_5.2.1, xTs_at (k := 4) (i := 56) rfl rfl, xcw_5.2.2, Nat.le_of_ble_eq_true rfl, xbf rfl, ix_cd_ok xc_115_ok (xg_no _ _)⟩
theorem xmk_116 : xmkP xm_116 :=
  ⟨rfl, xcw_5.1, xcw_5.2.1, xTs_at (k := 4) (i := 64) rfl rfl, xcw_5.2.2, Nat.le_of_ble_eq_true rfl, xbf rfl, ix_cd_ok xc_116_ok (xg_no _ _)⟩
theorem xmk_117 : xmkP xm_117 :=
  ⟨rfl, xcw_5.1, xcw_5.2.1, xTs_at (k := 4) (i := 69) rfl rfl, xcw_5.2.2, Nat.le_of_ble_eq_true rfl, xbf rfl, ix_cd_ok xc_117_ok (xg_no _ _)⟩
theorem xmk_118 : xmkP xm_118 :=
  ⟨rfl, xcw_5.1, xcw_5.2.1, xTs_at (k := 4) (i := 2) rfl rfl, xcw_5.2.2, Nat.le_of_ble_eq_true rfl, xbf rfl, ix_cd_ok xc_118_ok (xg_no _ _)⟩
theorem xmk_119 : xmkP xm_119 :=
  ⟨rfl, xcw_5.1, xcw_5.2.1, xTs_at (k := 4) (i := 100) rfl rfl, xcw_5.2.2, Nat.le_of_ble_eq_true rfl, xbf rfl, ix_cd_ok xc_119_ok (xg_no _ _)⟩
theorem xmk_120 : xmkP xm_120 :=
  ⟨rfl, xcw_5.1, xcw_5.2.1, xTs_at (k := 3) (i := 237) rfl rfl, xcw_5.2.2, Nat.le_of_ble_eq_true rfl, xbf rfl, ix_cd_ok xc_120_ok (xg_no _ _)⟩
theorem xmk_121 : xmkP xm_121 :=
  ⟨rfl, xcw_5.1, xcw_5.2.1, xTs_at (k := 4) (i := 36) rfl rfl, xcw_5.2.2, Nat.le_of_ble_eq_true rfl, xbf rfl, ix_cd_ok xc_121_ok (xg_no _ _)⟩
theorem xmk_122 : xmkP xm_122 :=
  ⟨rfl, xcw_5.1, xcw_5.2.1, xTs_at (k := 4) (i := 17) rfl rfl, xcw_5.2.2, Nat.le_of_ble_eq_true rfl, xbf rfl, ix_cd_ok xc_122_ok (xg_no _ _)⟩
theorem xmk_123 : xmkP xm_123 :=
  ⟨rfl, xcw_5.1, xcw_5.2.1, xTs_at (k := 4) (i := 21) rfl rfl, xcw_5.2.2, Nat.le_of_ble_eq_true rfl, xbf rfl, ix_cd_ok xc_123_ok (xg_no _ _)⟩
theorem xmk_124 : xmkP xm_124 :=
  ⟨rfl, xcw_5.1, xcw_5.2.1, xTs_at (k := 4) (i := 13) rfl rfl, xcw_5.2.2, Nat.le_of_ble_eq_true rfl, xbf rfl, ix_cd_ok xc_124_ok (xg_no _ _)⟩
theorem xmk_125 : xmkP xm_125 :=
  ⟨rfl, xcw_5.1, xcw_5.2.1, xTs_at (k := 3) (i := 129) rfl rfl, xcw_5.2.2, Nat.le_of_ble_eq_true rfl, xbf rfl, ix_cd_ok xc_125_ok (xg_no _ _)⟩
theorem xmk_126 : xmkP xm_126 :=
  ⟨rfl, xcw_5.1, xcw_5.2.1, xTs_at (k := 3) (i := 148) rfl rfl, xcw_5.2.2, Nat.le_of_ble_eq_true rfl, xbf rfl, ix_cd_ok xc_126_ok (xg_no _ _)⟩
theorem xmk_127 : xmkP xm_127 :=
  ⟨rfl, xcw_5.1, xcw_5.2.1, xTs_at (k := 3) (i := 125) rfl rfl, xcw_5.2.2, Nat.le_of_ble_eq_true rfl, xbf rfl, ix_cd_ok xc_127_ok (xg_no _ _)⟩
theorem xmk_128 : xmkP xm_128 :=
  ⟨rfl, xcw_5.1, xcw_5.2.1, xTs_at (k := 3) (i := 133) rfl rfl, xcw_5.2.2, Nat.le_of_ble_eq_true rfl, xbf rfl, ix_cd_ok xc_128_ok (xg_no _ _)⟩
theorem xmk_129 : xmkP xm_129 :=
  ⟨rfl, xcw_5.1, xcw_5.2.1, xTs_at (k := 3) (i := 144) rfl rfl, xcw_5.2.2, Nat.le_of_ble_eq_true rfl, xbf rfl, ix_cd_ok xc_129_ok (xg_no _ _)⟩
theorem xmk_130 : xmkP xm_130 :=
  ⟨rfl, xcw_5.1, xcw_5.2.1, xTs_at (k := 3) (i := 155) rfl rfl, xcw_5.2.2, Nat.le_of_ble_eq_true rfl, xbf rfl, ix_cd_ok xc_130_ok (xg_no _ _)⟩
theorem xmk_131 : xmkP xm_131 :=
  ⟨rfl, xcw_5.1, xcw_5.2.1, xTs_at (k := 3) (i := 159) rfl rfl, xcw_5.2.2, Nat.le_of_ble_eq_true rfl, xbf rfl, ix_cd_ok xc_131_ok (xg_no _ _)⟩
theorem xmk_132 : xmkP xm_132 :=
  ⟨rfl, xcw_5.1, xcw_5.2.1, xTs_at (k := 3) (i := 170) rfl rfl, xcw_5.2.2, Nat.le_of_ble_eq_true rfl, xbf rfl, ix_cd_ok xc_132_ok (xg_no _ _)⟩
theorem xmk_133 : xmkP xm_133 :=
  ⟨rfl, xcw_5.1, xcw_5.2.1, xTs_at (k := 3) (i := 174) rfl rfl, xcw_5.2.2, Nat.le_of_ble_eq_true rfl, xbf rfl, ix_cd_ok xc_133_ok (xg_no _ _)⟩
theorem xmk_134 : xmkP xm_134 :=
  ⟨rfl, xcw_5.1, xcw_5.2.1, xTs_at (k := 3) (i := 177) rfl rfl, xcw_5.2.2, Nat.le_of_ble_eq_true rfl, xbf rfl, ix_cd_ok xc_134_ok (xg_no _ _)⟩
theorem xmk_135 : xmkP xm_135 :=
  ⟨rfl, xcw_5.1, xcw_5.2.1, xTs_at (k := 3) (i := 181) rfl rfl, xcw_5.2.2, Nat.le_of_ble_eq_true rfl, xbf rfl, ix_cd_ok xc_135_ok (xg_no _ _)⟩
theorem xmk_136 : xmkP xm_136 :=
  ⟨rfl, xcw_5.1, xcw_5.2.1, xTs_at (k := 3) (i := 185) rfl rfl, xcw_5.2.2, Nat.le_of_ble_eq_true rfl, xbf rfl, ix_cd_ok xc_136_ok (xg_no _ _)⟩
theorem xmk_137 : xmkP xm_137 :=
  ⟨rfl, xcw_6.1, xcw_6.2.1, xTs_at (k := 2) (i := 105) rfl rfl, xcw_6.2.2, Nat.le_of_ble_eq_true rfl, fun _ => rfl, ix_cd_ok xc_137_ok (xg_no _ _)⟩
theorem xmk_138 : xmkP xm_138 :=
  ⟨rfl, xcw_6.1, xcw_6.2.1, xTs_at (k := 6) (i := 116) rfl rfl, xcw_6.2.2, Nat.le_of_ble_eq_true rfl, xbf rfl, ix_cd_ok xc_138_ok (xg_no _ _)⟩
theorem xmk_139 : xmkP xm_139 :=
  ⟨rfl, xcw_6.1, xcw_6.2.1, xTs_at (k := 7) (i := 139) rfl rfl, xcw_6.2.2, Nat.le_of_ble_eq_true rfl, xbf rfl, ix_cd_ok xc_139_ok (xg_no _ _)⟩
theorem xmk_140 : xmkP xm_140 :=
  ⟨rfl, xcw_6.1, xcw_6.2.1, xTs_at (k := 6) (i := 129) rfl rfl, xcw_6.2.2, Nat.le_of_ble_eq_true rfl, xbf rfl, ix_cd_ok xc_140_ok (xg_no _ _)⟩
theorem xmk_141 : xmkP xm_141 :=
  ⟨rfl, xcw_6.1, xcw_6.2.1, xTs_at (k := 6) (i := 133) rfl rfl, xcw_6.2.2, Nat.le_of_ble_eq_true rfl, xbf rfl, ix_cd_ok xc_141_ok (xg_no _ _)⟩
theorem xmk_142 : xmkP xm_142 :=
  ⟨rfl, xcw_6.1, xcw_6.2.1, xTs_at (k := 6) (i := 137) rfl rfl, xcw_6.2.2, Nat.le_of_ble_eq_true rfl, xbf rfl, ix_cd_ok xc_142_ok (xg_no _ _)⟩
theorem xmk_143 : xmkP xm_143 :=
  ⟨rfl, xcw_6.1, xcw_6.2.1, xTs_at (k := 6) (i := 155) rfl rfl, xcw_6.2.2, Nat.le_of_ble_eq_true rfl, xbf rfl, ix_cd_ok xc_143_ok (xg_no _ _)⟩
theorem xmk_144 : xmkP xm_144 :=
  ⟨rfl, xcw_6.1, xcw_6.2.1, xTs_at (k := 6) (i := 204) rfl rfl, xcw_6.2.2, Nat.le_of_ble_eq_true rfl, xbf rfl, ix_cd_ok xc_144_ok (xg_no _ _)⟩
theorem xmk_145 : xmkP xm_145 :=
  ⟨rfl, xcw_6.1, xcw_6.2.1, xTs_at (k := 6) (i := 141) rfl rfl, xcw_6.2.2, Nat.le_of_ble_eq_true rfl, xbf rfl, ix_cd_ok xc_145_ok (xg_no _ _)⟩
theorem xmk_146 : xmkP xm_146 :=
  ⟨rfl, xcw_6.1, xcw_6.2.1, xTs_at (k := 6) (i := 200) rfl rfl, xcw_6.2.2, Nat.le_of_ble_eq_true rfl, xbf rfl, ix_cd_ok xc_146_ok (xg_no _ _)⟩
theorem xmk_147 : xmkP xm_147 :=
  ⟨rfl, xcw_6.1, xcw_6.2.1, xTs_at (k := 6) (i := 208) rfl rfl, xcw_6.2.2, Nat.le_of_ble_eq_true rfl, xbf rfl, ix_cd_ok xc_147_ok (xg_no _ _)⟩
theorem xmk_148 : xmkP xm_148 :=
  ⟨rfl, xcw_6.1, xcw_6.2.1, xTs_at (k := 6) (i := 145) rfl rfl, xcw_6.2.2, Nat.le_of_ble_eq_true rfl, xbf rfl, ix_cd_ok xc_148_ok (xg_no _ _)⟩
theorem xmk_149 : xmkP xm_149 :=
  ⟨rfl, xcw_6.1, xcw_6.2.1, xTs_at (k := 7) (i := 131) rfl rfl, xcw_6.2.2, Nat.le_of_ble_eq_true rfl, xbf rfl, ix_cd_ok xc_149_ok (xg_no _ _)⟩
theorem xmk_150 : xmkP xm_150 :=
  ⟨rfl, xcw_6.1, xcw_6.2.1, xTs_at (k := 6) (i := 216) rfl rfl, xcw_6.2.2, Nat.le_of_ble_eq_true rfl, xbf rfl, ix_cd_ok xc_150_ok (xg_no _ _)⟩
theorem xmk_151 : xmkP xm_151 :=
  ⟨rfl, xcw_6.1, xcw_6.2.1, xTs_at (k := 6) (i := 192) rfl rfl, xcw_6.2.2, Nat.le_of_ble_eq_true rfl, xbf rfl, ix_cd_ok xc_151_ok (xg_no _ _)⟩
theorem xmk_152 : xmkP xm_152 :=
  ⟨rfl, xcw_6.1, xcw_6.2.1, xTs_at (k := 6) (i := 196) rfl rfl, xcw_6.2.2, Nat.le_of_ble_eq_true rfl, xbf rfl, ix_cd_ok xc_152_ok (xg_no _ _)⟩
theorem xmk_153 : xmkP xm_153 :=
  ⟨rfl, xcw_6.1, xcw_6.2.1, xTs_at (k := 6) (i := 212) rfl rfl, xcw_6.2.2, Nat.le_of_ble_eq_true rfl, xbf rfl, ix_cd_ok xc_153_ok (xg_no _ _)⟩
theorem xmk_154 : xmkP xm_154 :=
  ⟨rfl, xcw_6.1, xcw_6.2.1, xTs_at (k := 6) (i := 172) rfl rfl, xcw_6.2.2, Nat.le_of_ble_eq_true rfl, xbf rfl, ix_cd_ok xc_154_ok (xg_no _ _)⟩
theorem xmk_155 : xmkP xm_155 :=
  ⟨rfl, xcw_6.1, xcw_6.2.1, xTs_at (k := 6) (i := 176) rfl rfl, xcw_6.2.2, Nat.le_of_ble_eq_true rfl, xbf rfl, ix_cd_ok xc_155_ok (xg_no _ _)⟩
theorem xmk_156 : xmkP xm_156 :=
  ⟨rfl, xcw_6.1, xcw_6.2.1, xTs_at (k := 6) (i := 168) rfl rfl, xcw_6.2.2, Nat.le_of_ble_eq_true rfl, xbf rfl, ix_cd_ok xc_156_ok (xg_no _ _)⟩
theorem xmk_157 : xmkP xm_157 :=
  ⟨rfl, xcw_6.1, xcw_6.2.1, xTs_at (k := 6) (i := 220) rfl rfl, xcw_6.2.2, Nat.le_of_ble_eq_true rfl, xbf rfl, ix_cd_ok xc_157_ok (xg_no _ _)⟩
theorem xmk_158 : xmkP xm_158 :=
  ⟨rfl, xcw_6.1, xcw_6.2.1, xTs_at (k := 6) (i := 226) rfl rfl, xcw_6.2.2, Nat.le_of_ble_eq_true rfl, xbf rfl, ix_cd_ok xc_158_ok (xg_no _ _)⟩
theorem xmk_159 : xmkP xm_159 :=
  ⟨rfl, xcw_6.1, xcw_6.2.1, xTs_at (k := 6) (i := 239) rfl rfl, xcw_6.2.2, Nat.le_of_ble_eq_true rfl, xbf rfl, ix_cd_ok xc_159_ok (xg_no _ _)⟩
theorem xmk_160 : xmkP xm_160 :=
  ⟨rfl, xcw_6.1, xcw_6.2.1, xTs_at (k := 7) (i := 3) rfl rfl, xcw_6.2.2, Nat.le_of_ble_eq_true rfl, xbf rfl, ix_cd_ok xc_160_ok (xg_no _ _)⟩
theorem xmk_161 : xmkP xm_161 :=
  ⟨rfl, xcw_6.1, xcw_6.2.1, xTs_at (k := 7) (i := 9) rfl rfl, xcw_6.2.2, Nat.le_of_ble_eq_true rfl, xbf rfl, ix_cd_ok xc_161_ok (xg_no _ _)⟩
theorem xmk_162 : xmkP xm_162 :=
  ⟨rfl, xcw_6.1, xcw_6.2.1, xTs_at (k := 7) (i := 16) rfl rfl, xcw_6.2.2, Nat.le_of_ble_eq_true rfl, xbf rfl, ix_cd_ok xc_162_ok (xg_no _ _)⟩
theorem xmk_163 : xmkP xm_163 :=
  ⟨rfl, xcw_6.1, xcw_6.2.1, xTs_at (k := 7) (i := 24) rfl rfl, xcw_6.2.2, Nat.le_of_ble_eq_true rfl, xbf rfl, ix_cd_ok xc_163_ok (xg_no _ _)⟩
theorem xmk_164 : xmkP xm_164 :=
  ⟨rfl, xcw_6.1, xcw_6.2.1, xTs_at (k := 7) (i := 32) rfl rfl, xcw_6.2.2, Nat.le_of_ble_eq_true rfl, xbf rfl, ix_cd_ok xc_164_ok (xg_no _ _)⟩
theorem xmk_165 : xmkP xm_165 :=
  ⟨rfl, xcw_6.1, xcw_6.2.1, xTs_at (k := 7) (i := 48) rfl rfl, xcw_6.2.2, Nat.le_of_ble_eq_true rfl, xbf rfl, ix_cd_ok xc_165_ok (xg_no _ _)⟩
theorem xmk_166 : xmkP xm_166 :=
  ⟨rfl, xcw_6.1, xcw_6.2.1, xTs_at (k := 7) (i := 12) rfl rfl, xcw_6.2.2, Nat.le_of_ble_eq_true rfl, xbf rfl, ix_cd_ok xc_166_ok (xg_no _ _)⟩
theorem xmk_167 : xmkP xm_167 :=
  ⟨rfl, xcw_6.1, xcw_6.2.1, xTs_at (k := 7) (i := 20) rfl rfl, xcw_6.2.2, Nat.le_of_ble_eq_true rfl, xbf rfl, ix_cd_ok xc_167_ok (xg_no _ _)⟩
theorem xmk_168 : xmkP xm_168 :=
  ⟨rfl, xcw_6.1, xcw_6.2.1, xTs_at (k := 7) (i := 36) rfl rfl, xcw_6.2.2, Nat.le_of_ble_eq_true rfl, xbf rfl, ix_cd_ok xc_168_ok (xg_no _ _)⟩
theorem xmk_169 : xmkP xm_169 :=
  ⟨rfl, xcw_6.1, xcw_6.2.1, xTs_at (k := 6) (i := 164) rfl rfl, xcw_6.2.2, Nat.le_of_ble_eq_true rfl, xbf rfl, ix_cd_ok xc_169_ok (xg_no _ _)⟩
theorem xmk_170 : xmkP xm_170 :=
  ⟨rfl, xcw_6.1, xcw_6.2.1, xTs_at (k := 6) (i := 180) rfl rfl, xcw_6.2.2, Nat.le_of_ble_eq_true rfl, xbf rfl, ix_cd_ok xc_170_ok (xg_no _ _)⟩
theorem xmk_171 : xmkP xm_171 :=
  ⟨rfl, xcw_6.1, xcw_6.2.1, xTs_at (k := 6) (i := 184) rfl rfl, xcw_6.2.2, Nat.le_of_ble_eq_true rfl, xbf rfl, ix_cd_ok xc_171_ok (xg_no _ _)⟩
theorem xmk_172 : xmkP xm_172 :=
  ⟨rfl, xcw_6.1, xcw_6.2.1, xTs_at (k := 6) (i := 188) rfl rfl, xcw_6.2.2, Nat.le_of_ble_eq_true rfl, xbf rfl, ix_cd_ok xc_172_ok (xg_no _ _)⟩
theorem xmk_173 : xmkP xm_173 :=
  ⟨rfl, xcw_6.1, xcw_6.2.1, xTs_at (k := 7) (i := 54) rfl rfl, xcw_6.2.2, Nat.le_of_ble_eq_true rfl, xbf rfl, ix_cd_ok xc_173_ok (xg_no _ _)⟩
theorem xmk_174 : xmkP xm_174 :=
  ⟨rfl, xcw_6.1, xcw_6.2.1, xTs_at (k := 7) (i := 58) rfl rfl, xcw_6.2.2, Nat.le_of_ble_eq_true rfl, xbf rfl, ix_cd_ok xc_174_ok (xg_no _ _)⟩
theorem xmk_175 : xmkP xm_175 :=
  ⟨rfl, xcw_6.1, xcw_6.2.1, xTs_at (k := 7) (i := 62) rfl rfl, xcw_6.2.2, Nat.le_of_ble_eq_true rfl, xbf rfl, ix_cd_ok xc_175_ok (xg_no _ _)⟩
theorem xmk_176 : xmkP xm_176 :=
  ⟨rfl, xcw_6.1, xcw_6.2.1, xTs_at (k := 7) (i := 70) rfl rfl, xcw_6.2.2, Nat.le_of_ble_eq_true rfl, xbf rfl, ix_cd_ok xc_176_ok (xg_no _ _)⟩
theorem xmk_177 : xmkP xm_177 :=
  ⟨rfl, xcw_6.1, xcw_6.2.1, xTs_at (k := 7) (i := 79) rfl rfl, xcw_6.2.2, Nat.le_of_ble_eq_true rfl, xbf rfl, ix_cd_ok xc_177_ok (xg_no _ _)⟩
theorem xmk_178 : xmkP xm_178 :=
  ⟨rfl, xcw_6.1, xcw_6.2.1, xTs_at (k := 7) (i := 88) rfl rfl, xcw_6.2.2, Nat.le_of_ble_eq_true rfl, xbf rfl, ix_cd_ok xc_178_ok (xg_no _ _)⟩
theorem xmk_179 : xmkP xm_179 :=
  ⟨rfl, xcw_6.1, xcw_6.2.1, xTs_at (k := 7) (i := 96) rfl rfl, xcw_6.2.2, Nat.le_of_ble_eq_true rfl, xbf rfl, ix_cd_ok xc_179_ok (xg_no _ _)⟩
theorem xmk_180 : xmkP xm_180 :=
  ⟨rfl, xcw_6.1, xcw_6.2.1, xTs_at (k := 7) (i := 111) rfl rfl, xcw_6.2.2, Nat.le_of_ble_eq_true rfl, xbf rfl, ix_cd_ok xc_180_ok (xg_no _ _)⟩
theorem xmk_181 : xmkP xm_181 :=
  ⟨rfl, xcw_6.1, xcw_6.2.1, xTs_at (k := 7) (i := 120) rfl rfl, xcw_6.2.2, Nat.le_of_ble_eq_true rfl, xbf rfl, ix_cd_ok xc_181_ok (xg_no _ _)⟩
theorem xmk_182 : xmkP xm_182 :=
  ⟨rfl, xcw_7.1, xcw_7.2.1, xTs_at (k := 2) (i := 113) rfl rfl, xcw_7.2.2, Nat.le_of_ble_eq_true rfl, fun _ => rfl, ix_cd_ok xc_182_ok (xg_no _ _)⟩
theorem xmk_183 : xmkP xm_183 :=
  ⟨rfl, xcw_7.1, xcw_7.2.1, xTs_at (k := 6) (i := 149) rfl rfl, xcw_7.2.2, Nat.le_of_ble_eq_true rfl, xbf rfl, ix_cd_ok xc_183_ok (xg_no _ _)⟩
theorem xmk_184 : xmkP xm_184 :=
  ⟨rfl, xcw_7.1, xcw_7.2.1, xTs_at (k := 7) (i := 66) rfl rfl, xcw_7.2.2, Nat.le_of_ble_eq_true rfl, xbf rfl, ix_cd_ok xc_184_ok (xg_no _ _)⟩
theorem xmk_185 : xmkP xm_185 :=
  ⟨rfl, xcw_7.1, xcw_7.2.1, xTs_at (k := 7) (i := 151) rfl rfl, xcw_7.2.2, Nat.le_of_ble_eq_true rfl, xbf rfl, ix_cd_ok xc_185_ok (xg_no _ _)⟩
theorem xmk_186 : xmkP xm_186 :=
  ⟨rfl, xcw_7.1, xcw_7.2.1, xTs_at (k := 7) (i := 160) rfl rfl, xcw_7.2.2, Nat.le_of_ble_eq_true rfl, xbf rfl, ix_cd_ok xc_186_ok (xg_no _ _)⟩
theorem xmk_187 : xmkP xm_187 :=
  ⟨rfl, xcw_7.1, xcw_7.2.1, xTs_at (k := 7) (i := 28) rfl rfl, xcw_7.2.2, Nat.le_of_ble_eq_true rfl, xbf rfl, ix_cd_ok xc_187_ok (xg_no _ _)⟩
theorem xmk_188 : xmkP xm_188 :=
  ⟨rfl, xcw_7.1, xcw_7.2.1, xTs_at (k := 7) (i := 74) rfl rfl, xcw_7.2.2, Nat.le_of_ble_eq_true rfl, xbf rfl, ix_cd_ok xc_188_ok (xg_no _ _)⟩
theorem xmk_189 : xmkP xm_189 :=
  ⟨rfl, xcw_8.1, xcw_8.2.1, xTs_at (k := 1) (i := 41) rfl rfl, xcw_8.2.2, Nat.le_of_ble_eq_true rfl, fun _ => rfl, ix_cd_ok xc_189_ok (xg_no _ _)⟩
theorem xmk_190 : xmkP xm_190 :=
  ⟨rfl, xcw_8.1, xcw_8.2.1, xTs_at (k := 3) (i := 96) rfl rfl, xcw_8.2.2, Nat.le_of_ble_eq_true rfl, xbf rfl, ix_cd_ok xc_190_ok (xg_no _ _)⟩
theorem xmk_191 : xmkP xm_191 :=
  ⟨rfl, xcw_8.1, xcw_8.2.1, xTs_at (k := 3) (i := 108) rfl rfl, xcw_8.2.2, Nat.le_of_ble_eq_true rfl, xbf rfl, ix_cd_ok xc_191_ok (xg_no _ _)⟩
theorem xmk_192 : xmkP xm_192 :=
  ⟨rfl, xcw_8.1, xcw_8.2.1, xTs_at (k := 3) (i := 112) rfl rfl, xcw_8.2.2, Nat.le_of_ble_eq_true rfl, xbf rfl, ix_cd_ok xc_192_ok (xg_no _ _)⟩
theorem xmk_193 : xmkP xm_193 :=
  ⟨rfl, xcw_8.1, xcw_8.2.1, xTs_at (k := 3) (i := 163) rfl rfl, xcw_8.2.2, Nat.le_of_ble_eq_true rfl, xbf rfl, ix_cd_ok xc_193_ok (xg_no _ _)⟩
theorem xmk_194 : xmkP xm_194 :=
  ⟨rfl, xcw_9.1, xcw_9.2.1, xTs_at (k := 2) (i := 21) rfl rfl, xcw_9.2.2, Nat.le_of_ble_eq_true rfl, fun _ => rfl, ix_cd_ok xc_194_ok (xg_no _ _)⟩
theorem xmk_195 : xmkP xm_195 :=
  ⟨rfl, xcw_9.1, xcw_9.2.1, xTs_at (k := 5) (i := 88) rfl rfl, xcw_9.2.2, Nat.le_of_ble_eq_true rfl, xbf rfl, ix_cd_ok xc_195_ok (xg_no _ _)⟩
theorem xmk_196 : xmkP xm_196 :=
  ⟨rfl, xcw_9.1, xcw_9.2.1, xTs_at (k := 5) (i := 222) rfl rfl, xcw_9.2.2, Nat.le_of_ble_eq_true rfl, xbf rfl, ix_cd_ok xc_196_ok (xg_no _ _)⟩
end
