section
theorem xmks_120 : ∀ (k : Nat) (M : ix_M), 120 ≤ k → k < 140 → xT_M k = some M → xmkP M := by
  intro k M h1 h2 h
  obtain ⟨j, rfl⟩ : ∃ j, k = 120 + j := ⟨k - 120, by omega⟩
  rcases (show j = 0 ∨ j = 1 ∨ j = 2 ∨ j = 3 ∨ j = 4 ∨ j = 5 ∨ j = 6 ∨ j = 7 ∨ j = 8 ∨ j = 9 ∨ j = 10 ∨ j = 11 ∨ j = 12 ∨ j = 13 ∨ j = 14 ∨ j = 15 ∨ j = 16 ∨ j = 17 ∨ j = 18 ∨ j = 19 by omega) with rfl | rfl | rfl | rfl | rfl | rfl | rfl | rfl | rfl | rfl | rfl | rfl | rfl | rfl | rfl | rfl | rfl | rfl | rfl | rfl
  · have e : M = xm_120 := (Option.some.inj (h.symm.trans (show xT_M (120 + 0) = some xm_120 from rfl)))
    rw [e]; exact xmk_120
  · have e : M = xm_121 := (Option.some.inj (h.symm.trans (show xT_M (120 + 1) = some xm_121 from rfl)))
    rw [e]; exact xmk_121
  · have e : M = xm_122 := (Option.some.inj (h.symm.trans (show xT_M (120 + 2) = some xm_122 from rfl)))
    rw [e]; exact xmk_122
  · have e : M = xm_123 := (Option.some.inj (h.symm.trans (show xT_M (120 + 3) = some xm_123 from rfl)))
    rw [e]; exact xmk_123
  · have e : M = xm_124 := (Option.some.inj (h.symm.trans (show xT_M (120 + 4) = some xm_124 from rfl)))
    rw [e]; exact xmk_124
  · have e : M = xm_125 := (Option.some.inj (h.symm.trans (show xT_M (120 + 5) = some xm_125 from rfl)))
    rw [e]; exact xmk_125
  · have e : M = xm_126 := (Option.some.inj (h.symm.trans (show xT_M (120 + 6) = some xm_126 from rfl)))
    rw [e]; exact xmk_126
  · have e : M = xm_127 := (Option.some.inj (h.symm.trans (show xT_M (120 + 7) = some xm_127 from rfl)))
    rw [e]; exact xmk_127
  · have e : M = xm_128 := (Option.some.inj (h.symm.trans (show xT_M (120 + 8) = some xm_128 from rfl)))
    rw [e]; exact xmk_128
  · have e : M = xm_129 := (Option.some.inj (h.symm.trans (show xT_M (120 + 9) = some xm_129 from rfl)))
    rw [e]; exact xmk_129
  · have e : M = xm_130 := (Option.some.inj (h.symm.trans (show xT_M (120 + 10) = some xm_130 from rfl)))
    rw [e]; exact xmk_130
  · have e : M = xm_131 := (Option.some.inj (h.symm.trans (show xT_M (120 + 11) = some xm_131 from rfl)))
    rw [e]; exact xmk_131
  · have e : M = xm_132 := (Option.some.inj (h.symm.trans (show xT_M (120 + 12) = some xm_132 from rfl)))
    rw [e]; exact xmk_132
  · have e : M = xm_133 := (Option.some.inj (h.symm.trans (show xT_M (120 + 13) = some xm_133 from rfl)))
    rw [e]; exact xmk_133
  · have e : M = xm_134 := (Option.some.inj (h.symm.trans (show xT_M (120 + 14) = some xm_134 from rfl)))
    rw [e]; exact xmk_134
  · have e : M = xm_135 := (Option.some.inj (h.symm.trans (show xT_M (120 + 15) = some xm_135 from rfl)))
    rw [e]; exact xmk_135
  · have e : M = xm_136 := (Option.some.inj (h.symm.trans (show xT_M (120 + 16) = some xm_136 from rfl)))
    rw [e]; exact xmk_136
  · have e : M = xm_137 := (Option.some.inj (h.symm.trans (show xT_M (120 + 17) = some xm_137 from rfl)))
    rw [e]; exact xmk_137
  · have e : M = xm_138 := (Option.some.inj (h.symm.trans (show xT_M (120 + 18) = some xm_138 from rfl)))
    rw [e]; exact xmk_138
  · have e : M = xm_139 := (Option.some.inj (h.symm.trans (show xT_M (120 + 19) = some xm_139 from rfl)))
    rw [e]; exact xmk_139
theorem xmks_140 : ∀ (k : Nat) (M : ix_M), 140 ≤ k → k < 160 → xT_M k = some M → xmkP M := by
  intro k M h1 h2 h
  obtain ⟨j, rfl⟩ : ∃ j, k = 140 + j := ⟨k - 140, by omega⟩
  rcases (show j = 0 ∨ j = 1 ∨ j = 2 ∨ j = 3 ∨ j = 4 ∨ j = 5 ∨ j = 6 ∨ j = 7 ∨ j = 8 ∨ j = 9 ∨ j = 10 ∨ j = 11 ∨ j = 12 ∨ j = 13 ∨ j = 14 ∨ j = 15 ∨ j = 16 ∨ j = 17 ∨ j = 18 ∨ j = 19 by omega) with rfl | rfl | rfl | rfl | rfl | rfl | rfl | rfl | rfl | rfl | rfl | rfl | rfl | rfl | rfl | rfl | rfl | rfl | rfl | rfl
  · have e : M = xm_140 := (Option.some.inj (h.symm.trans (show xT_M (140 + 0) = some xm_140 from rfl)))
    rw [e]; exact xmk_140
  · have e : M = xm_141 := (Option.some.inj (h.symm.trans (show xT_M (140 + 1) = some xm_141 from rfl)))
    rw [e]; exact xmk_141
  · have e : M = xm_142 := (Option.some.inj (h.symm.trans (show xT_M (140 + 2) = some xm_142 from rfl)))
    rw [e]; exact xmk_142
  · have e : M = xm_143 := (Option.some.inj (h.symm.trans (show xT_M (140 + 3) = some xm_143 from rfl)))
    rw [e]; exact xmk_143
  · have e : M = xm_144 := (Option.some.inj (h.symm.trans (show xT_M (140 + 4) = some xm_144 from rfl)))
    rw [e]; exact xmk_144
  · have e : M = xm_145 := (Option.some.inj (h.symm.trans (show xT_M (140 + 5) = some xm_145 from rfl)))
    rw [e]; exact xmk_145
  · have e : M = xm_146 := (Option.some.inj (h.symm.trans (show xT_M (140 + 6) = some xm_146 from rfl)))
    rw [e]; exact xmk_146
  · have e : M = xm_147 := (Option.some.inj (h.symm.trans (show xT_M (140 + 7) = some xm_147 from rfl)))
    rw [e]; exact xmk_147
  · have e : M = xm_148 := (Option.some.inj (h.symm.trans (show xT_M (140 + 8) = some xm_148 from rfl)))
    rw [e]; exact xmk_148
  · have e : M = xm_149 := (Option.some.inj (h.symm.trans (show xT_M (140 + 9) = some xm_149 from rfl)))
    rw [e]; exact xmk_149
  · have e : M = xm_150 := (Option.some.inj (h.symm.trans (show xT_M (140 + 10) = some xm_150 from rfl)))
    rw [e]; exact xmk_150
  · have e : M = xm_151 := (Option.some.inj (h.symm.trans (show xT_M (140 + 11) = some xm_151 from rfl)))
    rw [e]; exact xmk_151
  · have e : M = xm_152 := (Option.some.inj (h.symm.trans (show xT_M (140 + 12) = some xm_152 from rfl)))
    rw [e]; exact xmk_152
  · have e : M = xm_153 := (Option.some.inj (h.symm.trans (show xT_M (140 + 13) = some xm_153 from rfl)))
    rw [e]; exact xmk_153
  · have e : M = xm_154 := (Option.some.inj (h.symm.trans (show xT_M (140 + 14) = some xm_154 from rfl)))
    rw [e]; exact xmk_154
  · have e : M = xm_155 := (Option.some.inj (h.symm.trans (show xT_M (140 + 15) = some xm_155 from rfl)))
    rw [e]; exact xmk_155
  · have e : M = xm_156 := (Option.some.inj (h.symm.trans (show xT_M (140 + 16) = some xm_156 from rfl)))
    rw [e]; exact xmk_156
  · have e : M = xm_157 := (Option.some.inj (h.symm.trans (show xT_M (140 + 17) = some xm_157 from rfl)))
    rw [e]; exact xmk_157
  · have e : M = xm_158 := (Option.some.inj (h.symm.trans (show xT_M (140 + 18) = some xm_158 from rfl)))
    rw [e]; exact xmk_158
  · have e : M = xm_159 := (Option.some.inj (h.symm.trans (show xT_M (140 + 19) = some xm_159 from rfl)))
    rw [e]; exact xmk_159
theorem xmks_160 : ∀ (k : Nat) (M : ix_M), 160 ≤ k → k < 180 → xT_M k = some M → xmkP M := by
  intro k M h1 h2 h
  obtain ⟨j, rfl⟩ : ∃ j, k = 160 + j := ⟨k - 160, by omega⟩
  rcases (show j = 0 ∨ j = 1 ∨ j = 2 ∨ j = 3 ∨ j = 4 ∨ j = 5 ∨ j = 6 ∨ j = 7 ∨ j = 8 ∨ j = 9 ∨ j = 10 ∨ j = 11 ∨ j = 12 ∨ j = 13 ∨ j = 14 ∨ j = 15 ∨ j = 16 ∨ j = 17 ∨ j = 18 ∨ j = 19 by omega) with rfl | rfl | rfl | rfl | rfl | rfl | rfl | rfl | rfl | rfl | rfl | rfl | rfl | rfl | rfl | rfl | rfl | rfl | rfl | rfl
  · have e : M = xm_160 := (Option.some.inj (h.symm.trans (show xT_M (160 + 0) = some xm_160 from rfl)))
    rw [e]; exact xmk_160
  · have e : M = xm_161 := (Option.some.inj (h.symm.trans (show xT_M (160 + 1) = some xm_161 from rfl)))
    rw [e]; exact xmk_161
  · have e : M = xm_162 := (Option.some.inj (h.symm.trans (show xT_M (160 + 2) = some xm_162 from rfl)))
    rw [e]; exact xmk_162
  · have e : M = xm_163 := (Option.some.inj (h.symm.trans (show xT_M (160 + 3) = some xm_163 from rfl)))
    rw [e]; exact xmk_163
  · have e : M = xm_164 := (Option.some.inj (h.symm.trans (show xT_M (160 + 4) = some xm_164 from rfl)))
    rw [e]; exact xmk_164
  · have e : M = xm_165 := (Option.some.inj (h.symm.trans (show xT_M (160 + 5) = some xm_165 from rfl)))
    rw [e]; exact xmk_165
  · have e : M = xm_166 := (Option.some.inj (h.symm.trans (show xT_M (160 + 6) = some xm_166 from rfl)))
    rw [e]; exact xmk_166
  · have e : M = xm_167 := (Option.some.inj (h.symm.trans (show xT_M (160 + 7) = some xm_167 from rfl)))
    rw [e]; exact xmk_167
  · have e : M = xm_168 := (Option.some.inj (h.symm.trans (show xT_M (160 + 8) = some xm_168 from rfl)))
    rw [e]; exact xmk_168
  · have e : M = xm_169 := (Option.some.inj (h.symm.trans (show xT_M (160 + 9) = some xm_169 from rfl)))
    rw [e]; exact xmk_169
  · have e : M = xm_170 := (Option.some.inj (h.symm.trans (show xT_M (160 + 10) = some xm_170 from rfl)))
    rw [e]; exact xmk_170
  · have e : M = xm_171 := (Option.some.inj (h.symm.trans (show xT_M (160 + 11) = some xm_171 from rfl)))
    rw [e]; exact xmk_171
  · have e : M = xm_172 := (Option.some.inj (h.symm.trans (show xT_M (160 + 12) = some xm_172 from rfl)))
    rw [e]; exact xmk_172
  · have e : M = xm_173 := (Option.some.inj (h.symm.trans (show xT_M (160 + 13) = some xm_173 from rfl)))
    rw [e]; exact xmk_173
  · have e : M = xm_174 := (Option.some.inj (h.symm.trans (show xT_M (160 + 14) = some xm_174 from rfl)))
    rw [e]; exact xmk_174
  · have e : M = xm_175 := (Option.some.inj (h.symm.trans (show xT_M (160 + 15) = some xm_175 from rfl)))
    rw [e]; exact xmk_175
  · have e : M = xm_176 := (Option.some.inj (h.symm.trans (show xT_M (160 + 16) = some xm_176 from rfl)))
    rw [e]; exact xmk_176
  · have e : M = xm_177 := (Option.some.inj (h.symm.trans (show xT_M (160 + 17) = some xm_177 from rfl)))
    rw [e]; exact xmk_177
  · have e : M = xm_178 := (Option.some.inj (h.symm.trans (show xT_M (160 + 18) = some xm_178 from rfl)))
    rw [e]; exact xmk_178
  · have e : M = xm_179 := (Option.some.inj (h.symm.trans (show xT_M (160 + 19) = some xm_179 from rfl)))
    rw [e]; exact xmk_179
theorem xmks_180 : ∀ (k : Nat) (M : ix_M), 180 ≤ k → k < 200 → xT_M k = some M → xmkP M := by
  intro k M h1 h2 h
  obtain ⟨j, rfl⟩ : ∃ j, k = 180 + j := ⟨k - 180, by omega⟩
  rcases (show j = 0 ∨ j = 1 ∨ j = 2 ∨ j = 3 ∨ j = 4 ∨ j = 5 ∨ j = 6 ∨ j = 7 ∨ j = 8 ∨ j = 9 ∨ j = 10 ∨ j = 11 ∨ j = 12 ∨ j = 13 ∨ j = 14 ∨ j = 15 ∨ j = 16 ∨ j = 17 ∨ j = 18 ∨ j = 19 by omega) with rfl | rfl | rfl | rfl | rfl | rfl | rfl | rfl | rfl | rfl | rfl | rfl | rfl | rfl | rfl | rfl | rfl | rfl | rfl | rfl
  · have e : M = xm_180 := (Option.some.inj (h.symm.trans (show xT_M (180 + 0) = some xm_180 from rfl)))
    rw [e]; exact xmk_180
  · have e : M = xm_181 := (Option.some.inj (h.symm.trans (show xT_M (180 + 1) = some xm_181 from rfl)))
    rw [e]; exact xmk_181
  · have e : M = xm_182 := (Option.some.inj (h.symm.trans (show xT_M (180 + 2) = some xm_182 from rfl)))
    rw [e]; exact xmk_182
  · have e : M = xm_183 := (Option.some.inj (h.symm.trans (show xT_M (180 + 3) = some xm_183 from rfl)))
    rw [e]; exact xmk_183
  · have e : M = xm_184 := (Option.some.inj (h.symm.trans (show xT_M (180 + 4) = some xm_184 from rfl)))
    rw [e]; exact xmk_184
  · have e : M = xm_185 := (Option.some.inj (h.symm.trans (show xT_M (180 + 5) = some xm_185 from rfl)))
    rw [e]; exact xmk_185
  · have e : M = xm_186 := (Option.some.inj (h.symm.trans (show xT_M (180 + 6) = some xm_186 from rfl)))
    rw [e]; exact xmk_186
  · have e : M = xm_187 := (Option.some.inj (h.symm.trans (show xT_M (180 + 7) = some xm_187 from rfl)))
    rw [e]; exact xmk_187
  · have e : M = xm_188 := (Option.some.inj (h.symm.trans (show xT_M (180 + 8) = some xm_188 from rfl)))
    rw [e]; exact xmk_188
  · have e : M = xm_189 := (Option.some.inj (h.symm.trans (show xT_M (180 + 9) = some xm_189 from rfl)))
    rw [e]; exact xmk_189
  · have e : M = xm_190 := (Option.some.inj (h.symm.trans (show xT_M (180 + 10) = some xm_190 from rfl)))
    rw [e]; exact xmk_190
  · have e : M = xm_191 := (Option.some.inj (h.symm.trans (show xT_M (180 + 11) = some xm_191 from rfl)))
    rw [e]; exact xmk_191
  · have e : M = xm_192 := (Option.some.inj (h.symm.trans (show xT_M (180 + 12) = some xm_192 from rfl)))
    rw [e]; exact xmk_192
  · have e : M = xm_193 := (Option.some.inj (h.symm.trans (show xT_M (180 + 13) = some xm_193 from rfl)))
    rw [e]; exact xmk_193
  · have e : M = xm_194 := (Option.some.inj (h.symm.trans (show xT_M (180 + 14) = some xm_194 from rfl)))
    rw [e]; exact xmk_194
  · have e : M = xm_195 := (Option.some.inj (h.symm.trans (show xT_M (180 + 15) = some xm_195 from rfl)))
    rw [e]; exact xmk_195
  · have e : M = xm_196 := (Option.some.inj (h.symm.trans (show xT_M (180 + 16) = some xm_196 from rfl)))
    rw [e]; exact xmk_196
  · have e : M = xm_197 := (Option.some.inj (h.symm.trans (show xT_M (180 + 17) = some xm_197 from rfl)))
    rw [e]; exact xmk_197
  · have e : M = xm_198 := (Option.some.inj (h.symm.trans (show xT_M (180 + 18) = some xm_198 from rfl)))
    rw [e]; exact xmk_198
  · have e : M = xm_199 := (Option.some.inj (h.symm.trans (show xT_M (180 + 19) = some xm_199 from rfl)))
    rw [e]; exact xmk_199
theorem xmks_200 : ∀ (k : Nat) (M : ix_M), 200 ≤ k → k < 220 → xT_M k = some M → xmkP M := by
  intro k M h1 h2 h
  obtain ⟨j, rfl⟩ : ∃ j, k = 200 + j := ⟨k - 200, by omega⟩
  rcases (show j = 0 ∨ j = 1 ∨ j = 2 ∨ j = 3 ∨ j = 4 ∨ j = 5 ∨ j = 6 ∨ j = 7 ∨ j = 8 ∨ j = 9 ∨ j = 10 ∨ j = 11 ∨ j = 12 ∨ j = 13 ∨ j = 14 ∨ j = 15 ∨ j = 16 ∨ j = 17 ∨ j = 18 ∨ j = 19 by omega) with rfl | rfl | rfl | rfl | rfl | rfl | rfl | rfl | rfl | rfl | rfl | rfl | rfl | rfl | rfl | rfl | rfl | rfl | rfl | rfl
  · have e : M = xm_200 := (Option.some.inj (h.symm.trans (show xT_M (200 + 0) = some xm_200 from rfl)))
    rw [e]; exact xmk_200
  · have e : M = xm_201 := (Option.some.inj (h.symm.trans (show xT_M (200 + 1) = some xm_201 from rfl)))
    rw [e]; exact xmk_201
  · have e : M = xm_202 := (Option.some.inj (h.symm.trans (show xT_M (200 + 2) = some xm_202 from rfl)))
    rw [e]; exact xmk_202
  · have e : M = xm_203 := (Option.some.inj (h.symm.trans (show xT_M (200 + 3) = some xm_203 from rfl)))
    rw [e]; exact xmk_203
  · have e : M = xm_204 := (Option.some.inj (h.symm.trans (show xT_M (200 + 4) = some xm_204 from rfl)))
    rw [e]; exact xmk_204
  · have e : M = xm_205 := (Option.some.inj (h.symm.trans (show xT_M (200 + 5) = some xm_205 from rfl)))
    rw [e]; exact xmk_205
  · have e : M = xm_206 := (Option.some.inj (h.symm.trans (show xT_M (200 + 6) = some xm_206 from rfl)))
    rw [e]; exact xmk_206
  · have e : M = xm_207 := (Option.some.inj (h.symm.trans (show xT_M (200 + 7) = some xm_207 from rfl)))
    rw [e]; exact xmk_207
  · have e : M = xm_208 := (Option.some.inj (h.symm.trans (show xT_M (200 + 8) = some xm_208 from rfl)))
    rw [e]; exact xmk_208
  · have e : M = xm_209 := (Option.some.inj (h.symm.trans (show xT_M (200 + 9) = some xm_209 from rfl)))
    rw [e]; exact xmk_209
  · have e : M = xm_210 := (Option.some.inj (h.symm.trans (show xT_M (200 + 10) = some xm_210 from rfl)))
    rw [e]; exact xmk_210
  · have e : M = xm_211 := (Option.some.inj (h.symm.trans (show xT_M (200 + 11) = some xm_211 from rfl)))
    rw [e]; exact xmk_211
  · have e : M = xm_212 := (Option.some.inj (h.symm.trans (show xT_M (200 + 12) = some xm_212 from rfl)))
    rw [e]; exact xmk_212
  · have e : M = xm_213 := (Option.some.inj (h.symm.trans (show xT_M (200 + 13) = some xm_213 from rfl)))
    rw [e]; exact xmk_213
  · have e : M = xm_214 := (Option.some.inj (h.symm.trans (show xT_M (200 + 14) = some xm_214 from rfl)))
    rw [e]; exact xmk_214
  · have e : M = xm_215 := (Option.some.inj (h.symm.trans (show xT_M (200 + 15) = some xm_215 from rfl)))
    rw [e]; exact xmk_215
  · have e : M = xm_216 := (Option.some.inj (h.symm.trans (show xT_M (200 + 16) = some xm_216 from rfl)))
    rw [e]; exact xmk_216
  · have e : M = xm_217 := (Option.some.inj (h.symm.trans (show xT_M (200 + 17) = some xm_217 from rfl)))
    rw [e]; exact xmk_217
  · have e : M = xm_218 := (Option.some.inj (h.symm.trans (show xT_M (200 + 18) = some xm_218 from rfl)))
    rw [e]; exact xmk_218
  · have e : M = xm_219 := (Option.some.inj (h.symm.trans (show xT_M (200 + 19) = some xm_219 from rfl)))
    rw [e]; exact xmk_219
theorem xmks_220 : ∀ (k : Nat) (M : ix_M), 220 ≤ k → k < 240 → xT_M k = some M → xmkP M := by
  intro k M h1 h2 h
  obtain ⟨j, rfl⟩ : ∃ j, k = 220 + j := ⟨k - 220, by omega⟩
  rcases (show j = 0 ∨ j = 1 ∨ j = 2 ∨ j = 3 ∨ j = 4 ∨ j = 5 ∨ j = 6 ∨ j = 7 ∨ j = 8 ∨ j = 9 ∨ j = 10 ∨ j = 11 ∨ j = 12 ∨ j = 13 ∨ j = 14 ∨ j = 15 ∨ j = 16 ∨ j = 17 ∨ j = 18 ∨ j = 19 by omega) with rfl | rfl | rfl | rfl | rfl | rfl | rfl | rfl | rfl | rfl | rfl | rfl | rfl | rfl | rfl | rfl | rfl | rfl | rfl | rfl
  · have e : M = xm_220 := (Option.some.inj (h.symm.trans (show xT_M (220 + 0) = some xm_220 from rfl)))
    rw [e]; exact xmk_220
  · have e : M = xm_221 := (Option.some.inj (h.symm.trans (show xT_M (220 + 1) = some xm_221 from rfl)))
    rw [e]; exact xmk_221
  · have e : M = xm_222 := (Option.some.inj (h.symm.trans (show xT_M (220 + 2) = some xm_222 from rfl)))
    rw [e]; exact xmk_222
  · have e : M = xm_223 := (Option.some.inj (h.symm.trans (show xT_M (220 + 3) = some xm_223 from rfl)))
    rw [e]; exact xmk_223
  · have e : M = xm_224 := (Option.some.inj (h.symm.trans (show xT_M (220 + 4) = some xm_224 from rfl)))
    rw [e]; exact xmk_224
  · have e : M = xm_225 := (Option.some.inj (h.symm.trans (show xT_M (220 + 5) = some xm_225 from rfl)))
    rw [e]; exact xmk_225
  · have e : M = xm_226 := (Option.some.inj (h.symm.trans (show xT_M (220 + 6) = some xm_226 from rfl)))
    rw [e]; exact xmk_226
  · have e : M = xm_227 := (Option.some.inj (h.symm.trans (show xT_M (220 + 7) = some xm_227 from rfl)))
    rw [e]; exact xmk_227
  · have e : M = xm_228 := (Option.some.inj (h.symm.trans (show xT_M (220 + 8) = some xm_228 from rfl)))
    rw [e]; exact xmk_228
  · have e : M = xm_229 := (Option.some.inj (h.symm.trans (show xT_M (220 + 9) = some xm_229 from rfl)))
    rw [e]; exact xmk_229
  · have e : M = xm_230 := (Option.some.inj (h.symm.trans (show xT_M (220 + 10) = some xm_230 from rfl)))
    rw [e]; exact xmk_230
  · have e : M = xm_231 := (Option.some.inj (h.symm.trans (show xT_M (220 + 11) = some xm_231 from rfl)))
    rw [e]; exact xmk_231
  · have e : M = xm_232 := (Option.some.inj (h.symm.trans (show xT_M (220 + 12) = some xm_232 from rfl)))
    rw [e]; exact xmk_232
  · have e : M = xm_233 := (Option.some.inj (h.symm.trans (show xT_M (220 + 13) = some xm_233 from rfl)))
    rw [e]; exact xmk_233
  · have e : M = xm_234 := (Option.some.inj (h.symm.trans (show xT_M (220 + 14) = some xm_234 from rfl)))
    rw [e]; exact xmk_234
  · have e : M = xm_235 := (Option.some.inj (h.symm.trans (show xT_M (220 + 15) = some xm_235 from rfl)))
    rw [e]; exact xmk_235
  · have e : M = xm_236 := (Option.some.inj (h.symm.trans (show xT_M (220 + 16) = some xm_236 from rfl)))
    rw [e]; exact xmk_236
  · have e : M = xm_237 := (Option.some.inj (h.symm.trans (show xT_M (220 + 17) = some xm_237 from rfl)))
    rw [e]; exact xmk_237
  · have e : M = xm_238 := (Option.some.inj (h.symm.trans (show xT_M (220 + 18) = some xm_238 from rfl)))
    rw [e]; exact xmk_238
  · have e : M = xm_239 := (Option.some.inj (h.symm.trans (show xT_M (220 + 19) = some xm_239 from rfl)))
    rw [e]; exact xmk_239
end
