section
theorem xmk_197 : xmkP xm_197 :=
  ⟨rfl, xcw_9.1, xcw_9.2.1, xTs_at (k := 5) (i := 226) rfl rfl, xcw_9.2.2, Nat.le_of_ble_eq_true rfl, xbf rfl, ix_cd_ok xc_197_ok (xg_no _ _)⟩
theorem xmk_198 : xmkP xm_198 :=
  ⟨rfl, xcw_9.1, xcw_9.2.1, xTs_at (k := 6) (i := 14) rfl rfl, xcw_9.2.2, Nat.le_of_ble_eq_true rfl, xbf rfl, ix_cd_ok xc_198_ok (xg_no _ _)⟩
theorem xmk_199 : xmkP xm_199 :=
  ⟨rfl, xcw_9.1, xcw_9.2.1, xTs_at (k := 6) (i := 26) rfl rfl, xcw_9.2.2, Nat.le_of_ble_eq_true rfl, xbf rfl, ix_cd_ok xc_199_ok (xg_no _ _)⟩
theorem xmk_200 : xmkP xm_200 :=
  ⟨rfl, xcw_9.1, xcw_9.2.1, xTs_at (k := 6) (i := 38) rfl rfl, xcw_9.2.2, Nat.le_of_ble_eq_true rfl, xbf rfl, ix_cd_ok xc_200_ok (xg_no _ _)⟩
theorem xmk_201 : xmkP xm_201 :=
  ⟨rfl, xcw_9.1, xcw_9.2.1, xTs_at (k := 6) (i := 79) rfl rfl, xcw_9.2.2, Nat.le_of_ble_eq_true rfl, xbf rfl, ix_cd_ok xc_201_ok (xg_no _ _)⟩
theorem xmk_202 : xmkP xm_202 :=
  ⟨rfl, xcw_9.1, xcw_9.2.1, xTs_at (k := 6) (i := 83) rfl rfl, xcw_9.2.2, Nat.le_of_ble_eq_true rfl, xbf rfl, ix_cd_ok xc_202_ok (xg_no _ _)⟩
theorem xmk_203 : xmkP xm_203 :=
  ⟨rfl, xcw_9.1, xcw_9.2.1, xTs_at (k := 6) (i := 42) rfl rfl, xcw_9.2.2, Nat.le_of_ble_eq_true rfl, xbf rfl, ix_cd_ok xc_203_ok (xg_no _ _)⟩
theorem xmk_204 : xmkP xm_204 :=
  ⟨rfl, xcw_9.1, xcw_9.2.1, xTs_at (k := 6) (i := 87) rfl rfl, xcw_9.2.2, Nat.le_of_ble_eq_true rfl, xbf rfl, ix_cd_ok xc_204_ok (xg_no _ _)⟩
theorem xmk_205 : xmkP xm_205 :=
  ⟨rfl, xcw_9.1, xcw_9.2.1, xTs_at (k := 6) (i := 46) rfl rfl, xcw_9.2.2, Nat.le_of_ble_eq_true rfl, xbf rfl, ix_cd_ok xc_205_ok (xg_no _ _)⟩
theorem xmk_206 : xmkP xm_206 :=
  ⟨rfl, xcw_9.1, xcw_9.2.1, xTs_at (k := 6) (i := 55) rfl rfl, xcw_9.2.2, Nat.le_of_ble_eq_true rfl, xbf rfl, ix_cd_ok xc_206_ok (xg_no _ _)⟩
theorem xmk_207 : xmkP xm_207 :=
  ⟨rfl, xcw_9.1, xcw_9.2.1, xTs_at (k := 6) (i := 76) rfl rfl, xcw_9.2.2, Nat.le_of_ble_eq_true rfl, xbf rfl, ix_cd_ok xc_207_ok (xg_no _ _)⟩
theorem xmk_208 : xmkP xm_208 :=
  ⟨rfl, xcw_9.1, xcw_9.2.1, xTs_at (k := 6) (i := 99) rfl rfl, xcw_9.2.2, Nat.le_of_ble_eq_true rfl, xbf rfl, ix_cd_ok xc_208_ok (xg_no _ _)⟩
theorem xmk_209 : xmkP xm_209 :=
  ⟨rfl, xcw_9.1, xcw_9.2.1, xTs_at (k := 6) (i := 6) rfl rfl, xcw_9.2.2, Nat.le_of_ble_eq_true rfl, xbf rfl, ix_cd_ok xc_209_ok (xg_no _ _)⟩
theorem xmk_210 : xmkP xm_210 :=
  ⟨rfl, xcw_9.1, xcw_9.2.1, xTs_at (k := 6) (i := 10) rfl rfl, xcw_9.2.2, Nat.le_of_ble_eq_true rfl, xbf rfl, ix_cd_ok xc_210_ok (xg_no _ _)⟩
theorem xmk_211 : xmkP xm_211 :=
  ⟨rfl, xcw_9.1, xcw_9.2.1, xTs_at (k := 5) (i := 100) rfl rfl, xcw_9.2.2, Nat.le_of_ble_eq_true rfl, xbf rfl, ix_cd_ok xc_211_ok (xg_no _ _)⟩
theorem xmk_212 : xmkP xm_212 :=
  ⟨rfl, xcw_9.1, xcw_9.2.1, xTs_at (k := 5) (i := 157) rfl rfl, xcw_9.2.2, Nat.le_of_ble_eq_true rfl, xbf rfl, ix_cd_ok xc_212_ok (xg_no _ _)⟩
theorem xmk_213 : xmkP xm_213 :=
  ⟨rfl, xcw_9.1, xcw_9.2.1, xTs_at (k := 6) (i := 58) rfl rfl, xcw_9.2.2, Nat.le_of_ble_eq_true rfl, xbf rfl, ix_cd_ok xc_213_ok (xg_no _ _)⟩
theorem xmk_214 : xmkP xm_214 :=
  ⟨rfl, xcw_9.1, xcw_9.2.1, xTs_at (k := 5) (i := 105) rfl rfl, xcw_9.2.2, Nat.le_of_ble_eq_true rfl, xbf rfl, ix_cd_ok xc_214_ok (xg_no _ _)⟩
theorem xmk_215 : xmkP xm_215 :=
  ⟨rfl, xcw_9.1, xcw_9.2.1, xTs_at (k := 5) (i := 96) rfl rfl, xcw_9.2.2, Nat.le_of_ble_eq_true rfl, xbf rfl, ix_cd_ok xc_215_ok (xg_no _ _)⟩
theorem xmk_216 : xmkP xm_216 :=
  ⟨rfl, xcw_9.1, xcw_9.2.1, xTs_at (k := 5) (i := 161) rfl rfl, xcw_9.2.2, Nat.le_of_ble_eq_true rfl, xbf rfl, ix_cd_ok xc_216_ok (xg_no _ _)⟩
theorem xmk_217 : xmkP xm_217 :=
  ⟨rfl, xcw_9.1, xcw_9.2.1, xTs_at (k := 6) (i := 22) rfl rfl, xcw_9.2.2, Nat.le_of_ble_eq_true rfl, xbf rfl, ix_cd_ok xc_217_ok (xg_no _ _)⟩
theorem xmk_218 : xmkP xm_218 :=
  ⟨rfl, xcw_9.1, xcw_9.2.1, xTs_at (k := 5) (i := 230) rfl rfl, xcw_9.2.2, Nat.le_of_ble_eq_true rfl, xbf rfl, ix_cd_ok xc_218_ok (xg_no _ _)⟩
theorem xmk_219 : xmkP xm_219 :=
  ⟨rfl, xcw_9.1, xcw_9.2.1, xTs_at (k := 6) (i := 2) rfl rfl, xcw_9.2.2, Nat.le_of_ble_eq_true rfl, xbf rfl, ix_cd_ok xc_219_ok (xg_no _ _)⟩
theorem xmk_220 : xmkP xm_220 :=
  ⟨rfl, xcw_9.1, xcw_9.2.1, xTs_at (k := 6) (i := 50) rfl rfl, xcw_9.2.2, Nat.le_of_ble_eq_true rfl, xbf rfl, ix_cd_ok xc_220_ok (xg_no _ _)⟩
theorem xmk_221 : xmkP xm_221 :=
  ⟨rfl, xcw_9.1, xcw_9.2.1, xTs_at (k := 6) (i := 95) rfl rfl, xcw_9.2.2, Nat.le_of_ble_eq_true rfl, xbf rfl, ix_cd_ok xc_221_ok (xg_no _ _)⟩
theorem xmk_222 : xmkP xm_222 :=
  ⟨rfl, xcw_9.1, xcw_9.2.1, xTs_at (k := 6) (i := 18) rfl rfl, xcw_9.2.2, Nat.le_of_ble_eq_true rfl, xbf rfl, ix_cd_ok xc_222_ok (xg_no _ _)⟩
theorem xmk_223 : xmkP xm_223 :=
  ⟨rfl, xcw_9.1, xcw_9.2.1, xTs_at (k := 6) (i := 30) rfl rfl, xcw_9.2.2, Nat.le_of_ble_eq_true rfl, xbf rfl, ix_cd_ok xc_223_ok (xg_no _ _)⟩
theorem xmk_224 : xmkP xm_224 :=
  ⟨rfl, xcw_9.1, xcw_9.2.1, xTs_at (k := 5) (i := 234) rfl rfl, xcw_9.2.2, Nat.le_of_ble_eq_true rfl, xbf rfl, ix_cd_ok xc_224_ok (xg_no _ _)⟩
theorem xmk_225 : xmkP xm_225 :=
  ⟨rfl, xcw_9.1, xcw_9.2.1, xTs_at (k := 5) (i := 238) rfl rfl, xcw_9.2.2, Nat.le_of_ble_eq_true rfl, xbf rfl, ix_cd_ok xc_225_ok (xg_no _ _)⟩
theorem xmk_226 : xmkP xm_226 :=
  ⟨rfl, xcw_10.1, xcw_10.2.1, xTs_at (k := 2) (i := 27) rfl rfl, xcw_10.2.2, Nat.le_of_ble_eq_true rfl, fun _ => rfl, ix_cd_ok xc_226_ok (xg_no _ _)⟩
theorem xmk_227 : xmkP xm_227 :=
  ⟨rfl, xcw_10.1, xcw_10.2.1, xTs_at (k := 5) (i := 92) rfl rfl, xcw_10.2.2, Nat.le_of_ble_eq_true rfl, xbf rfl, ix_cd_ok xc_227_ok (xg_no _ _)⟩
theorem xmk_228 : xmkP xm_228 :=
  ⟨rfl, xcw_10.1, xcw_10.2.1, xTs_at (k := 6) (i := 34) rfl rfl, xcw_10.2.2, Nat.le_of_ble_eq_true rfl, xbf rfl, ix_cd_ok xc_228_ok (xg_no _ _)⟩
theorem xmk_229 : xmkP xm_229 :=
  ⟨rfl, xcw_10.1, xcw_10.2.1, xTs_at (k := 6) (i := 91) rfl rfl, xcw_10.2.2, Nat.le_of_ble_eq_true rfl, xbf rfl, ix_cd_ok xc_229_ok (xg_no _ _)⟩
theorem xmk_230 : xmkP xm_230 :=
  ⟨rfl, xcw_10.1, xcw_10.2.1, xTs_at (k := 6) (i := 103) rfl rfl, xcw_10.2.2, Nat.le_of_ble_eq_true rfl, xbf rfl, ix_cd_ok xc_230_ok (xg_no _ _)⟩
theorem xmk_231 : xmkP xm_231 :=
  ⟨rfl, xcw_10.1, xcw_10.2.1, xTs_at (k := 6) (i := 160) rfl rfl, xcw_10.2.2, Nat.le_of_ble_eq_true rfl, xbf rfl, ix_cd_ok xc_231_ok (xg_no _ _)⟩
theorem xmk_232 : xmkP xm_232 :=
  ⟨rfl, xcw_11.1, xcw_11.2.1, xTs_at (k := 2) (i := 153) rfl rfl, xcw_11.2.2, Nat.le_of_ble_eq_true rfl, fun _ => rfl, ix_cd_ok xc_232_ok (xg_no _ _)⟩
theorem xmk_233 : xmkP xm_233 :=
  ⟨rfl, xcw_11.1, xcw_11.2.1, xTs_at (k := 7) (i := 44) rfl rfl, xcw_11.2.2, Nat.le_of_ble_eq_true rfl, xbf rfl, ix_cd_ok xc_233_ok (xg_no _ _)⟩
theorem xmk_234 : xmkP xm_234 :=
  ⟨rfl, xcw_11.1, xcw_11.2.1, xTs_at (k := 7) (i := 40) rfl rfl, xcw_11.2.2, Nat.le_of_ble_eq_true rfl, xbf rfl, ix_cd_ok xc_234_ok (xg_no _ _)⟩
theorem xmk_235 : xmkP xm_235 :=
  ⟨rfl, xcw_11.1, xcw_11.2.1, xTs_at (k := 7) (i := 116) rfl rfl, xcw_11.2.2, Nat.le_of_ble_eq_true rfl, xbf rfl, ix_cd_ok xc_235_ok (xg_no _ _)⟩
theorem xmk_236 : xmkP xm_236 :=
  ⟨rfl, xcw_11.1, xcw_11.2.1, xTs_at (k := 7) (i := 124) rfl rfl, xcw_11.2.2, Nat.le_of_ble_eq_true rfl, xbf rfl, ix_cd_ok xc_236_ok (xg_no _ _)⟩
theorem xmk_237 : xmkP xm_237 :=
  ⟨rfl, xcw_11.1, xcw_11.2.1, xTs_at (k := 7) (i := 83) rfl rfl, xcw_11.2.2, Nat.le_of_ble_eq_true rfl, xbf rfl, ix_cd_ok xc_237_ok (xg_no _ _)⟩
theorem xmk_238 : xmkP xm_238 :=
  ⟨rfl, xcw_11.1, xcw_11.2.1, xTs_at (k := 7) (i := 92) rfl rfl, xcw_11.2.2, Nat.le_of_ble_eq_true rfl, xbf rfl, ix_cd_ok xc_238_ok (xg_no _ _)⟩
theorem xmk_239 : xmkP xm_239 :=
  ⟨rfl, xcw_11.1, xcw_11.2.1, xTs_at (k := 7) (i := 100) rfl rfl, xcw_11.2.2, Nat.le_of_ble_eq_true rfl, xbf rfl, ix_cd_ok xc_239_ok (xg_no _ _)⟩
theorem xmk_240 : xmkP xm_240 :=
  ⟨rfl, xcw_11.1, xcw_11.2.1, xTs_at (k := 7) (i := 104) rfl rfl, xcw_11.2.2, Nat.le_of_ble_eq_true rfl, xbf rfl, ix_cd_ok xc_240_ok (xg_no _ _)⟩
theorem xmk_241 : xmkP xm_241 :=
  ⟨rfl, xcw_12.1, xcw_12.2.1, xTs_at (k := 8) (i := 7) rfl rfl, xcw_12.2.2, Nat.le_of_ble_eq_true rfl, fun _ => rfl, ix_cd_ok xc_241_ok (xg_no _ _)⟩
theorem xmk_242 : xmkP xm_242 :=
  ⟨rfl, xcw_12.1, xcw_12.2.1, xTs_at (k := 9) (i := 232) rfl rfl, xcw_12.2.2, Nat.le_of_ble_eq_true rfl, xbf rfl, ix_cd_ok xc_242_ok (xg_no _ _)⟩
theorem xmk_243 : xmkP xm_243 :=
  ⟨rfl, xcw_12.1, xcw_12.2.1, xTs_at (k := 9) (i := 225) rfl rfl, xcw_12.2.2, Nat.le_of_ble_eq_true rfl, xbf rfl, ix_cd_ok xc_243_ok (xg_no _ _)⟩
theorem xmk_244 : xmkP xm_244 :=
  ⟨rfl, xcw_12.1, xcw_12.2.1, xTs_at (k := 9) (i := 221) rfl rfl, xcw_12.2.2, Nat.le_of_ble_eq_true rfl, xbf rfl, ix_cd_ok xc_244_ok (xg_no _ _)⟩
theorem xmk_245 : xmkP xm_245 :=
  ⟨rfl, xcw_12.1, xcw_12.2.1, xTs_at (k := 9) (i := 229) rfl rfl, xcw_12.2.2, Nat.le_of_ble_eq_true rfl, xbf rfl, ix_cd_ok xc_245_ok (xg_no _ _)⟩
theorem xmk_246 : xmkP xm_246 :=
  ⟨rfl, xcw_12.1, xcw_12.2.1, xTs_at (k := 9) (i := 239) rfl rfl, xcw_12.2.2, Nat.le_of_ble_eq_true rfl, xbf rfl, ix_cd_ok xc_246_ok (xg_no _ _)⟩
theorem xmk_247 : xmkP xm_247 :=
  ⟨rfl, xcw_12.1, xcw_12.2.1, xTs_at (k := 10) (i := 12) rfl rfl, xcw_12.2.2, Nat.le_of_ble_eq_true rfl, xbf rfl, ix_cd_ok xc_247_ok (xg_no _ _)⟩
theorem xmk_248 : xmkP xm_248 :=
  ⟨rfl, xcw_12.1, xcw_12.2.1, xTs_at (k := 9) (i := 236) rfl rfl, xcw_12.2.2, Nat.le_of_ble_eq_true rfl, xbf rfl, ix_cd_ok xc_248_ok (xg_no _ _)⟩
theorem xmk_249 : xmkP xm_249 :=
  ⟨rfl, xcw_12.1, xcw_12.2.1, xTs_at (k := 10) (i := 4) rfl rfl, xcw_12.2.2, Nat.le_of_ble_eq_true rfl, xbf rfl, ix_cd_ok xc_249_ok (xg_no _ _)⟩
theorem xmk_250 : xmkP xm_250 :=
  ⟨rfl, xcw_12.1, xcw_12.2.1, xTs_at (k := 10) (i := 8) rfl rfl, xcw_12.2.2, Nat.le_of_ble_eq_true rfl, xbf rfl, ix_cd_ok xc_250_ok (xg_no _ _)⟩
theorem xmk_251 : xmkP xm_251 :=
  ⟨rfl, xcw_12.1, xcw_12.2.1, xTs_at (k := 10) (i := 16) rfl rfl, xcw_12.2.2, Nat.le_of_ble_eq_true rfl, xbf rfl, ix_cd_ok xc_251_ok (xg_no _ _)⟩
theorem xmk_252 : xmkP xm_252 :=
  ⟨rfl, xcw_12.1, xcw_12.2.1, xTs_at (k := 10) (i := 21) rfl rfl, xcw_12.2.2, Nat.le_of_ble_eq_true rfl, xbf rfl, ix_cd_ok xc_252_ok (xg_no _ _)⟩
theorem xmk_253 : xmkP xm_253 :=
  ⟨rfl, xcw_12.1, xcw_12.2.1, xTs_at (k := 10) (i := 47) rfl rfl, xcw_12.2.2, Nat.le_of_ble_eq_true rfl, xbf rfl, ix_cd_ok xc_253_ok (xg_no _ _)⟩
theorem xmk_254 : xmkP xm_254 :=
  ⟨rfl, xcw_12.1, xcw_12.2.1, xTs_at (k := 10) (i := 54) rfl rfl, xcw_12.2.2, Nat.le_of_ble_eq_true rfl, xbf rfl, ix_cd_ok xc_254_ok (xg_no _ _)⟩
theorem xmk_255 : xmkP xm_255 :=
  ⟨rfl, xcw_12.1, xcw_12.2.1, xTs_at (k := 10) (i := 97) rfl rfl, xcw_12.2.2, Nat.le_of_ble_eq_true rfl, xbf rfl, ix_cd_ok xc_255_ok (xg_no _ _)⟩
theorem xmk_256 : xmkP xm_256 :=
  ⟨rfl, xcw_12.1, xcw_12.2.1, xTs_at (k := 10) (i := 105) rfl rfl, xcw_12.2.2, Nat.le_of_ble_eq_true rfl, xbf rfl, ix_cd_ok xc_256_ok (xg_no _ _)⟩
theorem xmk_257 : xmkP xm_257 :=
  ⟨rfl, xcw_12.1, xcw_12.2.1, xTs_at (k := 10) (i := 149) rfl rfl, xcw_12.2.2, Nat.le_of_ble_eq_true rfl, xbf rfl, ix_cd_ok xc_257_ok (xg_no _ _)⟩
theorem xmk_258 : xmkP xm_258 :=
  ⟨rfl, xcw_12.1, xcw_12.2.1, xTs_at (k := 11) (i := 66) rfl rfl, xcw_12.2.2, Nat.le_of_ble_eq_true rfl, xbf rfl, ix_cd_ok xc_258_ok (xg_no _ _)⟩
theorem xmk_259 : xmkP xm_259 :=
  ⟨rfl, xcw_12.1, xcw_12.2.1, xTs_at (k := 10) (i := 31) rfl rfl, xcw_12.2.2, Nat.le_of_ble_eq_true rfl, xbf rfl, ix_cd_ok xc_259_ok (xg_no _ _)⟩
theorem xmk_260 : xmkP xm_260 :=
  ⟨rfl, xcw_12.1, xcw_12.2.1, xTs_at (k := 10) (i := 50) rfl rfl, xcw_12.2.2, Nat.le_of_ble_eq_true rfl, xbf rfl, ix_cd_ok xc_260_ok (xg_no _ _)⟩
theorem xmk_261 : xmkP xm_261 :=
  ⟨rfl, xcw_12.1, xcw_12.2.1, xTs_at (k := 10) (i := 39) rfl rfl, xcw_12.2.2, Nat.le_of_ble_eq_true rfl, xbf rfl, ix_cd_ok xc_261_ok (xg_no _ _)⟩
theorem xmk_262 : xmkP xm_262 :=
  ⟨rfl, xcw_12.1, xcw_12.2.1, xTs_at (k := 10) (i := 43) rfl rfl, xcw_12.2.2, Nat.le_of_ble_eq_true rfl, xbf rfl, ix_cd_ok xc_262_ok (xg_no _ _)⟩
theorem xmk_263 : xmkP xm_263 :=
  ⟨rfl, xcw_12.1, xcw_12.2.1, xTs_at (k := 10) (i := 61) rfl rfl, xcw_12.2.2, Nat.le_of_ble_eq_true rfl, xbf rfl, ix_cd_ok xc_263_ok (xg_no _ _)⟩
theorem xmk_264 : xmkP xm_264 :=
  ⟨rfl, xcw_12.1, xcw_12.2.1, xTs_at (k := 10) (i := 64) rfl rfl, xcw_12.2.2, Nat.le_of_ble_eq_true rfl, xbf rfl, ix_cd_ok xc_264_ok (xg_no _ _)⟩
theorem xmk_265 : xmkP xm_265 :=
  ⟨rfl, xcw_12.1, xcw_12.2.1, xTs_at (k := 10) (i := 58) rfl rfl, xcw_12.2.2, Nat.le_of_ble_eq_true rfl, xbf rfl, ix_cd_ok xc_265_ok (xg_no _ _)⟩
theorem xmk_266 : xmkP xm_266 :=
  ⟨rfl, xcw_12.1, xcw_12.2.1, xTs_at (k := 10) (i := 35) rfl rfl, xcw_12.2.2, Nat.le_of_ble_eq_true rfl, xbf rfl, ix_cd_ok xc_266_ok (xg_no _ _)⟩
theorem xmk_267 : xmkP xm_267 :=
  ⟨rfl, xcw_12.1, xcw_12.2.1, xTs_at (k := 10) (i := 27) rfl rfl, xcw_12.2.2, Nat.le_of_ble_eq_true rfl, xbf rfl, ix_cd_ok xc_267_ok (xg_no _ _)⟩
theorem xmk_268 : xmkP xm_268 :=
  ⟨rfl, xcw_12.1, xcw_12.2.1, xTs_at (k := 10) (i := 68) rfl rfl, xcw_12.2.2, Nat.le_of_ble_eq_true rfl, xbf rfl, ix_cd_ok xc_268_ok (xg_no _ _)⟩
theorem xmk_269 : xmkP xm_269 :=
  ⟨rfl, xcw_12.1, xcw_12.2.1, xTs_at (k := 10) (i := 72) rfl rfl, xcw_12.2.2, Nat.le_of_ble_eq_true rfl, xbf rfl, ix_cd_ok xc_269_ok (xg_no _ _)⟩
theorem xmk_270 : xmkP xm_270 :=
  ⟨rfl, xcw_12.1, xcw_12.2.1, xTs_at (k := 10) (i := 76) rfl rfl, xcw_12.2.2, Nat.le_of_ble_eq_true rfl, xbf rfl, ix_cd_ok xc_270_ok (xg_no _ _)⟩
theorem xmk_271 : xmkP xm_271 :=
  ⟨rfl, xcw_12.1, xcw_12.2.1, xTs_at (k := 10) (i := 84) rfl rfl, xcw_12.2.2, Nat.le_of_ble_eq_true rfl, xbf rfl, ix_cd_ok xc_271_ok (xg_no _ _)⟩
theorem xmk_272 : xmkP xm_272 :=
  ⟨rfl, xcw_12.1, xcw_12.2.1, xTs_at (k := 10) (i := 93) rfl rfl, xcw_12.2.2, Nat.le_of_ble_eq_true rfl, xbf rfl, ix_cd_ok xc_272_ok (xg_no _ _)⟩
theorem xmk_273 : xmkP xm_273 :=
  ⟨rfl, xcw_12.1, xcw_12.2.1, xTs_at (k := 10) (i := 101) rfl rfl, xcw_12.2.2, Nat.le_of_ble_eq_true rfl, xbf rfl, ix_cd_ok xc_273_ok (xg_no _ _)⟩
theorem xmk_274 : xmkP xm_274 :=
  ⟨rfl, xcw_12.1, xcw_12.2.1, xTs_at (k := 10) (i := 109) rfl rfl, xcw_12.2.2, Nat.le_of_ble_eq_true rfl, xbf rfl, ix_cd_ok xc_274_ok (xg_no _ _)⟩
theorem xmk_275 : xmkP xm_275 :=
  ⟨rfl, xcw_12.1, xcw_12.2.1, xTs_at (k := 10) (i := 89) rfl rfl, xcw_12.2.2, Nat.le_of_ble_eq_true rfl, xbf rfl, ix_cd_ok xc_275_ok (xg_no _ _)⟩
theorem xmk_276 : xmkP xm_276 :=
  ⟨rfl, xcw_12.1, xcw_12.2.1, xTs_at (k := 10) (i := 80) rfl rfl, xcw_12.2.2, Nat.le_of_ble_eq_true rfl, xbf rfl, ix_cd_ok xc_276_ok (xg_no _ _)⟩
theorem xmk_277 : xmkP xm_277 :=
  ⟨rfl, xcw_12.1, xcw_12.2.1, xTs_at (k := 10) (i := 116) rfl rfl, xcw_12.2.2, Nat.le_of_ble_eq_true rfl, xbf rfl, ix_cd_ok xc_277_ok (xg_no _ _)⟩
theorem xmk_278 : xmkP xm_278 :=
  ⟨rfl, xcw_12.1, xcw_12.2.1, xTs_at (k := 10) (i := 113) rfl rfl, xcw_12.2.2, Nat.le_of_ble_eq_true rfl, xbf rfl, ix_cd_ok xc_278_ok (xg_no _ _)⟩
theorem xmk_279 : xmkP xm_279 :=
  ⟨rfl, xcw_12.1, xcw_12.2.1, xTs_at (k := 10) (i := 132) rfl rfl, xcw_12.2.2, Nat.le_of_ble_eq_true rfl, xbf rfl, ix_cd_ok xc_279_ok (xg_no _ _)⟩
theorem xmk_280 : xmkP xm_280 :=
  ⟨rfl, xcw_12.1, xcw_12.2.1, xTs_at (k := 10) (i := 135) rfl rfl, xcw_12.2.2, Nat.le_of_ble_eq_true rfl, xbf rfl, ix_cd_ok xc_280_ok (xg_no _ _)⟩
theorem xmk_281 : xmkP xm_281 :=
  ⟨rfl, xcw_12.1, xcw_12.2.1, xTs_at (k := 10) (i := 128) rfl rfl, xcw_12.2.2, Nat.le_of_ble_eq_true rfl, xbf rfl, ix_cd_ok xc_281_ok (xg_no _ _)⟩
theorem xmk_282 : xmkP xm_282 :=
  ⟨rfl, xcw_12.1, xcw_12.2.1, xTs_at (k := 10) (i := 124) rfl rfl, xcw_12.2.2, Nat.le_of_ble_eq_true rfl, xbf rfl, ix_cd_ok xc_282_ok (xg_no _ _)⟩
theorem xmk_283 : xmkP xm_283 :=
  ⟨rfl, xcw_12.1, xcw_12.2.1, xTs_at (k := 10) (i := 120) rfl rfl, xcw_12.2.2, Nat.le_of_ble_eq_true rfl, xbf rfl, ix_cd_ok xc_283_ok (xg_no _ _)⟩
theorem xmk_284 : xmkP xm_284 :=
  ⟨rfl, xcw_12.1, xcw_12.2.1, xTs_at (k := 10) (i := 145) rfl rfl, xcw_12.2.2, Nat.le_of_ble_eq_true rfl, xbf rfl, ix_cd_ok xc_284_ok (xg_no _ _)⟩
theorem xmk_285 : xmkP xm_285 :=
  ⟨rfl, xcw_12.1, xcw_12.2.1, xTs_at (k := 10) (i := 141) rfl rfl, xcw_12.2.2, Nat.le_of_ble_eq_true rfl, xbf rfl, ix_cd_ok xc_285_ok (xg_no _ _)⟩
theorem xmk_286 : xmkP xm_286 :=
  ⟨rfl, xcw_12.1, xcw_12.2.1, xTs_at (k := 10) (i := 161) rfl rfl, xcw_12.2.2, Nat.le_of_ble_eq_true rfl, xbf rfl, ix_cd_ok xc_286_ok (xg_no _ _)⟩
theorem xmk_287 : xmkP xm_287 :=
  ⟨rfl, xcw_12.1, xcw_12.2.1, xTs_at (k := 10) (i := 157) rfl rfl, xcw_12.2.2, Nat.le_of_ble_eq_true rfl, xbf rfl, ix_cd_ok xc_287_ok (xg_no _ _)⟩
theorem xmk_288 : xmkP xm_288 :=
  ⟨rfl, xcw_12.1, xcw_12.2.1, xTs_at (k := 10) (i := 165) rfl rfl, xcw_12.2.2, Nat.le_of_ble_eq_true rfl, xbf rfl, ix_cd_ok xc_288_ok (xg_no _ _)⟩
theorem xmk_289 : xmkP xm_289 :=
  ⟨rfl, xcw_12.1, xcw_12.2.1, xTs_at (k := 10) (i := 169) rfl rfl, xcw_12.2.2, Nat.le_of_ble_eq_true rfl, xbf rfl, ix_cd_ok xc_289_ok (xg_no _ _)⟩
theorem xmk_290 : xmkP xm_290 :=
  ⟨rfl, xcw_12.1, xcw_12.2.1, xTs_at (k := 10) (i := 181) rfl rfl, xcw_12.2.2, Nat.le_of_ble_eq_true rfl, xbf rfl, ix_cd_ok xc_290_ok (xg_no _ _)⟩
theorem xmk_291 : xmkP xm_291 :=
  ⟨rfl, xcw_12.1, xcw_12.2.1, xTs_at (k := 10) (i := 177) rfl rfl, xcw_12.2.2, Nat.le_of_ble_eq_true rfl, xbf rfl, ix_cd_ok xc_291_ok (xg_no _ _)⟩
theorem xmk_292 : xmkP xm_292 :=
  ⟨rfl, xcw_12.1, xcw_12.2.1, xTs_at (k := 10) (i := 153) rfl rfl, xcw_12.2.2, Nat.le_of_ble_eq_true rfl, xbf rfl, ix_cd_ok xc_292_ok (xg_no _ _)⟩
theorem xmk_293 : xmkP xm_293 :=
  ⟨rfl, xcw_12.1, xcw_12.2.1, xTs_at (k := 10) (i := 173) rfl rfl, xcw_12.2.2, Nat.le_of_ble_eq_true rfl, xbf rfl, ix_cd_ok xc_293_ok (xg_no _ _)⟩
theorem xmk_294 : xmkP xm_294 :=
  ⟨rfl, xcw_12.1, xcw_12.2.1, xTs_at (k := 10) (i := 185) rfl rfl, xcw_12.2.2, Nat.le_of_ble_eq_true rfl, xbf rfl, ix_cd_ok xc_294_ok (xg_no _ _)⟩
theorem xmk_295 : xmkP xm_295 :=
  ⟨rfl, xcw_12.1, xcw_12.2.1, xTs_at (k := 10) (i := 189) rfl rfl, xcw_12.2.2, Nat.le_of_ble_eq_true rfl, xbf rfl, ix_cd_ok xc_295_ok (xg_no _ _)⟩
theorem xmk_296 : xmkP xm_296 :=
  ⟨rfl, xcw_12.1, xcw_12.2.1, xTs_at (k := 10) (i := 193) rfl rfl, xcw_12.2.2, Nat.le_of_ble_eq_true rfl, xbf rfl, ix_cd_ok xc_296_ok (xg_no _ _)⟩
theorem xmk_297 : xmkP xm_297 :=
  ⟨rfl, xcw_12.1, xcw_12.2.1, xTs_at (k := 10) (i := 197) rfl rfl, xcw_12.2.2, Nat.le_of_ble_eq_true rfl, xbf rfl, ix_cd_ok xc_297_ok (xg_no _ _)⟩
theorem xmk_298 : xmkP xm_298 :=
  ⟨rfl, xcw_12.1, xcw_12.2.1, xTs_at (k := 10) (i := 202) rfl rfl, xcw_12.2.2, Nat.le_of_ble_eq_true rfl, xbf rfl, ix_cd_ok xc_298_ok (xg_no _ _)⟩
theorem xmk_299 : xmkP xm_299 :=
  ⟨rfl, xcw_12.1, xcw_12.2.1, xTs_at (k := 10) (i := 207) rfl rfl, xcw_12.2.2, Nat.le_of_ble_eq_true rfl, xbf rfl, ix_cd_ok xc_299_ok (xg_no _ _)⟩
theorem xmk_300 : xmkP xm_300 :=
  ⟨rfl, xcw_12.1, xcw_12.2.1, xTs_at (k := 10) (i := 212) rfl rfl, xcw_12.2.2, Nat.le_of_ble_eq_true rfl, xbf rfl, ix_cd_ok xc_300_ok (xg_no _ _)⟩
theorem xmk_301 : xmkP xm_301 :=
  ⟨rfl, xcw_12.1, xcw_12.2.1, xTs_at (k := 10) (i := 224) rfl rfl, xcw_12.2.2, Nat.le_of_ble_eq_true rfl, xbf rfl, ix_cd_ok xc_301_ok (xg_no _ _)⟩
theorem xmk_302 : xmkP xm_302 :=
  ⟨rfl, xcw_12.1, xcw_12.2.1, xTs_at (k := 10) (i := 220) rfl rfl, xcw_12.2.2, Nat.le_of_ble_eq_true rfl, xbf rfl, ix_cd_ok xc_302_ok (xg_no _ _)⟩
theorem xmk_303 : xmkP xm_303 :=
  ⟨rfl, xcw_12.1, xcw_12.2.1, xTs_at (k := 10) (i := 236) rfl rfl, xcw_12.2.2, Nat.le_of_ble_eq_true rfl, xbf rfl, ix_cd_ok xc_303_ok (xg_no _ _)⟩
theorem xmk_304 : xmkP xm_304 :=
  ⟨rfl, xcw_12.1, xcw_12.2.1, xTs_at (k := 10) (i := 232) rfl rfl, xcw_12.2.2, Nat.le_of_ble_eq_true rfl, xbf rfl, ix_cd_ok xc_304_ok (xg_no _ _)⟩
theorem xmk_305 : xmkP xm_305 :=
  ⟨rfl, xcw_12.1, xcw_12.2.1, xTs_at (k := 10) (i := 228) rfl rfl, xcw_12.2.2, Nat.le_of_ble_eq_true rfl, xbf rfl, ix_cd_ok xc_305_ok (xg_no _ _)⟩
theorem xmk_306 : xmkP xm_306 :=
  ⟨rfl, xcw_12.1, xcw_12.2.1, xTs_at (k := 11) (i := 23) rfl rfl, xcw_12.2.2, Nat.le_of_ble_eq_true rfl, xbf rfl, ix_cd_ok xc_306_ok (xg_no _ _)⟩
theorem xmk_307 : xmkP xm_307 :=
  ⟨rfl, xcw_12.1, xcw_12.2.1, xTs_at (k := 10) (i := 239) rfl rfl, xcw_12.2.2, Nat.le_of_ble_eq_true rfl, xbf rfl, ix_cd_ok xc_307_ok (xg_no _ _)⟩
theorem xmk_308 : xmkP xm_308 :=
  ⟨rfl, xcw_12.1, xcw_12.2.1, xTs_at (k := 11) (i := 11) rfl rfl, xcw_12.2.2, Nat.le_of_ble_eq_true rfl, xbf rfl, ix_cd_ok xc_308_ok (xg_no _ _)⟩
end
