/-! calls of the law, both sides -/
section LCS2
variable {p : Program} {l : Launch} {e : Env} {s : State} {m : MethodId} {args : Array Value} {below : List Frame} {meth : Method} {c : Code} {D : va_G} {Y : Nat → ClassId} {A : Nat → Prop} {cells slots : Nat} {Q : State → Prop} {b L : Nat} {xs : Nat → Int32} {ad : Nat → Nat → Nat} {mo : Nat → Nat} {F : Nat → Nat → Nat → Int32} {M : Nat → Nat → Int32} {i cN : Nat}
set_option maxHeartbeats 4000000 in
set_option maxRecDepth 100000 in
theorem lc_setDelay (h : LC p s m args meth c D Y A b L xs) (hcs : cells ≤ room_1.cells ∧ slots ≤ room_1.slots) (hi : i + 4 ≤ L) (hw : Wh cN F M) (hc : cN + 50 < 2 ^ 29) (kk : ∀ F' M', Wh (cN + 20) F' M' → J p l e room_1 s m args below meth c 4 D A cells slots Q (FB Y ad F' ++ [moB Y mo M']) 624 (lvL b (ad 8 2) (mo 0) i) []) : J p l e room_1 s m args below meth c 4 D A cells slots Q (FB Y ad F ++ [moB Y mo M]) 228 (lvL b (ad 8 2) (mo 0) i) [] := by
  obtain ⟨m11, m12, m9, m10, m00, m3, m31⟩ := Wh_mn hw
  obtain ⟨b1, eq, w⟩ := P_del hw (xs (i + 1)) (xs (i + 2)) (xs (i + 3))
  refine j_aload_n h.1 (pc := 228) dL_law_228 2 rfl ?_
  refine lw_arg h (pc := 229) 1 1 (by decide) (by omega) dL_law_229 dL_law_230 dL_law_231 dL_law_232 dL_law_233 ?_
  refine lw_arg h (pc := 234) 2 2 (by decide) (by omega) dL_law_234 dL_law_235 dL_law_236 dL_law_237 dL_law_238 ?_
  refine lw_arg h (pc := 239) 3 3 (by decide) (by omega) dL_law_239 dL_law_240 dL_law_241 dL_law_242 dL_law_243 ?_
  refine lw_c7 h (pc := 244) 3 (c_X7_setDelay l D Y ad F (xs (i + 1)) (xs (i + 2)) (xs (i + 3)) (Hs_hi hw.2.1) (Gd_bo hw.1) (Gd_wf (Gd_tr hw.1)).2.1 (Gd_wf (Gd_tr hw.1)).1 b1) gL_law_X7_setDelay rfl (by decide +kernel) rfl ⟨Nat.le_of_ble_eq_true rfl, Nat.le_of_ble_eq_true rfl⟩ rfl (Nat.le_of_ble_eq_true rfl) dL_law_244 hcs ?_
  refine j_aload_n h.1 (pc := 247) dL_law_247 3 rfl ?_
  refine lw_arg h (pc := 248) 1 1 (by decide) (by omega) dL_law_248 dL_law_249 dL_law_250 dL_law_251 dL_law_252 ?_
  refine lw_arg h (pc := 253) 2 2 (by decide) (by omega) dL_law_253 dL_law_254 dL_law_255 dL_law_256 dL_law_257 ?_
  refine lw_arg h (pc := 258) 3 3 (by decide) (by omega) dL_law_258 dL_law_259 dL_law_260 dL_law_261 dL_law_262 ?_
  refine lw_c8 h (pc := 263) 3 (c_X8_setDelay l D Y mo M (xs (i + 1)) (xs (i + 2)) (xs (i + 3)) m3 m00) gL_law_X8_setDelay rfl (by decide +kernel) rfl ⟨Nat.le_of_ble_eq_true rfl, Nat.le_of_ble_eq_true rfl⟩ rfl (Nat.le_of_ble_eq_true rfl) dL_law_263 hcs ?_
  exact j_icmp_eq h.1 (pc := 266) (tgt := 624) dL_law_266 (by decide) (fun _ => kk _ _ (Wh_up w (by omega))) (fun z => absurd eq z)
set_option maxHeartbeats 4000000 in
set_option maxRecDepth 100000 in
theorem lc_set (h : LC p s m args meth c D Y A b L xs) (hcs : cells ≤ room_1.cells ∧ slots ≤ room_1.slots) (hi : i + 4 ≤ L) (hw : Wh cN F M) (hc : cN + 50 < 2 ^ 29) (kk : ∀ F' M', Wh (cN + 20) F' M' → J p l e room_1 s m args below meth c 4 D A cells slots Q (FB Y ad F' ++ [moB Y mo M']) 624 (lvL b (ad 8 2) (mo 0) i) []) : J p l e room_1 s m args below meth c 4 D A cells slots Q (FB Y ad F ++ [moB Y mo M]) 271 (lvL b (ad 8 2) (mo 0) i) [] := by
  obtain ⟨m11, m12, m9, m10, m00, m3, m31⟩ := Wh_mn hw
  obtain ⟨b1, eq, w⟩ := P_set hw (xs (i + 1)) (xs (i + 2))
  refine j_aload_n h.1 (pc := 271) dL_law_271 2 rfl ?_
  refine lw_arg h (pc := 272) 1 1 (by decide) (by omega) dL_law_272 dL_law_273 dL_law_274 dL_law_275 dL_law_276 ?_
  refine lw_arg h (pc := 277) 2 2 (by decide) (by omega) dL_law_277 dL_law_278 dL_law_279 dL_law_280 dL_law_281 ?_
  refine lw_c7 h (pc := 282) 2 (c_X7_set l D Y ad F (xs (i + 1)) (xs (i + 2)) (Hs_hi hw.2.1) (Gd_bo hw.1) b1) gL_law_X7_set rfl (by decide +kernel) rfl ⟨Nat.le_of_ble_eq_true rfl, Nat.le_of_ble_eq_true rfl⟩ rfl (Nat.le_of_ble_eq_true rfl) dL_law_282 hcs ?_
  refine j_aload_n h.1 (pc := 285) dL_law_285 3 rfl ?_
  refine lw_arg h (pc := 286) 1 1 (by decide) (by omega) dL_law_286 dL_law_287 dL_law_288 dL_law_289 dL_law_290 ?_
  refine lw_arg h (pc := 291) 2 2 (by decide) (by omega) dL_law_291 dL_law_292 dL_law_293 dL_law_294 dL_law_295 ?_
  refine lw_c8 h (pc := 296) 2 (c_X8_set l D Y mo M (xs (i + 1)) (xs (i + 2)) m00) gL_law_X8_set rfl (by decide +kernel) rfl ⟨Nat.le_of_ble_eq_true rfl, Nat.le_of_ble_eq_true rfl⟩ rfl (Nat.le_of_ble_eq_true rfl) dL_law_296 hcs ?_
  exact j_icmp_eq h.1 (pc := 299) (tgt := 624) dL_law_299 (by decide) (fun _ => kk _ _ (Wh_up w (by omega))) (fun z => absurd eq z)
set_option maxHeartbeats 4000000 in
set_option maxRecDepth 100000 in
theorem lc_type (h : LC p s m args meth c D Y A b L xs) (hcs : cells ≤ room_1.cells ∧ slots ≤ room_1.slots) (hi : i + 4 ≤ L) (hw : Wh cN F M) (hc : cN + 50 < 2 ^ 29) (kk : ∀ F' M', Wh (cN + 20) F' M' → J p l e room_1 s m args below meth c 4 D A cells slots Q (FB Y ad F' ++ [moB Y mo M']) 624 (lvL b (ad 8 2) (mo 0) i) []) : J p l e room_1 s m args below meth c 4 D A cells slots Q (FB Y ad F ++ [moB Y mo M]) 304 (lvL b (ad 8 2) (mo 0) i) [] := by
  obtain ⟨m11, m12, m9, m10, m00, m3, m31⟩ := Wh_mn hw
  obtain ⟨t1, t2, eq, w⟩ := P_type hw (nI ((xs (i + 1)).toBitVec.toNat % 65536)) ⟨_, Nat.mod_lt _ (by decide), rfl⟩
  refine j_aload_n h.1 (pc := 304) dL_law_304 2 rfl ?_
  refine lw_arg h (pc := 305) 1 1 (by decide) (by omega) dL_law_305 dL_law_306 dL_law_307 dL_law_308 dL_law_309 ?_
  refine j_i2c h.1 (pc := 310) dL_law_310 (pk_char _) ?_
  refine lw_c7 h (pc := 311) 1 (c_X7_type l D Y ad F (nI ((xs (i + 1)).toBitVec.toNat % 65536)) t1 (by rw [← pk_char]; exact pk_vc _)) gL_law_X7_type rfl (by decide +kernel) rfl ⟨Nat.le_of_ble_eq_true rfl, Nat.le_of_ble_eq_true rfl⟩ rfl (Nat.le_of_ble_eq_true rfl) dL_law_311 hcs ?_
  refine j_aload_n h.1 (pc := 314) dL_law_314 3 rfl ?_
  refine lw_arg h (pc := 315) 1 1 (by decide) (by omega) dL_law_315 dL_law_316 dL_law_317 dL_law_318 dL_law_319 ?_
  refine j_i2c h.1 (pc := 320) dL_law_320 (pk_char _) ?_
  refine lw_c8 h (pc := 321) 1 (c_X8_type l D Y mo M (nI ((xs (i + 1)).toBitVec.toNat % 65536)) t2) gL_law_X8_type rfl (by decide +kernel) rfl ⟨Nat.le_of_ble_eq_true rfl, Nat.le_of_ble_eq_true rfl⟩ rfl (Nat.le_of_ble_eq_true rfl) dL_law_321 hcs ?_
  exact j_icmp_eq h.1 (pc := 324) (tgt := 624) dL_law_324 (by decide) (fun _ => kk _ _ (Wh_up w (by omega))) (fun z => absurd eq z)
set_option maxHeartbeats 4000000 in
set_option maxRecDepth 100000 in
theorem lc_clearText (h : LC p s m args meth c D Y A b L xs) (hcs : cells ≤ room_1.cells ∧ slots ≤ room_1.slots) (hi : i + 4 ≤ L) (hw : Wh cN F M) (hc : cN + 50 < 2 ^ 29) (kk : ∀ F' M', Wh (cN + 20) F' M' → J p l e room_1 s m args below meth c 4 D A cells slots Q (FB Y ad F' ++ [moB Y mo M']) 624 (lvL b (ad 8 2) (mo 0) i) []) : J p l e room_1 s m args below meth c 4 D A cells slots Q (FB Y ad F ++ [moB Y mo M]) 329 (lvL b (ad 8 2) (mo 0) i) [] := by
  obtain ⟨m11, m12, m9, m10, m00, m3, m31⟩ := Wh_mn hw
  obtain ⟨eq, w⟩ := P_clearText hw
  refine j_aload_n h.1 (pc := 329) dL_law_329 2 rfl ?_
  refine lw_c7 h (pc := 330) 0 (c_X7_clearText l D Y ad F) gL_law_X7_clearText rfl (by decide +kernel) rfl ⟨Nat.le_of_ble_eq_true rfl, Nat.le_of_ble_eq_true rfl⟩ rfl (Nat.le_of_ble_eq_true rfl) dL_law_330 hcs ?_
  refine j_aload_n h.1 (pc := 333) dL_law_333 3 rfl ?_
  refine lw_c8 h (pc := 334) 0 (c_X8_clearText l D Y mo M) gL_law_X8_clearText rfl (by decide +kernel) rfl ⟨Nat.le_of_ble_eq_true rfl, Nat.le_of_ble_eq_true rfl⟩ rfl (Nat.le_of_ble_eq_true rfl) dL_law_334 hcs ?_
  exact j_icmp_eq h.1 (pc := 337) (tgt := 624) dL_law_337 (by decide) (fun _ => kk _ _ (Wh_up w (by omega))) (fun z => absurd eq z)
end LCS2
