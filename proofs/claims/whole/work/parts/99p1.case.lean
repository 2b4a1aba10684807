/-! calls of the law, both sides -/
section LCS1
variable {p : Program} {l : Launch} {e : Env} {s : State} {m : MethodId} {args : Array Value} {below : List Frame} {meth : Method} {c : Code} {D : va_G} {Y : Nat → ClassId} {A : Nat → Prop} {cells slots : Nat} {Q : State → Prop} {b L : Nat} {xs : Nat → Int32} {ad : Nat → Nat → Nat} {mo : Nat → Nat} {F : Nat → Nat → Nat → Int32} {M : Nat → Nat → Int32} {i cN : Nat}
set_option maxHeartbeats 4000000 in
set_option maxRecDepth 100000 in
theorem lc_build (h : LC p s m args meth c D Y A b L xs) (hcs : cells ≤ room_1.cells ∧ slots ≤ room_1.slots) (hi : i + 4 ≤ L) (hw : Wh cN F M) (hc : cN + 50 < 2 ^ 29) (kk : ∀ F' M', Wh (cN + 20) F' M' → J p l e room_1 s m args below meth c 4 D A cells slots Q (FB Y ad F' ++ [moB Y mo M']) 624 (lvL b (ad 8 2) (mo 0) i) []) : J p l e room_1 s m args below meth c 4 D A cells slots Q (FB Y ad F ++ [moB Y mo M]) 136 (lvL b (ad 8 2) (mo 0) i) [] := by
  obtain ⟨m11, m12, m9, m10, m00, m3, m31⟩ := Wh_mn hw
  obtain ⟨b1, eq, w⟩ := P_build hw (xs (i + 1))
  refine j_aload_n h.1 (pc := 136) dL_law_136 2 rfl ?_
  refine lw_arg h (pc := 137) 1 1 (by decide) (by omega) dL_law_137 dL_law_138 dL_law_139 dL_law_140 dL_law_141 ?_
  refine lw_c7 h (pc := 142) 1 (c_X7_build l D Y ad F (xs (i + 1)) (Hs_hi hw.2.1) (Gd_bo hw.1) (Gd_wf hw.1).2.1 b1) gL_law_X7_build rfl (by decide +kernel) rfl ⟨Nat.le_of_ble_eq_true rfl, Nat.le_of_ble_eq_true rfl⟩ rfl (Nat.le_of_ble_eq_true rfl) dL_law_142 hcs ?_
  refine j_aload_n h.1 (pc := 145) dL_law_145 3 rfl ?_
  refine lw_arg h (pc := 146) 1 1 (by decide) (by omega) dL_law_146 dL_law_147 dL_law_148 dL_law_149 dL_law_150 ?_
  refine lw_c8 h (pc := 151) 1 (c_X8_build l D Y mo M (xs (i + 1)) m00) gL_law_X8_build rfl (by decide +kernel) rfl ⟨Nat.le_of_ble_eq_true rfl, Nat.le_of_ble_eq_true rfl⟩ rfl (Nat.le_of_ble_eq_true rfl) dL_law_151 hcs ?_
  exact j_icmp_eq h.1 (pc := 154) (tgt := 624) dL_law_154 (by decide) (fun _ => kk _ _ (Wh_up w (by omega))) (fun z => absurd eq z)
set_option maxHeartbeats 4000000 in
set_option maxRecDepth 100000 in
theorem lc_add (h : LC p s m args meth c D Y A b L xs) (hcs : cells ≤ room_1.cells ∧ slots ≤ room_1.slots) (hi : i + 4 ≤ L) (hw : Wh cN F M) (hc : cN + 50 < 2 ^ 29) (kk : ∀ F' M', Wh (cN + 20) F' M' → J p l e room_1 s m args below meth c 4 D A cells slots Q (FB Y ad F' ++ [moB Y mo M']) 624 (lvL b (ad 8 2) (mo 0) i) []) : J p l e room_1 s m args below meth c 4 D A cells slots Q (FB Y ad F ++ [moB Y mo M]) 159 (lvL b (ad 8 2) (mo 0) i) [] := by
  obtain ⟨m11, m12, m9, m10, m00, m3, m31⟩ := Wh_mn hw
  obtain ⟨b1, eq, w⟩ := P_add hw (by omega) (xs (i + 1)) (xs (i + 2))
  refine j_aload_n h.1 (pc := 159) dL_law_159 2 rfl ?_
  refine lw_arg h (pc := 160) 1 1 (by decide) (by omega) dL_law_160 dL_law_161 dL_law_162 dL_law_163 dL_law_164 ?_
  refine lw_arg h (pc := 165) 2 2 (by decide) (by omega) dL_law_165 dL_law_166 dL_law_167 dL_law_168 dL_law_169 ?_
  refine lw_c7 h (pc := 170) 2 (c_X7_add l D Y ad F (xs (i + 1)) (xs (i + 2)) (Hs_hi hw.2.1) (Gd_bo hw.1) (Gd_wf (Gd_tr hw.1)) b1) gL_law_X7_add rfl (by decide +kernel) rfl ⟨Nat.le_of_ble_eq_true rfl, Nat.le_of_ble_eq_true rfl⟩ rfl (Nat.le_of_ble_eq_true rfl) dL_law_170 hcs ?_
  refine j_aload_n h.1 (pc := 173) dL_law_173 3 rfl ?_
  refine lw_arg h (pc := 174) 1 1 (by decide) (by omega) dL_law_174 dL_law_175 dL_law_176 dL_law_177 dL_law_178 ?_
  refine lw_arg h (pc := 179) 2 2 (by decide) (by omega) dL_law_179 dL_law_180 dL_law_181 dL_law_182 dL_law_183 ?_
  refine lw_c8 h (pc := 184) 2 (c_X8_add l D Y mo M (xs (i + 1)) (xs (i + 2)) m11 m12 m9 m10 m00) gL_law_X8_add rfl (by decide +kernel) rfl ⟨Nat.le_of_ble_eq_true rfl, Nat.le_of_ble_eq_true rfl⟩ rfl (Nat.le_of_ble_eq_true rfl) dL_law_184 hcs ?_
  exact j_icmp_eq h.1 (pc := 187) (tgt := 624) dL_law_187 (by decide) (fun _ => kk _ _ (Wh_up w (by omega))) (fun z => absurd eq z)
set_option maxHeartbeats 4000000 in
set_option maxRecDepth 100000 in
theorem lc_run (h : LC p s m args meth c D Y A b L xs) (hcs : cells ≤ room_1.cells ∧ slots ≤ room_1.slots) (hi : i + 4 ≤ L) (hw : Wh cN F M) (hc : cN + 50 < 2 ^ 29) (kk : ∀ F' M', Wh (cN + 20) F' M' → J p l e room_1 s m args below meth c 4 D A cells slots Q (FB Y ad F' ++ [moB Y mo M']) 624 (lvL b (ad 8 2) (mo 0) i) []) : J p l e room_1 s m args below meth c 4 D A cells slots Q (FB Y ad F ++ [moB Y mo M]) 192 (lvL b (ad 8 2) (mo 0) i) [] := by
  obtain ⟨m11, m12, m9, m10, m00, m3, m31⟩ := Wh_mn hw
  obtain ⟨pt, gt, b1, eq, w⟩ := P_run hw (by omega) (xs (i + 1))
  refine j_aload_n h.1 (pc := 192) dL_law_192 2 rfl ?_
  refine lw_arg h (pc := 193) 1 1 (by decide) (by omega) dL_law_193 dL_law_194 dL_law_195 dL_law_196 dL_law_197 ?_
  refine lw_c7 h (pc := 198) 1 (c_X7_run l D Y ad F (xs (i + 1)) (Hs_hi hw.2.1) (Gd_bo hw.1) pt b1) gL_law_X7_run rfl (by decide +kernel) rfl ⟨Nat.le_of_ble_eq_true rfl, Nat.le_of_ble_eq_true rfl⟩ rfl (Nat.le_of_ble_eq_true rfl) dL_law_198 hcs ?_
  refine j_aload_n h.1 (pc := 201) dL_law_201 3 rfl ?_
  refine lw_arg h (pc := 202) 1 1 (by decide) (by omega) dL_law_202 dL_law_203 dL_law_204 dL_law_205 dL_law_206 ?_
  refine lw_c8 h (pc := 207) 1 (c_X8_run l D Y mo M (xs (i + 1)) gt m00) gL_law_X8_run rfl (by decide +kernel) rfl ⟨Nat.le_of_ble_eq_true rfl, Nat.le_of_ble_eq_true rfl⟩ rfl (Nat.le_of_ble_eq_true rfl) dL_law_207 hcs ?_
  exact j_icmp_eq h.1 (pc := 210) (tgt := 624) dL_law_210 (by decide) (fun _ => kk _ _ (Wh_up w (by omega))) (fun z => absurd eq z)
set_option maxHeartbeats 4000000 in
set_option maxRecDepth 100000 in
theorem lc_finish (h : LC p s m args meth c D Y A b L xs) (hcs : cells ≤ room_1.cells ∧ slots ≤ room_1.slots) (hi : i + 4 ≤ L) (hw : Wh cN F M) (hc : cN + 50 < 2 ^ 29) (kk : ∀ F' M', Wh (cN + 20) F' M' → J p l e room_1 s m args below meth c 4 D A cells slots Q (FB Y ad F' ++ [moB Y mo M']) 624 (lvL b (ad 8 2) (mo 0) i) []) : J p l e room_1 s m args below meth c 4 D A cells slots Q (FB Y ad F ++ [moB Y mo M]) 215 (lvL b (ad 8 2) (mo 0) i) [] := by
  obtain ⟨m11, m12, m9, m10, m00, m3, m31⟩ := Wh_mn hw
  obtain ⟨la, se, b1, eq, w, -, -⟩ := P_finish hw (by omega)
  refine j_aload_n h.1 (pc := 215) dL_law_215 2 rfl ?_
  refine lw_c7 h (pc := 216) 0 (c_X7_finish l D Y ad F (Hs_hi hw.2.1) (Gd_bo hw.1) la b1) gL_law_X7_finish rfl (by decide +kernel) rfl ⟨Nat.le_of_ble_eq_true rfl, Nat.le_of_ble_eq_true rfl⟩ rfl (Nat.le_of_ble_eq_true rfl) dL_law_216 hcs ?_
  refine j_aload_n h.1 (pc := 219) dL_law_219 3 rfl ?_
  refine lw_c8 h (pc := 220) 0 (c_X8_finish l D Y mo M (fun _ => se) m00) gL_law_X8_finish rfl (by decide +kernel) rfl ⟨Nat.le_of_ble_eq_true rfl, Nat.le_of_ble_eq_true rfl⟩ rfl (Nat.le_of_ble_eq_true rfl) dL_law_220 hcs ?_
  exact j_icmp_eq h.1 (pc := 223) (tgt := 624) dL_law_223 (by decide) (fun _ => kk _ _ (Wh_up w (by omega))) (fun z => absurd eq z)
end LCS1
