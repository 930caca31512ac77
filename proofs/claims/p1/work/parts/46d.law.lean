/-! ===== the law, call by call ===== -/
set_option maxRecDepth 20000 in
set_option maxHeartbeats 2000000 in
theorem law_0 {p : Program} {e : Env} {s : State} {m : MethodId} {below : List Frame} {meth : Method} {c : Code} {l : Launch} {b q1 q2 n : Nat} {xs : Nat → Int32} (C0 : lw_At p s m meth c b 5 xs) {gv : Nat → Int32} {cA : Nat → ClassId} {D : va_G} {ws : va_W} {H : Heap} {locs : List Loc} {ls : Array Slot} (hSX : SideX kM_105 [] gv [xs 1, xs 2, xs 3] n) (hSM : SideM kM_139 [] gv [xs 1, xs 2, xs 3] n) (hW : WD gv cA D (fun q : Nat => s.heap.size ≤ q) s k_HJ ws H locs) (hq1 : (adr ws)[0]? = some q1) (hq2 : (adr ws)[105]? = some q2) (hl : lv_has ls 4 [(3, .int 0), (2, .ref q2), (1, .ref q1), (0, .ref b)]) : W p l e room_1 s m #[Value.ref b] below meth c H locs 140 3200385 (lw_Z below #[Value.ref b] s) (F0 m 140 ls []) := by
  obtain ⟨hx, hb, hr, hml, hown, hts, hX, hbl, hlocks, hgv⟩ := id C0
  have hC := CX_law C0
  have hbA : ¬ (fun q : Nat => s.heap.size ≤ q) b := Nat.not_le.mpr hbl
  refine lv_aload_n hx hb dw_140 rfl (lv_at hl 2 rfl) ?_
  refine law_ld (j := 1) (L := 5) hx hb hX hbl hbA hW.2.2.2.1 (lv_at hl 3 rfl) (lv_at hl 0 rfl) (v := 1) dw_141 dw_142 dw_143 dw_144 dw_145 (by decide) (by decide) (by decide) (by decide) ?_
  refine law_ld (j := 2) (L := 5) hx hb hX hbl hbA hW.2.2.2.1 (lv_at hl 3 rfl) (lv_at hl 0 rfl) (v := 2) dw_146 dw_147 dw_148 dw_149 dw_150 (by decide) (by decide) (by decide) (by decide) ?_
  refine law_ld (j := 3) (L := 5) hx hb hX hbl hbA hW.2.2.2.1 (lv_at hl 3 rfl) (lv_at hl 0 rfl) (v := 3) dw_151 dw_152 dw_153 dw_154 dw_155 (by decide) (by decide) (by decide) (by decide) ?_
  refine law_X (vs := [xs 1, xs 2, xs 3]) (rest := []) kcf_105 (Nat.le_of_ble_eq_true rfl) rfl rfl rfl kw_808 kw_809 kw_810 dw_156 hC hW hq1 hq2 hSX hl.1 (Nat.le_of_ble_eq_true rfl) (by decide) (by decide) (fun ws2 H1 locs1 hW2 hq => ?_)
  refine lv_aload_n hx hb dw_159 rfl (lv_at hl 1 rfl) ?_
  refine law_ld (j := 1) (L := 5) hx hb hX hbl hbA hW2.2.2.2.1 (lv_at hl 3 rfl) (lv_at hl 0 rfl) (v := 1) dw_160 dw_161 dw_162 dw_163 dw_164 (by decide) (by decide) (by decide) (by decide) ?_
  refine law_ld (j := 2) (L := 5) hx hb hX hbl hbA hW2.2.2.2.1 (lv_at hl 3 rfl) (lv_at hl 0 rfl) (v := 2) dw_165 dw_166 dw_167 dw_168 dw_169 (by decide) (by decide) (by decide) (by decide) ?_
  refine law_ld (j := 3) (L := 5) hx hb hX hbl hbA hW2.2.2.2.1 (lv_at hl 3 rfl) (lv_at hl 0 rfl) (v := 3) dw_170 dw_171 dw_172 dw_173 dw_174 (by decide) (by decide) (by decide) (by decide) ?_
  refine law_M (vs := [xs 1, xs 2, xs 3]) (rest := [.int (a_i32 n)]) kcf_139 (Nat.le_of_ble_eq_true rfl) rfl rfl rfl kw_811 kw_812 kw_813 dw_175 hC hW2 hq hSM hl.1 (Nat.le_of_ble_eq_true rfl) (by decide) (by decide) (fun H2 locs2 hS2 => ?_)
  refine lv_icmp_eq (tgt := 965) hx hb dw_178 (by decide) (fun _ => law_end C0 hS2 hl) (fun h => absurd rfl h)
set_option maxRecDepth 20000 in
set_option maxHeartbeats 2000000 in
theorem law_1 {p : Program} {e : Env} {s : State} {m : MethodId} {below : List Frame} {meth : Method} {c : Code} {l : Launch} {b q1 q2 n : Nat} {xs : Nat → Int32} (C0 : lw_At p s m meth c b 5 xs) {gv : Nat → Int32} {cA : Nat → ClassId} {D : va_G} {ws : va_W} {H : Heap} {locs : List Loc} {ls : Array Slot} (hSX : SideX kM_106 [] gv [xs 1, xs 2] n) (hSM : SideM kM_140 [] gv [xs 1, xs 2] n) (hW : WD gv cA D (fun q : Nat => s.heap.size ≤ q) s k_HJ ws H locs) (hq1 : (adr ws)[0]? = some q1) (hq2 : (adr ws)[105]? = some q2) (hl : lv_has ls 4 [(3, .int 0), (2, .ref q2), (1, .ref q1), (0, .ref b)]) : W p l e room_1 s m #[Value.ref b] below meth c H locs 140 3200385 (lw_Z below #[Value.ref b] s) (F0 m 183 ls []) := by
  obtain ⟨hx, hb, hr, hml, hown, hts, hX, hbl, hlocks, hgv⟩ := id C0
  have hC := CX_law C0
  have hbA : ¬ (fun q : Nat => s.heap.size ≤ q) b := Nat.not_le.mpr hbl
  refine lv_aload_n hx hb dw_183 rfl (lv_at hl 2 rfl) ?_
  refine law_ld (j := 1) (L := 5) hx hb hX hbl hbA hW.2.2.2.1 (lv_at hl 3 rfl) (lv_at hl 0 rfl) (v := 1) dw_184 dw_185 dw_186 dw_187 dw_188 (by decide) (by decide) (by decide) (by decide) ?_
  refine law_ld (j := 2) (L := 5) hx hb hX hbl hbA hW.2.2.2.1 (lv_at hl 3 rfl) (lv_at hl 0 rfl) (v := 2) dw_189 dw_190 dw_191 dw_192 dw_193 (by decide) (by decide) (by decide) (by decide) ?_
  refine law_X (vs := [xs 1, xs 2]) (rest := []) kcf_106 (Nat.le_of_ble_eq_true rfl) rfl rfl rfl kw_814 kw_815 kw_816 dw_194 hC hW hq1 hq2 hSX hl.1 (Nat.le_of_ble_eq_true rfl) (by decide) (by decide) (fun ws2 H1 locs1 hW2 hq => ?_)
  refine lv_aload_n hx hb dw_197 rfl (lv_at hl 1 rfl) ?_
  refine law_ld (j := 1) (L := 5) hx hb hX hbl hbA hW2.2.2.2.1 (lv_at hl 3 rfl) (lv_at hl 0 rfl) (v := 1) dw_198 dw_199 dw_200 dw_201 dw_202 (by decide) (by decide) (by decide) (by decide) ?_
  refine law_ld (j := 2) (L := 5) hx hb hX hbl hbA hW2.2.2.2.1 (lv_at hl 3 rfl) (lv_at hl 0 rfl) (v := 2) dw_203 dw_204 dw_205 dw_206 dw_207 (by decide) (by decide) (by decide) (by decide) ?_
  refine law_M (vs := [xs 1, xs 2]) (rest := [.int (a_i32 n)]) kcf_140 (Nat.le_of_ble_eq_true rfl) rfl rfl rfl kw_817 kw_818 kw_819 dw_208 hC hW2 hq hSM hl.1 (Nat.le_of_ble_eq_true rfl) (by decide) (by decide) (fun H2 locs2 hS2 => ?_)
  refine lv_icmp_eq (tgt := 965) hx hb dw_211 (by decide) (fun _ => law_end C0 hS2 hl) (fun h => absurd rfl h)
set_option maxRecDepth 20000 in
set_option maxHeartbeats 2000000 in
theorem law_2 {p : Program} {e : Env} {s : State} {m : MethodId} {below : List Frame} {meth : Method} {c : Code} {l : Launch} {b q1 q2 n : Nat} {xs : Nat → Int32} (C0 : lw_At p s m meth c b 5 xs) {gv : Nat → Int32} {cA : Nat → ClassId} {D : va_G} {ws : va_W} {H : Heap} {locs : List Loc} {ls : Array Slot} (hSX : SideX kM_107 [] gv [xs 1] n) (hSM : SideM kM_141 [] gv [xs 1] n) (hW : WD gv cA D (fun q : Nat => s.heap.size ≤ q) s k_HJ ws H locs) (hq1 : (adr ws)[0]? = some q1) (hq2 : (adr ws)[105]? = some q2) (hl : lv_has ls 4 [(3, .int 0), (2, .ref q2), (1, .ref q1), (0, .ref b)]) : W p l e room_1 s m #[Value.ref b] below meth c H locs 140 3200385 (lw_Z below #[Value.ref b] s) (F0 m 216 ls []) := by
  obtain ⟨hx, hb, hr, hml, hown, hts, hX, hbl, hlocks, hgv⟩ := id C0
  have hC := CX_law C0
  have hbA : ¬ (fun q : Nat => s.heap.size ≤ q) b := Nat.not_le.mpr hbl
  refine lv_aload_n hx hb dw_216 rfl (lv_at hl 2 rfl) ?_
  refine law_ld (j := 1) (L := 5) hx hb hX hbl hbA hW.2.2.2.1 (lv_at hl 3 rfl) (lv_at hl 0 rfl) (v := 1) dw_217 dw_218 dw_219 dw_220 dw_221 (by decide) (by decide) (by decide) (by decide) ?_
  refine law_X (vs := [xs 1]) (rest := []) kcf_107 (Nat.le_of_ble_eq_true rfl) rfl rfl rfl kw_820 kw_821 kw_822 dw_222 hC hW hq1 hq2 hSX hl.1 (Nat.le_of_ble_eq_true rfl) (by decide) (by decide) (fun ws2 H1 locs1 hW2 hq => ?_)
  refine lv_aload_n hx hb dw_225 rfl (lv_at hl 1 rfl) ?_
  refine law_ld (j := 1) (L := 5) hx hb hX hbl hbA hW2.2.2.2.1 (lv_at hl 3 rfl) (lv_at hl 0 rfl) (v := 1) dw_226 dw_227 dw_228 dw_229 dw_230 (by decide) (by decide) (by decide) (by decide) ?_
  refine law_M (vs := [xs 1]) (rest := [.int (a_i32 n)]) kcf_141 (Nat.le_of_ble_eq_true rfl) rfl rfl rfl kw_823 kw_824 kw_825 dw_231 hC hW2 hq hSM hl.1 (Nat.le_of_ble_eq_true rfl) (by decide) (by decide) (fun H2 locs2 hS2 => ?_)
  refine lv_icmp_eq (tgt := 965) hx hb dw_234 (by decide) (fun _ => law_end C0 hS2 hl) (fun h => absurd rfl h)
set_option maxRecDepth 20000 in
set_option maxHeartbeats 2000000 in
theorem law_3 {p : Program} {e : Env} {s : State} {m : MethodId} {below : List Frame} {meth : Method} {c : Code} {l : Launch} {b q1 q2 n : Nat} {xs : Nat → Int32} (C0 : lw_At p s m meth c b 5 xs) {gv : Nat → Int32} {cA : Nat → ClassId} {D : va_G} {ws : va_W} {H : Heap} {locs : List Loc} {ls : Array Slot} (hSX : SideX kM_108 [] gv [xs 1] n) (hSM : SideM kM_142 [none, none, none, none, none] gv [xs 1] n) (hW : WD gv cA D (fun q : Nat => s.heap.size ≤ q) s k_HJ ws H locs) (hq1 : (adr ws)[0]? = some q1) (hq2 : (adr ws)[105]? = some q2) (hl : lv_has ls 4 [(3, .int 0), (2, .ref q2), (1, .ref q1), (0, .ref b)]) : W p l e room_1 s m #[Value.ref b] below meth c H locs 140 3200385 (lw_Z below #[Value.ref b] s) (F0 m 239 ls []) := by
  obtain ⟨hx, hb, hr, hml, hown, hts, hX, hbl, hlocks, hgv⟩ := id C0
  have hC := CX_law C0
  have hbA : ¬ (fun q : Nat => s.heap.size ≤ q) b := Nat.not_le.mpr hbl
  refine lv_aload_n hx hb dw_239 rfl (lv_at hl 2 rfl) ?_
  refine law_ld (j := 1) (L := 5) hx hb hX hbl hbA hW.2.2.2.1 (lv_at hl 3 rfl) (lv_at hl 0 rfl) (v := 1) dw_240 dw_241 dw_242 dw_243 dw_244 (by decide) (by decide) (by decide) (by decide) ?_
  refine law_X (vs := [xs 1]) (rest := []) kcf_108 (Nat.le_of_ble_eq_true rfl) rfl rfl rfl kw_826 kw_827 kw_828 dw_245 hC hW hq1 hq2 hSX hl.1 (Nat.le_of_ble_eq_true rfl) (by decide) (by decide) (fun ws2 H1 locs1 hW2 hq => ?_)
  refine lv_aload_n hx hb dw_248 rfl (lv_at hl 1 rfl) ?_
  refine law_ld (j := 1) (L := 5) hx hb hX hbl hbA hW2.2.2.2.1 (lv_at hl 3 rfl) (lv_at hl 0 rfl) (v := 1) dw_249 dw_250 dw_251 dw_252 dw_253 (by decide) (by decide) (by decide) (by decide) ?_
  refine law_M (vs := [xs 1]) (rest := [.int (a_i32 n)]) kcf_142 (Nat.le_of_ble_eq_true rfl) rfl rfl rfl kw_829 kw_830 kw_831 dw_254 hC hW2 hq hSM hl.1 (Nat.le_of_ble_eq_true rfl) (by decide) (by decide) (fun H2 locs2 hS2 => ?_)
  refine lv_icmp_eq (tgt := 965) hx hb dw_257 (by decide) (fun _ => law_end C0 hS2 hl) (fun h => absurd rfl h)
set_option maxRecDepth 20000 in
set_option maxHeartbeats 2000000 in
theorem law_4 {p : Program} {e : Env} {s : State} {m : MethodId} {below : List Frame} {meth : Method} {c : Code} {l : Launch} {b q1 q2 n : Nat} {xs : Nat → Int32} (C0 : lw_At p s m meth c b 5 xs) {gv : Nat → Int32} {cA : Nat → ClassId} {D : va_G} {ws : va_W} {H : Heap} {locs : List Loc} {ls : Array Slot} (hSX : SideX kM_109 [] gv [xs 1, xs 2] n) (hSM : SideM kM_144 [none, none] gv [xs 1, xs 2] n) (hW : WD gv cA D (fun q : Nat => s.heap.size ≤ q) s k_HJ ws H locs) (hq1 : (adr ws)[0]? = some q1) (hq2 : (adr ws)[105]? = some q2) (hl : lv_has ls 4 [(3, .int 0), (2, .ref q2), (1, .ref q1), (0, .ref b)]) : W p l e room_1 s m #[Value.ref b] below meth c H locs 140 3200385 (lw_Z below #[Value.ref b] s) (F0 m 262 ls []) := by
  obtain ⟨hx, hb, hr, hml, hown, hts, hX, hbl, hlocks, hgv⟩ := id C0
  have hC := CX_law C0
  have hbA : ¬ (fun q : Nat => s.heap.size ≤ q) b := Nat.not_le.mpr hbl
  refine lv_aload_n hx hb dw_262 rfl (lv_at hl 2 rfl) ?_
  refine law_ld (j := 1) (L := 5) hx hb hX hbl hbA hW.2.2.2.1 (lv_at hl 3 rfl) (lv_at hl 0 rfl) (v := 1) dw_263 dw_264 dw_265 dw_266 dw_267 (by decide) (by decide) (by decide) (by decide) ?_
  refine law_ld (j := 2) (L := 5) hx hb hX hbl hbA hW.2.2.2.1 (lv_at hl 3 rfl) (lv_at hl 0 rfl) (v := 2) dw_268 dw_269 dw_270 dw_271 dw_272 (by decide) (by decide) (by decide) (by decide) ?_
  refine law_X (vs := [xs 1, xs 2]) (rest := []) kcf_109 (Nat.le_of_ble_eq_true rfl) rfl rfl rfl kw_832 kw_833 kw_834 dw_273 hC hW hq1 hq2 hSX hl.1 (Nat.le_of_ble_eq_true rfl) (by decide) (by decide) (fun ws2 H1 locs1 hW2 hq => ?_)
  refine lv_aload_n hx hb dw_276 rfl (lv_at hl 1 rfl) ?_
  refine law_ld (j := 1) (L := 5) hx hb hX hbl hbA hW2.2.2.2.1 (lv_at hl 3 rfl) (lv_at hl 0 rfl) (v := 1) dw_277 dw_278 dw_279 dw_280 dw_281 (by decide) (by decide) (by decide) (by decide) ?_
  refine law_ld (j := 2) (L := 5) hx hb hX hbl hbA hW2.2.2.2.1 (lv_at hl 3 rfl) (lv_at hl 0 rfl) (v := 2) dw_282 dw_283 dw_284 dw_285 dw_286 (by decide) (by decide) (by decide) (by decide) ?_
  refine law_M (vs := [xs 1, xs 2]) (rest := [.int (a_i32 n)]) kcf_144 (Nat.le_of_ble_eq_true rfl) rfl rfl rfl kw_835 kw_836 kw_837 dw_287 hC hW2 hq hSM hl.1 (Nat.le_of_ble_eq_true rfl) (by decide) (by decide) (fun H2 locs2 hS2 => ?_)
  refine lv_icmp_eq (tgt := 965) hx hb dw_290 (by decide) (fun _ => law_end C0 hS2 hl) (fun h => absurd rfl h)
set_option maxRecDepth 20000 in
set_option maxHeartbeats 2000000 in
theorem law_5 {p : Program} {e : Env} {s : State} {m : MethodId} {below : List Frame} {meth : Method} {c : Code} {l : Launch} {b q1 q2 n : Nat} {xs : Nat → Int32} (C0 : lw_At p s m meth c b 5 xs) {gv : Nat → Int32} {cA : Nat → ClassId} {D : va_G} {ws : va_W} {H : Heap} {locs : List Loc} {ls : Array Slot} (hSX : SideX kM_110 [] gv [xs 1, xs 2, xs 3] n) (hSM : SideM kM_145 [none] gv [xs 1, xs 2, xs 3] n) (hW : WD gv cA D (fun q : Nat => s.heap.size ≤ q) s k_HJ ws H locs) (hq1 : (adr ws)[0]? = some q1) (hq2 : (adr ws)[105]? = some q2) (hl : lv_has ls 4 [(3, .int 0), (2, .ref q2), (1, .ref q1), (0, .ref b)]) : W p l e room_1 s m #[Value.ref b] below meth c H locs 140 3200385 (lw_Z below #[Value.ref b] s) (F0 m 295 ls []) := by
  obtain ⟨hx, hb, hr, hml, hown, hts, hX, hbl, hlocks, hgv⟩ := id C0
  have hC := CX_law C0
  have hbA : ¬ (fun q : Nat => s.heap.size ≤ q) b := Nat.not_le.mpr hbl
  refine lv_aload_n hx hb dw_295 rfl (lv_at hl 2 rfl) ?_
  refine law_ld (j := 1) (L := 5) hx hb hX hbl hbA hW.2.2.2.1 (lv_at hl 3 rfl) (lv_at hl 0 rfl) (v := 1) dw_296 dw_297 dw_298 dw_299 dw_300 (by decide) (by decide) (by decide) (by decide) ?_
  refine law_ld (j := 2) (L := 5) hx hb hX hbl hbA hW.2.2.2.1 (lv_at hl 3 rfl) (lv_at hl 0 rfl) (v := 2) dw_301 dw_302 dw_303 dw_304 dw_305 (by decide) (by decide) (by decide) (by decide) ?_
  refine law_ld (j := 3) (L := 5) hx hb hX hbl hbA hW.2.2.2.1 (lv_at hl 3 rfl) (lv_at hl 0 rfl) (v := 3) dw_306 dw_307 dw_308 dw_309 dw_310 (by decide) (by decide) (by decide) (by decide) ?_
  refine law_X (vs := [xs 1, xs 2, xs 3]) (rest := []) kcf_110 (Nat.le_of_ble_eq_true rfl) rfl rfl rfl kw_838 kw_839 kw_840 dw_311 hC hW hq1 hq2 hSX hl.1 (Nat.le_of_ble_eq_true rfl) (by decide) (by decide) (fun ws2 H1 locs1 hW2 hq => ?_)
  refine lv_aload_n hx hb dw_314 rfl (lv_at hl 1 rfl) ?_
  refine law_ld (j := 1) (L := 5) hx hb hX hbl hbA hW2.2.2.2.1 (lv_at hl 3 rfl) (lv_at hl 0 rfl) (v := 1) dw_315 dw_316 dw_317 dw_318 dw_319 (by decide) (by decide) (by decide) (by decide) ?_
  refine law_ld (j := 2) (L := 5) hx hb hX hbl hbA hW2.2.2.2.1 (lv_at hl 3 rfl) (lv_at hl 0 rfl) (v := 2) dw_320 dw_321 dw_322 dw_323 dw_324 (by decide) (by decide) (by decide) (by decide) ?_
  refine law_ld (j := 3) (L := 5) hx hb hX hbl hbA hW2.2.2.2.1 (lv_at hl 3 rfl) (lv_at hl 0 rfl) (v := 3) dw_325 dw_326 dw_327 dw_328 dw_329 (by decide) (by decide) (by decide) (by decide) ?_
  refine law_M (vs := [xs 1, xs 2, xs 3]) (rest := [.int (a_i32 n)]) kcf_145 (Nat.le_of_ble_eq_true rfl) rfl rfl rfl kw_841 kw_842 kw_843 dw_330 hC hW2 hq hSM hl.1 (Nat.le_of_ble_eq_true rfl) (by decide) (by decide) (fun H2 locs2 hS2 => ?_)
  refine lv_icmp_eq (tgt := 965) hx hb dw_333 (by decide) (fun _ => law_end C0 hS2 hl) (fun h => absurd rfl h)
set_option maxRecDepth 20000 in
set_option maxHeartbeats 2000000 in
theorem law_6 {p : Program} {e : Env} {s : State} {m : MethodId} {below : List Frame} {meth : Method} {c : Code} {l : Launch} {b q1 q2 n : Nat} {xs : Nat → Int32} (C0 : lw_At p s m meth c b 5 xs) {gv : Nat → Int32} {cA : Nat → ClassId} {D : va_G} {ws : va_W} {H : Heap} {locs : List Loc} {ls : Array Slot} (hSX : SideX kM_111 [] gv [xs 1] n) (hSM : SideM kM_146 [none] gv [xs 1] n) (hW : WD gv cA D (fun q : Nat => s.heap.size ≤ q) s k_HJ ws H locs) (hq1 : (adr ws)[0]? = some q1) (hq2 : (adr ws)[105]? = some q2) (hl : lv_has ls 4 [(3, .int 0), (2, .ref q2), (1, .ref q1), (0, .ref b)]) : W p l e room_1 s m #[Value.ref b] below meth c H locs 140 3200385 (lw_Z below #[Value.ref b] s) (F0 m 338 ls []) := by
  obtain ⟨hx, hb, hr, hml, hown, hts, hX, hbl, hlocks, hgv⟩ := id C0
  have hC := CX_law C0
  have hbA : ¬ (fun q : Nat => s.heap.size ≤ q) b := Nat.not_le.mpr hbl
  refine lv_aload_n hx hb dw_338 rfl (lv_at hl 2 rfl) ?_
  refine law_ld (j := 1) (L := 5) hx hb hX hbl hbA hW.2.2.2.1 (lv_at hl 3 rfl) (lv_at hl 0 rfl) (v := 1) dw_339 dw_340 dw_341 dw_342 dw_343 (by decide) (by decide) (by decide) (by decide) ?_
  refine law_X (vs := [xs 1]) (rest := []) kcf_111 (Nat.le_of_ble_eq_true rfl) rfl rfl rfl kw_844 kw_845 kw_846 dw_344 hC hW hq1 hq2 hSX hl.1 (Nat.le_of_ble_eq_true rfl) (by decide) (by decide) (fun ws2 H1 locs1 hW2 hq => ?_)
  refine lv_aload_n hx hb dw_347 rfl (lv_at hl 1 rfl) ?_
  refine law_ld (j := 1) (L := 5) hx hb hX hbl hbA hW2.2.2.2.1 (lv_at hl 3 rfl) (lv_at hl 0 rfl) (v := 1) dw_348 dw_349 dw_350 dw_351 dw_352 (by decide) (by decide) (by decide) (by decide) ?_
  refine law_M (vs := [xs 1]) (rest := [.int (a_i32 n)]) kcf_146 (Nat.le_of_ble_eq_true rfl) rfl rfl rfl kw_847 kw_848 kw_849 dw_353 hC hW2 hq hSM hl.1 (Nat.le_of_ble_eq_true rfl) (by decide) (by decide) (fun H2 locs2 hS2 => ?_)
  refine lv_icmp_eq (tgt := 965) hx hb dw_356 (by decide) (fun _ => law_end C0 hS2 hl) (fun h => absurd rfl h)
set_option maxRecDepth 20000 in
set_option maxHeartbeats 2000000 in
theorem law_7 {p : Program} {e : Env} {s : State} {m : MethodId} {below : List Frame} {meth : Method} {c : Code} {l : Launch} {b q1 q2 n : Nat} {xs : Nat → Int32} (C0 : lw_At p s m meth c b 5 xs) {gv : Nat → Int32} {cA : Nat → ClassId} {D : va_G} {ws : va_W} {H : Heap} {locs : List Loc} {ls : Array Slot} (hSX : SideX kM_112 [] gv [xs 1, xs 2] n) (hSM : SideM kM_147 [none, none, none] gv [xs 1, xs 2] n) (hW : WD gv cA D (fun q : Nat => s.heap.size ≤ q) s k_HJ ws H locs) (hq1 : (adr ws)[0]? = some q1) (hq2 : (adr ws)[105]? = some q2) (hl : lv_has ls 4 [(3, .int 0), (2, .ref q2), (1, .ref q1), (0, .ref b)]) : W p l e room_1 s m #[Value.ref b] below meth c H locs 140 3200385 (lw_Z below #[Value.ref b] s) (F0 m 361 ls []) := by
  obtain ⟨hx, hb, hr, hml, hown, hts, hX, hbl, hlocks, hgv⟩ := id C0
  have hC := CX_law C0
  have hbA : ¬ (fun q : Nat => s.heap.size ≤ q) b := Nat.not_le.mpr hbl
  refine lv_aload_n hx hb dw_361 rfl (lv_at hl 2 rfl) ?_
  refine law_ld (j := 1) (L := 5) hx hb hX hbl hbA hW.2.2.2.1 (lv_at hl 3 rfl) (lv_at hl 0 rfl) (v := 1) dw_362 dw_363 dw_364 dw_365 dw_366 (by decide) (by decide) (by decide) (by decide) ?_
  refine law_ld (j := 2) (L := 5) hx hb hX hbl hbA hW.2.2.2.1 (lv_at hl 3 rfl) (lv_at hl 0 rfl) (v := 2) dw_367 dw_368 dw_369 dw_370 dw_371 (by decide) (by decide) (by decide) (by decide) ?_
  refine law_X (vs := [xs 1, xs 2]) (rest := []) kcf_112 (Nat.le_of_ble_eq_true rfl) rfl rfl rfl kw_850 kw_851 kw_852 dw_372 hC hW hq1 hq2 hSX hl.1 (Nat.le_of_ble_eq_true rfl) (by decide) (by decide) (fun ws2 H1 locs1 hW2 hq => ?_)
  refine lv_aload_n hx hb dw_375 rfl (lv_at hl 1 rfl) ?_
  refine law_ld (j := 1) (L := 5) hx hb hX hbl hbA hW2.2.2.2.1 (lv_at hl 3 rfl) (lv_at hl 0 rfl) (v := 1) dw_376 dw_377 dw_378 dw_379 dw_380 (by decide) (by decide) (by decide) (by decide) ?_
  refine law_ld (j := 2) (L := 5) hx hb hX hbl hbA hW2.2.2.2.1 (lv_at hl 3 rfl) (lv_at hl 0 rfl) (v := 2) dw_381 dw_382 dw_383 dw_384 dw_385 (by decide) (by decide) (by decide) (by decide) ?_
  refine law_M (vs := [xs 1, xs 2]) (rest := [.int (a_i32 n)]) kcf_147 (Nat.le_of_ble_eq_true rfl) rfl rfl rfl kw_853 kw_854 kw_855 dw_386 hC hW2 hq hSM hl.1 (Nat.le_of_ble_eq_true rfl) (by decide) (by decide) (fun H2 locs2 hS2 => ?_)
  refine lv_icmp_eq (tgt := 965) hx hb dw_389 (by decide) (fun _ => law_end C0 hS2 hl) (fun h => absurd rfl h)
set_option maxRecDepth 20000 in
set_option maxHeartbeats 2000000 in
theorem law_8 {p : Program} {e : Env} {s : State} {m : MethodId} {below : List Frame} {meth : Method} {c : Code} {l : Launch} {b q1 q2 n : Nat} {xs : Nat → Int32} (C0 : lw_At p s m meth c b 5 xs) {gv : Nat → Int32} {cA : Nat → ClassId} {D : va_G} {ws : va_W} {H : Heap} {locs : List Loc} {ls : Array Slot} (hSX : SideX kM_115 [] gv [xs 1, xs 2] n) (hSM : SideM kM_167 [none, none, none, none] gv [xs 1, xs 2] n) (hW : WD gv cA D (fun q : Nat => s.heap.size ≤ q) s k_HJ ws H locs) (hq1 : (adr ws)[0]? = some q1) (hq2 : (adr ws)[105]? = some q2) (hl : lv_has ls 4 [(3, .int 0), (2, .ref q2), (1, .ref q1), (0, .ref b)]) : W p l e room_1 s m #[Value.ref b] below meth c H locs 140 3200385 (lw_Z below #[Value.ref b] s) (F0 m 394 ls []) := by
  obtain ⟨hx, hb, hr, hml, hown, hts, hX, hbl, hlocks, hgv⟩ := id C0
  have hC := CX_law C0
  have hbA : ¬ (fun q : Nat => s.heap.size ≤ q) b := Nat.not_le.mpr hbl
  refine lv_aload_n hx hb dw_394 rfl (lv_at hl 2 rfl) ?_
  refine law_ld (j := 1) (L := 5) hx hb hX hbl hbA hW.2.2.2.1 (lv_at hl 3 rfl) (lv_at hl 0 rfl) (v := 1) dw_395 dw_396 dw_397 dw_398 dw_399 (by decide) (by decide) (by decide) (by decide) ?_
  refine law_ld (j := 2) (L := 5) hx hb hX hbl hbA hW.2.2.2.1 (lv_at hl 3 rfl) (lv_at hl 0 rfl) (v := 2) dw_400 dw_401 dw_402 dw_403 dw_404 (by decide) (by decide) (by decide) (by decide) ?_
  refine law_X (vs := [xs 1, xs 2]) (rest := []) kcf_115 (Nat.le_of_ble_eq_true rfl) rfl rfl rfl kw_856 kw_857 kw_858 dw_405 hC hW hq1 hq2 hSX hl.1 (Nat.le_of_ble_eq_true rfl) (by decide) (by decide) (fun ws2 H1 locs1 hW2 hq => ?_)
  refine lv_aload_n hx hb dw_408 rfl (lv_at hl 1 rfl) ?_
  refine law_ld (j := 1) (L := 5) hx hb hX hbl hbA hW2.2.2.2.1 (lv_at hl 3 rfl) (lv_at hl 0 rfl) (v := 1) dw_409 dw_410 dw_411 dw_412 dw_413 (by decide) (by decide) (by decide) (by decide) ?_
  refine law_ld (j := 2) (L := 5) hx hb hX hbl hbA hW2.2.2.2.1 (lv_at hl 3 rfl) (lv_at hl 0 rfl) (v := 2) dw_414 dw_415 dw_416 dw_417 dw_418 (by decide) (by decide) (by decide) (by decide) ?_
  refine law_M (vs := [xs 1, xs 2]) (rest := [.int (a_i32 n)]) kcf_167 (Nat.le_of_ble_eq_true rfl) rfl rfl rfl kw_859 kw_860 kw_861 dw_419 hC hW2 hq hSM hl.1 (Nat.le_of_ble_eq_true rfl) (by decide) (by decide) (fun H2 locs2 hS2 => ?_)
  refine lv_icmp_eq (tgt := 965) hx hb dw_422 (by decide) (fun _ => law_end C0 hS2 hl) (fun h => absurd rfl h)
set_option maxRecDepth 20000 in
set_option maxHeartbeats 2000000 in
theorem law_9 {p : Program} {e : Env} {s : State} {m : MethodId} {below : List Frame} {meth : Method} {c : Code} {l : Launch} {b q1 q2 n : Nat} {xs : Nat → Int32} (C0 : lw_At p s m meth c b 5 xs) {gv : Nat → Int32} {cA : Nat → ClassId} {D : va_G} {ws : va_W} {H : Heap} {locs : List Loc} {ls : Array Slot} (hSX : SideX kM_116 [] gv [xs 1, xs 2, xs 3] n) (hSM : SideM kM_170 [] gv [xs 1, xs 2, xs 3] n) (hW : WD gv cA D (fun q : Nat => s.heap.size ≤ q) s k_HJ ws H locs) (hq1 : (adr ws)[0]? = some q1) (hq2 : (adr ws)[105]? = some q2) (hl : lv_has ls 4 [(3, .int 0), (2, .ref q2), (1, .ref q1), (0, .ref b)]) : W p l e room_1 s m #[Value.ref b] below meth c H locs 140 3200385 (lw_Z below #[Value.ref b] s) (F0 m 427 ls []) := by
  obtain ⟨hx, hb, hr, hml, hown, hts, hX, hbl, hlocks, hgv⟩ := id C0
  have hC := CX_law C0
  have hbA : ¬ (fun q : Nat => s.heap.size ≤ q) b := Nat.not_le.mpr hbl
  refine lv_aload_n hx hb dw_427 rfl (lv_at hl 2 rfl) ?_
  refine law_ld (j := 1) (L := 5) hx hb hX hbl hbA hW.2.2.2.1 (lv_at hl 3 rfl) (lv_at hl 0 rfl) (v := 1) dw_428 dw_429 dw_430 dw_431 dw_432 (by decide) (by decide) (by decide) (by decide) ?_
  refine law_ld (j := 2) (L := 5) hx hb hX hbl hbA hW.2.2.2.1 (lv_at hl 3 rfl) (lv_at hl 0 rfl) (v := 2) dw_433 dw_434 dw_435 dw_436 dw_437 (by decide) (by decide) (by decide) (by decide) ?_
  refine law_ld (j := 3) (L := 5) hx hb hX hbl hbA hW.2.2.2.1 (lv_at hl 3 rfl) (lv_at hl 0 rfl) (v := 3) dw_438 dw_439 dw_440 dw_441 dw_442 (by decide) (by decide) (by decide) (by decide) ?_
  refine law_X (vs := [xs 1, xs 2, xs 3]) (rest := []) kcf_116 (Nat.le_of_ble_eq_true rfl) rfl rfl rfl kw_862 kw_863 kw_864 dw_443 hC hW hq1 hq2 hSX hl.1 (Nat.le_of_ble_eq_true rfl) (by decide) (by decide) (fun ws2 H1 locs1 hW2 hq => ?_)
  refine lv_aload_n hx hb dw_446 rfl (lv_at hl 1 rfl) ?_
  refine law_ld (j := 1) (L := 5) hx hb hX hbl hbA hW2.2.2.2.1 (lv_at hl 3 rfl) (lv_at hl 0 rfl) (v := 1) dw_447 dw_448 dw_449 dw_450 dw_451 (by decide) (by decide) (by decide) (by decide) ?_
  refine law_ld (j := 2) (L := 5) hx hb hX hbl hbA hW2.2.2.2.1 (lv_at hl 3 rfl) (lv_at hl 0 rfl) (v := 2) dw_452 dw_453 dw_454 dw_455 dw_456 (by decide) (by decide) (by decide) (by decide) ?_
  refine law_ld (j := 3) (L := 5) hx hb hX hbl hbA hW2.2.2.2.1 (lv_at hl 3 rfl) (lv_at hl 0 rfl) (v := 3) dw_457 dw_458 dw_459 dw_460 dw_461 (by decide) (by decide) (by decide) (by decide) ?_
  refine law_M (vs := [xs 1, xs 2, xs 3]) (rest := [.int (a_i32 n)]) kcf_170 (Nat.le_of_ble_eq_true rfl) rfl rfl rfl kw_865 kw_866 kw_867 dw_462 hC hW2 hq hSM hl.1 (Nat.le_of_ble_eq_true rfl) (by decide) (by decide) (fun H2 locs2 hS2 => ?_)
  refine lv_icmp_eq (tgt := 965) hx hb dw_465 (by decide) (fun _ => law_end C0 hS2 hl) (fun h => absurd rfl h)
set_option maxRecDepth 20000 in
set_option maxHeartbeats 2000000 in
theorem law_10 {p : Program} {e : Env} {s : State} {m : MethodId} {below : List Frame} {meth : Method} {c : Code} {l : Launch} {b q1 q2 n : Nat} {xs : Nat → Int32} {z : Int32} (C0 : lw_At p s m meth c b 5 xs) (hz : z = if xs 2 = 0 then 0 else 1) {gv : Nat → Int32} {cA : Nat → ClassId} {D : va_G} {ws : va_W} {H : Heap} {locs : List Loc} {ls : Array Slot} (hSX : SideX kM_117 [] gv [xs 1, z, xs 3] n) (hSM : SideM kM_173 [none, none, none, none] gv [xs 1, z, xs 3] n) (hW : WD gv cA D (fun q : Nat => s.heap.size ≤ q) s k_HJ ws H locs) (hq1 : (adr ws)[0]? = some q1) (hq2 : (adr ws)[105]? = some q2) (hl : lv_has ls 4 [(3, .int 0), (2, .ref q2), (1, .ref q1), (0, .ref b)]) : W p l e room_1 s m #[Value.ref b] below meth c H locs 140 3200385 (lw_Z below #[Value.ref b] s) (F0 m 470 ls []) := by
  obtain ⟨hx, hb, hr, hml, hown, hts, hX, hbl, hlocks, hgv⟩ := id C0
  have hC := CX_law C0
  have hbA : ¬ (fun q : Nat => s.heap.size ≤ q) b := Nat.not_le.mpr hbl
  refine lv_aload_n hx hb dw_470 rfl (lv_at hl 2 rfl) ?_
  refine law_ld (j := 1) (L := 5) hx hb hX hbl hbA hW.2.2.2.1 (lv_at hl 3 rfl) (lv_at hl 0 rfl) (v := 1) dw_471 dw_472 dw_473 dw_474 dw_475 (by decide) (by decide) (by decide) (by decide) ?_
  refine law_ld (j := 2) (L := 5) hx hb hX hbl hbA hW.2.2.2.1 (lv_at hl 3 rfl) (lv_at hl 0 rfl) (v := 2) dw_476 dw_477 dw_478 dw_479 dw_480 (by decide) (by decide) (by decide) (by decide) ?_
  refine law_nz (z := z) hx hb hz dw_481 (by decide) dw_484 dw_485 (by decide) dw_488 ?_
  refine law_ld (j := 3) (L := 5) hx hb hX hbl hbA hW.2.2.2.1 (lv_at hl 3 rfl) (lv_at hl 0 rfl) (v := 3) dw_489 dw_490 dw_491 dw_492 dw_493 (by decide) (by decide) (by decide) (by decide) ?_
  refine law_X (vs := [xs 1, z, xs 3]) (rest := []) kcf_117 (Nat.le_of_ble_eq_true rfl) rfl rfl rfl kw_868 kw_869 kw_870 dw_494 hC hW hq1 hq2 hSX hl.1 (Nat.le_of_ble_eq_true rfl) (by decide) (by decide) (fun ws2 H1 locs1 hW2 hq => ?_)
  refine lv_aload_n hx hb dw_497 rfl (lv_at hl 1 rfl) ?_
  refine law_ld (j := 1) (L := 5) hx hb hX hbl hbA hW2.2.2.2.1 (lv_at hl 3 rfl) (lv_at hl 0 rfl) (v := 1) dw_498 dw_499 dw_500 dw_501 dw_502 (by decide) (by decide) (by decide) (by decide) ?_
  refine law_ld (j := 2) (L := 5) hx hb hX hbl hbA hW2.2.2.2.1 (lv_at hl 3 rfl) (lv_at hl 0 rfl) (v := 2) dw_503 dw_504 dw_505 dw_506 dw_507 (by decide) (by decide) (by decide) (by decide) ?_
  refine law_nz (z := z) hx hb hz dw_508 (by decide) dw_511 dw_512 (by decide) dw_515 ?_
  refine law_ld (j := 3) (L := 5) hx hb hX hbl hbA hW2.2.2.2.1 (lv_at hl 3 rfl) (lv_at hl 0 rfl) (v := 3) dw_516 dw_517 dw_518 dw_519 dw_520 (by decide) (by decide) (by decide) (by decide) ?_
  refine law_M (vs := [xs 1, z, xs 3]) (rest := [.int (a_i32 n)]) kcf_173 (Nat.le_of_ble_eq_true rfl) rfl rfl rfl kw_871 kw_872 kw_873 dw_521 hC hW2 hq hSM hl.1 (Nat.le_of_ble_eq_true rfl) (by decide) (by decide) (fun H2 locs2 hS2 => ?_)
  refine lv_icmp_eq (tgt := 965) hx hb dw_524 (by decide) (fun _ => law_end C0 hS2 hl) (fun h => absurd rfl h)
