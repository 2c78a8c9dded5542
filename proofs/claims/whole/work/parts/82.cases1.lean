section LC
variable {p : Program} {e : Env} {s : State} {m : MethodId} {below : List Frame} {meth : Method} {c : Code} {Q : State → Prop} {D : va_G} {cI cZ cQ : ClassId} {b0 L k9 : Nat} {xs : Nat → Int32}
variable {H : Heap} {locs : List Loc} {ls : Array Slot} {N : Nat → Nat → Nat} {S : Nat → Nat → Int32} {w : mm_M} {sz : Nat}
set_option maxHeartbeats 4000000 in
set_option maxRecDepth 100000 in
theorem lc_name (l : Launch) (C : lw_C p s m c D cI cZ cQ b0 L xs) (hk : 6 * k9 + 6 ≤ L) (hP : mm_P s.heap.size D kc w H) (hz : H.size = sz) (hS : mm_S s.heap.size s.heap H locs) (hJ : lw_J s.heap.size cI cZ cQ k9 sz N S w) (hl : lv_has ls 4 [(3, .int (nI (6 * k9))), (2, .ref (s.heap.size + 14)), (1, .ref s.heap.size), (0, .ref b0)])
    (kk : ∀ (N1 : Nat → Nat → Nat) (S1 : Nat → Nat → Int32) (w1 : mm_M) (sz1 : Nat) (H1 : Heap) (locs1 : List Loc), mm_P s.heap.size D kc w1 H1 → H1.size = sz1 → mm_S s.heap.size s.heap H1 locs1 → lw_J s.heap.size cI cZ cQ (k9 + 1) sz1 N1 S1 w1 → W p l e room_1 s m #[Value.ref b0] below meth c H1 locs1 (31 + 5 * (k9 + 1)) (1015 + 17 * (k9 + 1)) Q (F0 m 740 ls [])) : W p l e room_1 s m #[Value.ref b0] below meth c H locs (31 + 5 * k9) (1015 + 17 * k9) Q (F0 m 120 ls []) := by
  obtain ⟨hx, hb, hml, hown, hts, hK, hX, hbl, hL⟩ := C
  obtain ⟨hXI, hM1, hsz, hG⟩ := hJ
  have hG9 := hG
  obtain ⟨hR, hCh, h7, hn, hu⟩ := hG9
  have hX9 := hXI
  obtain ⟨T0, U0, ad0, hx0, -, -⟩ := hX9
  refine lv_aload_n hx hb d_Law_law_120 rfl (lv_at hl 2 rfl) ?_
  refine lw_rd hx hb hX hbl hL hk hS hl 1 (by decide) (by decide) d_Law_law_121 d_Law_law_122 d_Law_law_123 d_Law_law_124 d_Law_law_125 ?_
  refine lw_rd hx hb hX hbl hL hk hS hl 2 (by decide) (by decide) d_Law_law_126 d_Law_law_127 d_Law_law_128 d_Law_law_129 d_Law_law_130 ?_
  refine lw_rd hx hb hX hbl hL hk hS hl 3 (by decide) (by decide) d_Law_law_131 d_Law_law_132 d_Law_law_133 d_Law_law_134 d_Law_law_135 ?_
  refine lw_rd hx hb hX hbl hL hk hS hl 4 (by decide) (by decide) d_Law_law_136 d_Law_law_137 d_Law_law_138 d_Law_law_139 d_Law_law_140 ?_
  refine lw_rd hx hb hX hbl hL hk hS hl 5 (by decide) (by decide) d_Law_law_141 d_Law_law_142 d_Law_law_143 d_Law_law_144 d_Law_law_145 ?_
  refine kk_calli (va_runV (As := [.int (xs (6 * k9 + 1)), .int (xs (6 * k9 + 2)), .int (xs (6 * k9 + 3)), .int (xs (6 * k9 + 4)), .int (xs (6 * k9 + 5))]) (rest := []) ⟨hx, hb, hml, hown, hts⟩ (c_X_name l hXI hR hCh hsz) (cwV 5 hts (gW_in (hd := [_, _, _, _, _]) (kk_5 wd_145 wd_146 wd_147 wd_1 cw_X_name)) rfl rfl rfl ⟨rfl, ds_X_name⟩ ⟨Nat.le_of_ble_eq_true rfl, Nat.le_of_ble_eq_true rfl⟩) (kk_preV hK hP hz (by omega) hx0.2.1 rfl) rfl rfl hl.1 rfl (lv_room (Nat.le_of_ble_eq_true rfl)) d_Law_law_146 ⟨show 31 + 5 * k9 + 2 ≤ 763340 by omega, show 1015 + 17 * k9 + 7 ≤ 6812228 by omega⟩) hS (fun r1 w1 sz1 H locs hp1 hP hz hS => ?_)
  obtain ⟨hr1, hX1, hk1, hs1⟩ := hp1
  have hM1 := hM1.keep hk1
  have hsz1 : s.heap.size + 31 ≤ sz1 := by rw [hs1]; split <;> omega
  refine lv_aload_n hx hb d_Law_law_149 rfl (lv_at hl 1 rfl) ?_
  refine lw_rd hx hb hX hbl hL hk hS hl 1 (by decide) (by decide) d_Law_law_150 d_Law_law_151 d_Law_law_152 d_Law_law_153 d_Law_law_154 ?_
  refine lw_rd hx hb hX hbl hL hk hS hl 2 (by decide) (by decide) d_Law_law_155 d_Law_law_156 d_Law_law_157 d_Law_law_158 d_Law_law_159 ?_
  refine lw_rd hx hb hX hbl hL hk hS hl 3 (by decide) (by decide) d_Law_law_160 d_Law_law_161 d_Law_law_162 d_Law_law_163 d_Law_law_164 ?_
  refine lw_rd hx hb hX hbl hL hk hS hl 4 (by decide) (by decide) d_Law_law_165 d_Law_law_166 d_Law_law_167 d_Law_law_168 d_Law_law_169 ?_
  refine lw_rd hx hb hX hbl hL hk hS hl 5 (by decide) (by decide) d_Law_law_170 d_Law_law_171 d_Law_law_172 d_Law_law_173 d_Law_law_174 ?_
  refine kk_calli (va_runV (As := [.int (xs (6 * k9 + 1)), .int (xs (6 * k9 + 2)), .int (xs (6 * k9 + 3)), .int (xs (6 * k9 + 4)), .int (xs (6 * k9 + 5))]) (rest := [.int r1]) ⟨hx, hb, hml, hown, hts⟩ (c_Mod_name l hM1 hn) (cwV 5 hts (gW_in (hd := [_, _, _, _, _]) (kk_5 wd_573 wd_574 wd_575 wd_8 cw_Mod_name)) rfl rfl rfl ⟨rfl, ds_Mod_name⟩ ⟨Nat.le_of_ble_eq_true rfl, Nat.le_of_ble_eq_true rfl⟩) (kk_preV hK hP hz (by omega) hM1.1 rfl) rfl rfl hl.1 rfl (lv_room (Nat.le_of_ble_eq_true rfl)) d_Law_law_175 ⟨show 31 + 5 * k9 + 2 + 0 ≤ 763340 by omega, show 1015 + 17 * k9 + 7 + 0 ≤ 6812228 by omega⟩) hS (fun r2 w2 sz2 H2 locs2 hp2 hP2 hz2 hS2 => ?_)
  obtain ⟨hr2, hM2, hk2, hs2⟩ := hp2
  refine lv_icmp_eq (tgt := 740) hx hb d_Law_law_178 (by decide) (fun _ => ?_) (fun h9 => absurd (hr1.trans hr2.symm) h9)
  refine W.widen (k := 31 + 5 * (k9 + 1)) (n := 1015 + 17 * (k9 + 1)) (by omega) (by omega) ?_
  subst hs2
  exact kk (na_N N (xs (6 * k9 + 1)) (xs (6 * k9 + 2)) (xs (6 * k9 + 3))) (na_S N S (xs (6 * k9 + 1)) (xs (6 * k9 + 2)) (xs (6 * k9 + 3)) (xs (6 * k9 + 4)) (xs (6 * k9 + 5))) w2 _ H2 locs2 hP2 hz2 hS2 ⟨xs_keep hX1 hk2, hM2, hsz1, hG.na _ _ _⟩
set_option maxHeartbeats 4000000 in
set_option maxRecDepth 100000 in
theorem lc_permit (l : Launch) (C : lw_C p s m c D cI cZ cQ b0 L xs) (hk : 6 * k9 + 6 ≤ L) (hP : mm_P s.heap.size D kc w H) (hz : H.size = sz) (hS : mm_S s.heap.size s.heap H locs) (hJ : lw_J s.heap.size cI cZ cQ k9 sz N S w) (hl : lv_has ls 4 [(3, .int (nI (6 * k9))), (2, .ref (s.heap.size + 14)), (1, .ref s.heap.size), (0, .ref b0)])
    (kk : ∀ (N1 : Nat → Nat → Nat) (S1 : Nat → Nat → Int32) (w1 : mm_M) (sz1 : Nat) (H1 : Heap) (locs1 : List Loc), mm_P s.heap.size D kc w1 H1 → H1.size = sz1 → mm_S s.heap.size s.heap H1 locs1 → lw_J s.heap.size cI cZ cQ (k9 + 1) sz1 N1 S1 w1 → W p l e room_1 s m #[Value.ref b0] below meth c H1 locs1 (31 + 5 * (k9 + 1)) (1015 + 17 * (k9 + 1)) Q (F0 m 740 ls [])) : W p l e room_1 s m #[Value.ref b0] below meth c H locs (31 + 5 * k9) (1015 + 17 * k9) Q (F0 m 183 ls []) := by
  obtain ⟨hx, hb, hml, hown, hts, hK, hX, hbl, hL⟩ := C
  obtain ⟨hXI, hM1, hsz, hG⟩ := hJ
  have hG9 := hG
  obtain ⟨hR, hCh, h7, hn, hu⟩ := hG9
  have hX9 := hXI
  obtain ⟨T0, U0, ad0, hx0, -, -⟩ := hX9
  refine lv_aload_n hx hb d_Law_law_183 rfl (lv_at hl 2 rfl) ?_
  refine lw_rd hx hb hX hbl hL hk hS hl 1 (by decide) (by decide) d_Law_law_184 d_Law_law_185 d_Law_law_186 d_Law_law_187 d_Law_law_188 ?_
  refine lw_rd hx hb hX hbl hL hk hS hl 2 (by decide) (by decide) d_Law_law_189 d_Law_law_190 d_Law_law_191 d_Law_law_192 d_Law_law_193 ?_
  refine lw_rd hx hb hX hbl hL hk hS hl 3 (by decide) (by decide) d_Law_law_194 d_Law_law_195 d_Law_law_196 d_Law_law_197 d_Law_law_198 ?_
  refine lw_bo hx hb d_Law_law_199 d_Law_law_202 d_Law_law_203 d_Law_law_206 ?_
  refine lw_rd hx hb hX hbl hL hk hS hl 4 (by decide) (by decide) d_Law_law_207 d_Law_law_208 d_Law_law_209 d_Law_law_210 d_Law_law_211 ?_
  refine lw_rd hx hb hX hbl hL hk hS hl 5 (by decide) (by decide) d_Law_law_212 d_Law_law_213 d_Law_law_214 d_Law_law_215 d_Law_law_216 ?_
  have hdl : (if xs (6 * k9 + 3) = 0 then 0 else 1) ≤ 1 := by split <;> omega
  refine kk_calli (va_runV (As := [.int (xs (6 * k9 + 1)), .int (xs (6 * k9 + 2)), .int (nI (if xs (6 * k9 + 3) = 0 then 0 else 1)), .int (xs (6 * k9 + 4)), .int (xs (6 * k9 + 5))]) (rest := []) ⟨hx, hb, hml, hown, hts⟩ (c_X_permit l hXI hR hCh hsz hdl h7) (cwV 5 hts (gW_in (hd := [_, _, _, _, _]) (kk_5 wd_216 wd_217 wd_218 wd_1 cw_X_permit)) rfl rfl rfl ⟨rfl, ds_X_permit⟩ ⟨Nat.le_of_ble_eq_true rfl, Nat.le_of_ble_eq_true rfl⟩) (kk_preV hK hP hz (by omega) hx0.2.1 rfl) rfl rfl hl.1 rfl (lv_room (Nat.le_of_ble_eq_true rfl)) d_Law_law_217 ⟨show 31 + 5 * k9 + 5 ≤ 763340 by omega, show 1015 + 17 * k9 + 17 ≤ 6812228 by omega⟩) hS (fun r1 w1 sz1 H locs hp1 hP hz hS => ?_)
  obtain ⟨hr1, hX1, hk1, hs1⟩ := hp1
  have hM1 := hM1.keep hk1
  have hsz1 : s.heap.size + 31 ≤ sz1 := by rw [hs1]; split <;> omega
  refine lv_aload_n hx hb d_Law_law_220 rfl (lv_at hl 1 rfl) ?_
  refine lw_rd hx hb hX hbl hL hk hS hl 1 (by decide) (by decide) d_Law_law_221 d_Law_law_222 d_Law_law_223 d_Law_law_224 d_Law_law_225 ?_
  refine lw_rd hx hb hX hbl hL hk hS hl 2 (by decide) (by decide) d_Law_law_226 d_Law_law_227 d_Law_law_228 d_Law_law_229 d_Law_law_230 ?_
  refine lw_rd hx hb hX hbl hL hk hS hl 3 (by decide) (by decide) d_Law_law_231 d_Law_law_232 d_Law_law_233 d_Law_law_234 d_Law_law_235 ?_
  refine lw_bo hx hb d_Law_law_236 d_Law_law_239 d_Law_law_240 d_Law_law_243 ?_
  refine lw_rd hx hb hX hbl hL hk hS hl 4 (by decide) (by decide) d_Law_law_244 d_Law_law_245 d_Law_law_246 d_Law_law_247 d_Law_law_248 ?_
  refine lw_rd hx hb hX hbl hL hk hS hl 5 (by decide) (by decide) d_Law_law_249 d_Law_law_250 d_Law_law_251 d_Law_law_252 d_Law_law_253 ?_
  refine kk_calli (va_runV (As := [.int (xs (6 * k9 + 1)), .int (xs (6 * k9 + 2)), .int (nI (if xs (6 * k9 + 3) = 0 then 0 else 1)), .int (xs (6 * k9 + 4)), .int (xs (6 * k9 + 5))]) (rest := [.int r1]) ⟨hx, hb, hml, hown, hts⟩ (c_Mod_permit l hM1 hn hdl) (cwV 5 hts (gW_in (hd := [_, _, _, _, _]) (kk_5 wd_589 wd_590 wd_591 wd_8 cw_Mod_permit)) rfl rfl rfl ⟨rfl, ds_Mod_permit⟩ ⟨Nat.le_of_ble_eq_true rfl, Nat.le_of_ble_eq_true rfl⟩) (kk_preV hK hP hz (by omega) hM1.1 rfl) rfl rfl hl.1 rfl (lv_room (Nat.le_of_ble_eq_true rfl)) d_Law_law_254 ⟨show 31 + 5 * k9 + 5 + 0 ≤ 763340 by omega, show 1015 + 17 * k9 + 17 + 0 ≤ 6812228 by omega⟩) hS (fun r2 w2 sz2 H2 locs2 hp2 hP2 hz2 hS2 => ?_)
  obtain ⟨hr2, hM2, hk2, hs2⟩ := hp2
  refine lv_icmp_eq (tgt := 740) hx hb d_Law_law_257 (by decide) (fun _ => ?_) (fun h9 => absurd (hr1.trans hr2.symm) h9)
  refine W.widen (k := 31 + 5 * (k9 + 1)) (n := 1015 + 17 * (k9 + 1)) (by omega) (by omega) ?_
  subst hs2
  exact kk (pe_N N (xs (6 * k9 + 1)) (xs (6 * k9 + 2)) (nI (if xs (6 * k9 + 3) = 0 then 0 else 1))) (pe_S N S (xs (6 * k9 + 1)) (xs (6 * k9 + 2)) (xs (6 * k9 + 4)) (xs (6 * k9 + 5))) w2 _ H2 locs2 hP2 hz2 hS2 ⟨xs_keep hX1 hk2, hM2, hsz1, hG.pe _ _ hdl⟩
set_option maxHeartbeats 4000000 in
set_option maxRecDepth 100000 in
theorem lc_tag (l : Launch) (C : lw_C p s m c D cI cZ cQ b0 L xs) (hk : 6 * k9 + 6 ≤ L) (hP : mm_P s.heap.size D kc w H) (hz : H.size = sz) (hS : mm_S s.heap.size s.heap H locs) (hJ : lw_J s.heap.size cI cZ cQ k9 sz N S w) (hl : lv_has ls 4 [(3, .int (nI (6 * k9))), (2, .ref (s.heap.size + 14)), (1, .ref s.heap.size), (0, .ref b0)])
    (kk : ∀ (N1 : Nat → Nat → Nat) (S1 : Nat → Nat → Int32) (w1 : mm_M) (sz1 : Nat) (H1 : Heap) (locs1 : List Loc), mm_P s.heap.size D kc w1 H1 → H1.size = sz1 → mm_S s.heap.size s.heap H1 locs1 → lw_J s.heap.size cI cZ cQ (k9 + 1) sz1 N1 S1 w1 → W p l e room_1 s m #[Value.ref b0] below meth c H1 locs1 (31 + 5 * (k9 + 1)) (1015 + 17 * (k9 + 1)) Q (F0 m 740 ls [])) : W p l e room_1 s m #[Value.ref b0] below meth c H locs (31 + 5 * k9) (1015 + 17 * k9) Q (F0 m 262 ls []) := by
  obtain ⟨hx, hb, hml, hown, hts, hK, hX, hbl, hL⟩ := C
  obtain ⟨hXI, hM1, hsz, hG⟩ := hJ
  have hG9 := hG
  obtain ⟨hR, hCh, h7, hn, hu⟩ := hG9
  have hX9 := hXI
  obtain ⟨T0, U0, ad0, hx0, -, -⟩ := hX9
  refine lv_aload_n hx hb d_Law_law_262 rfl (lv_at hl 2 rfl) ?_
  refine lw_rd hx hb hX hbl hL hk hS hl 1 (by decide) (by decide) d_Law_law_263 d_Law_law_264 d_Law_law_265 d_Law_law_266 d_Law_law_267 ?_
  refine lw_rd hx hb hX hbl hL hk hS hl 2 (by decide) (by decide) d_Law_law_268 d_Law_law_269 d_Law_law_270 d_Law_law_271 d_Law_law_272 ?_
  refine lw_rd hx hb hX hbl hL hk hS hl 3 (by decide) (by decide) d_Law_law_273 d_Law_law_274 d_Law_law_275 d_Law_law_276 d_Law_law_277 ?_
  refine lw_rd hx hb hX hbl hL hk hS hl 4 (by decide) (by decide) d_Law_law_278 d_Law_law_279 d_Law_law_280 d_Law_law_281 d_Law_law_282 ?_
  refine kk_calli (va_runV (As := [.int (xs (6 * k9 + 1)), .int (xs (6 * k9 + 2)), .int (xs (6 * k9 + 3)), .int (xs (6 * k9 + 4))]) (rest := []) ⟨hx, hb, hml, hown, hts⟩ (c_X_tag l hXI hR hCh) (cwV 4 hts (gW_in (hd := [_, _, _, _, _]) (kk_5 wd_259 wd_260 wd_261 wd_1 cw_X_tag)) rfl rfl rfl ⟨rfl, ds_X_tag⟩ ⟨Nat.le_of_ble_eq_true rfl, Nat.le_of_ble_eq_true rfl⟩) (kk_preV hK hP hz (by omega) hx0.2.1 rfl) rfl rfl hl.1 rfl (lv_room (Nat.le_of_ble_eq_true rfl)) d_Law_law_283 ⟨show 31 + 5 * k9 + 0 ≤ 763340 by omega, show 1015 + 17 * k9 + 0 ≤ 6812228 by omega⟩) hS (fun r1 w1 sz1 H locs hp1 hP hz hS => ?_)
  obtain ⟨hr1, hX1, hk1, hs1⟩ := hp1
  have hM1 := hM1.keep hk1
  have hsz1 : s.heap.size + 31 ≤ sz1 := by omega
  refine lv_aload_n hx hb d_Law_law_286 rfl (lv_at hl 1 rfl) ?_
  refine lw_rd hx hb hX hbl hL hk hS hl 1 (by decide) (by decide) d_Law_law_287 d_Law_law_288 d_Law_law_289 d_Law_law_290 d_Law_law_291 ?_
  refine lw_rd hx hb hX hbl hL hk hS hl 2 (by decide) (by decide) d_Law_law_292 d_Law_law_293 d_Law_law_294 d_Law_law_295 d_Law_law_296 ?_
  refine lw_rd hx hb hX hbl hL hk hS hl 3 (by decide) (by decide) d_Law_law_297 d_Law_law_298 d_Law_law_299 d_Law_law_300 d_Law_law_301 ?_
  refine lw_rd hx hb hX hbl hL hk hS hl 4 (by decide) (by decide) d_Law_law_302 d_Law_law_303 d_Law_law_304 d_Law_law_305 d_Law_law_306 ?_
  refine kk_calli (va_runV (As := [.int (xs (6 * k9 + 1)), .int (xs (6 * k9 + 2)), .int (xs (6 * k9 + 3)), .int (xs (6 * k9 + 4))]) (rest := [.int r1]) ⟨hx, hb, hml, hown, hts⟩ (c_Mod_tag l hM1 hn hR) (cwV 4 hts (gW_in (hd := [_, _, _, _, _]) (kk_5 wd_593 wd_594 wd_595 wd_8 cw_Mod_tag)) rfl rfl rfl ⟨rfl, ds_Mod_tag⟩ ⟨Nat.le_of_ble_eq_true rfl, Nat.le_of_ble_eq_true rfl⟩) (kk_preV hK hP hz (by omega) hM1.1 rfl) rfl rfl hl.1 rfl (lv_room (Nat.le_of_ble_eq_true rfl)) d_Law_law_307 ⟨show 31 + 5 * k9 + 0 + 0 ≤ 763340 by omega, show 1015 + 17 * k9 + 0 + 0 ≤ 6812228 by omega⟩) hS (fun r2 w2 sz2 H2 locs2 hp2 hP2 hz2 hS2 => ?_)
  obtain ⟨hr2, hM2, hk2, hs2⟩ := hp2
  refine lv_icmp_eq (tgt := 740) hx hb d_Law_law_310 (by decide) (fun _ => ?_) (fun h9 => absurd (hr1.trans hr2.symm) h9)
  refine W.widen (k := 31 + 5 * (k9 + 1)) (n := 1015 + 17 * (k9 + 1)) (by omega) (by omega) ?_
  subst hs2
  exact kk (tg_N N (xs (6 * k9 + 1)) (xs (6 * k9 + 2)) (xs (6 * k9 + 3)) (xs (6 * k9 + 4))) (tg_S N S (xs (6 * k9 + 1)) (xs (6 * k9 + 2)) (xs (6 * k9 + 3)) (xs (6 * k9 + 4))) w2 _ H2 locs2 hP2 hz2 hS2 ⟨xs_keep hX1 hk2, hM2, hsz1, hG.tg _ _ _ _⟩
set_option maxHeartbeats 4000000 in
set_option maxRecDepth 100000 in
theorem lc_also (l : Launch) (C : lw_C p s m c D cI cZ cQ b0 L xs) (hk : 6 * k9 + 6 ≤ L) (hP : mm_P s.heap.size D kc w H) (hz : H.size = sz) (hS : mm_S s.heap.size s.heap H locs) (hJ : lw_J s.heap.size cI cZ cQ k9 sz N S w) (hl : lv_has ls 4 [(3, .int (nI (6 * k9))), (2, .ref (s.heap.size + 14)), (1, .ref s.heap.size), (0, .ref b0)])
    (kk : ∀ (N1 : Nat → Nat → Nat) (S1 : Nat → Nat → Int32) (w1 : mm_M) (sz1 : Nat) (H1 : Heap) (locs1 : List Loc), mm_P s.heap.size D kc w1 H1 → H1.size = sz1 → mm_S s.heap.size s.heap H1 locs1 → lw_J s.heap.size cI cZ cQ (k9 + 1) sz1 N1 S1 w1 → W p l e room_1 s m #[Value.ref b0] below meth c H1 locs1 (31 + 5 * (k9 + 1)) (1015 + 17 * (k9 + 1)) Q (F0 m 740 ls [])) : W p l e room_1 s m #[Value.ref b0] below meth c H locs (31 + 5 * k9) (1015 + 17 * k9) Q (F0 m 315 ls []) := by
  obtain ⟨hx, hb, hml, hown, hts, hK, hX, hbl, hL⟩ := C
  obtain ⟨hXI, hM1, hsz, hG⟩ := hJ
  have hG9 := hG
  obtain ⟨hR, hCh, h7, hn, hu⟩ := hG9
  have hX9 := hXI
  obtain ⟨T0, U0, ad0, hx0, -, -⟩ := hX9
  refine lv_aload_n hx hb d_Law_law_315 rfl (lv_at hl 2 rfl) ?_
  refine lw_rd hx hb hX hbl hL hk hS hl 1 (by decide) (by decide) d_Law_law_316 d_Law_law_317 d_Law_law_318 d_Law_law_319 d_Law_law_320 ?_
  refine lw_rd hx hb hX hbl hL hk hS hl 2 (by decide) (by decide) d_Law_law_321 d_Law_law_322 d_Law_law_323 d_Law_law_324 d_Law_law_325 ?_
  refine kk_calli (va_runV (As := [.int (xs (6 * k9 + 1)), .int (xs (6 * k9 + 2))]) (rest := []) ⟨hx, hb, hml, hown, hts⟩ (c_X_also l hXI hR hCh) (cwV 2 hts (gW_in (hd := [_, _, _, _, _]) (kk_5 wd_280 wd_281 wd_282 wd_1 cw_X_also)) rfl rfl rfl ⟨rfl, ds_X_also⟩ ⟨Nat.le_of_ble_eq_true rfl, Nat.le_of_ble_eq_true rfl⟩) (kk_preV hK hP hz (by omega) hx0.2.1 rfl) rfl rfl hl.1 rfl (lv_room (Nat.le_of_ble_eq_true rfl)) d_Law_law_326 ⟨show 31 + 5 * k9 + 0 ≤ 763340 by omega, show 1015 + 17 * k9 + 0 ≤ 6812228 by omega⟩) hS (fun r1 w1 sz1 H locs hp1 hP hz hS => ?_)
  obtain ⟨hr1, hX1, hk1, hs1⟩ := hp1
  have hM1 := hM1.keep hk1
  have hsz1 : s.heap.size + 31 ≤ sz1 := by omega
  refine lv_aload_n hx hb d_Law_law_329 rfl (lv_at hl 1 rfl) ?_
  refine lw_rd hx hb hX hbl hL hk hS hl 1 (by decide) (by decide) d_Law_law_330 d_Law_law_331 d_Law_law_332 d_Law_law_333 d_Law_law_334 ?_
  refine lw_rd hx hb hX hbl hL hk hS hl 2 (by decide) (by decide) d_Law_law_335 d_Law_law_336 d_Law_law_337 d_Law_law_338 d_Law_law_339 ?_
  refine kk_calli (va_runV (As := [.int (xs (6 * k9 + 1)), .int (xs (6 * k9 + 2))]) (rest := [.int r1]) ⟨hx, hb, hml, hown, hts⟩ (c_Mod_also l hM1 hn hR) (cwV 2 hts (gW_in (hd := [_, _, _, _, _]) (kk_5 wd_605 wd_606 wd_607 wd_8 cw_Mod_also)) rfl rfl rfl ⟨rfl, ds_Mod_also⟩ ⟨Nat.le_of_ble_eq_true rfl, Nat.le_of_ble_eq_true rfl⟩) (kk_preV hK hP hz (by omega) hM1.1 rfl) rfl rfl hl.1 rfl (lv_room (Nat.le_of_ble_eq_true rfl)) d_Law_law_340 ⟨show 31 + 5 * k9 + 0 + 0 ≤ 763340 by omega, show 1015 + 17 * k9 + 0 + 0 ≤ 6812228 by omega⟩) hS (fun r2 w2 sz2 H2 locs2 hp2 hP2 hz2 hS2 => ?_)
  obtain ⟨hr2, hM2, hk2, hs2⟩ := hp2
  refine lv_icmp_eq (tgt := 740) hx hb d_Law_law_343 (by decide) (fun _ => ?_) (fun h9 => absurd (hr1.trans hr2.symm) h9)
  refine W.widen (k := 31 + 5 * (k9 + 1)) (n := 1015 + 17 * (k9 + 1)) (by omega) (by omega) ?_
  subst hs2
  exact kk (al_N N (xs (6 * k9 + 1)) (xs (6 * k9 + 2))) (S) w2 _ H2 locs2 hP2 hz2 hS2 ⟨xs_keep hX1 hk2, hM2, hsz1, hG.al _ _⟩
set_option maxHeartbeats 4000000 in
set_option maxRecDepth 100000 in
theorem lc_quorum (l : Launch) (C : lw_C p s m c D cI cZ cQ b0 L xs) (hk : 6 * k9 + 6 ≤ L) (hP : mm_P s.heap.size D kc w H) (hz : H.size = sz) (hS : mm_S s.heap.size s.heap H locs) (hJ : lw_J s.heap.size cI cZ cQ k9 sz N S w) (hl : lv_has ls 4 [(3, .int (nI (6 * k9))), (2, .ref (s.heap.size + 14)), (1, .ref s.heap.size), (0, .ref b0)])
    (kk : ∀ (N1 : Nat → Nat → Nat) (S1 : Nat → Nat → Int32) (w1 : mm_M) (sz1 : Nat) (H1 : Heap) (locs1 : List Loc), mm_P s.heap.size D kc w1 H1 → H1.size = sz1 → mm_S s.heap.size s.heap H1 locs1 → lw_J s.heap.size cI cZ cQ (k9 + 1) sz1 N1 S1 w1 → W p l e room_1 s m #[Value.ref b0] below meth c H1 locs1 (31 + 5 * (k9 + 1)) (1015 + 17 * (k9 + 1)) Q (F0 m 740 ls [])) : W p l e room_1 s m #[Value.ref b0] below meth c H locs (31 + 5 * k9) (1015 + 17 * k9) Q (F0 m 348 ls []) := by
  obtain ⟨hx, hb, hml, hown, hts, hK, hX, hbl, hL⟩ := C
  obtain ⟨hXI, hM1, hsz, hG⟩ := hJ
  have hG9 := hG
  obtain ⟨hR, hCh, h7, hn, hu⟩ := hG9
  have hX9 := hXI
  obtain ⟨T0, U0, ad0, hx0, -, -⟩ := hX9
  refine lv_aload_n hx hb d_Law_law_348 rfl (lv_at hl 2 rfl) ?_
  refine lw_rd hx hb hX hbl hL hk hS hl 1 (by decide) (by decide) d_Law_law_349 d_Law_law_350 d_Law_law_351 d_Law_law_352 d_Law_law_353 ?_
  refine lw_rd hx hb hX hbl hL hk hS hl 2 (by decide) (by decide) d_Law_law_354 d_Law_law_355 d_Law_law_356 d_Law_law_357 d_Law_law_358 ?_
  refine kk_calli (va_runV (As := [.int (xs (6 * k9 + 1)), .int (xs (6 * k9 + 2))]) (rest := []) ⟨hx, hb, hml, hown, hts⟩ (c_X_quorum l hXI hR hCh) (cwV 2 hts (gW_in (hd := [_, _, _, _, _]) (kk_5 wd_288 wd_289 wd_290 wd_1 cw_X_quorum)) rfl rfl rfl ⟨rfl, ds_X_quorum⟩ ⟨Nat.le_of_ble_eq_true rfl, Nat.le_of_ble_eq_true rfl⟩) (kk_preV hK hP hz (by omega) hx0.2.1 rfl) rfl rfl hl.1 rfl (lv_room (Nat.le_of_ble_eq_true rfl)) d_Law_law_359 ⟨show 31 + 5 * k9 + 0 ≤ 763340 by omega, show 1015 + 17 * k9 + 0 ≤ 6812228 by omega⟩) hS (fun r1 w1 sz1 H locs hp1 hP hz hS => ?_)
  obtain ⟨hr1, hX1, hk1, hs1⟩ := hp1
  have hM1 := hM1.keep hk1
  have hsz1 : s.heap.size + 31 ≤ sz1 := by omega
  refine lv_aload_n hx hb d_Law_law_362 rfl (lv_at hl 1 rfl) ?_
  refine lw_rd hx hb hX hbl hL hk hS hl 1 (by decide) (by decide) d_Law_law_363 d_Law_law_364 d_Law_law_365 d_Law_law_366 d_Law_law_367 ?_
  refine lw_rd hx hb hX hbl hL hk hS hl 2 (by decide) (by decide) d_Law_law_368 d_Law_law_369 d_Law_law_370 d_Law_law_371 d_Law_law_372 ?_
  refine kk_calli (va_runV (As := [.int (xs (6 * k9 + 1)), .int (xs (6 * k9 + 2))]) (rest := [.int r1]) ⟨hx, hb, hml, hown, hts⟩ (c_Mod_quorum l hM1 hn hR) (cwV 2 hts (gW_in (hd := [_, _, _, _, _]) (kk_5 wd_609 wd_610 wd_611 wd_8 cw_Mod_quorum)) rfl rfl rfl ⟨rfl, ds_Mod_quorum⟩ ⟨Nat.le_of_ble_eq_true rfl, Nat.le_of_ble_eq_true rfl⟩) (kk_preV hK hP hz (by omega) hM1.1 rfl) rfl rfl hl.1 rfl (lv_room (Nat.le_of_ble_eq_true rfl)) d_Law_law_373 ⟨show 31 + 5 * k9 + 0 + 0 ≤ 763340 by omega, show 1015 + 17 * k9 + 0 + 0 ≤ 6812228 by omega⟩) hS (fun r2 w2 sz2 H2 locs2 hp2 hP2 hz2 hS2 => ?_)
  obtain ⟨hr2, hM2, hk2, hs2⟩ := hp2
  refine lv_icmp_eq (tgt := 740) hx hb d_Law_law_376 (by decide) (fun _ => ?_) (fun h9 => absurd (hr1.trans hr2.symm) h9)
  refine W.widen (k := 31 + 5 * (k9 + 1)) (n := 1015 + 17 * (k9 + 1)) (by omega) (by omega) ?_
  subst hs2
  exact kk (qu_N N (xs (6 * k9 + 1)) (xs (6 * k9 + 2))) (S) w2 _ H2 locs2 hP2 hz2 hS2 ⟨xs_keep hX1 hk2, hM2, hsz1, hG.qu _ _⟩
set_option maxHeartbeats 4000000 in
set_option maxRecDepth 100000 in
theorem lc_revoke (l : Launch) (C : lw_C p s m c D cI cZ cQ b0 L xs) (hk : 6 * k9 + 6 ≤ L) (hP : mm_P s.heap.size D kc w H) (hz : H.size = sz) (hS : mm_S s.heap.size s.heap H locs) (hJ : lw_J s.heap.size cI cZ cQ k9 sz N S w) (hl : lv_has ls 4 [(3, .int (nI (6 * k9))), (2, .ref (s.heap.size + 14)), (1, .ref s.heap.size), (0, .ref b0)])
    (kk : ∀ (N1 : Nat → Nat → Nat) (S1 : Nat → Nat → Int32) (w1 : mm_M) (sz1 : Nat) (H1 : Heap) (locs1 : List Loc), mm_P s.heap.size D kc w1 H1 → H1.size = sz1 → mm_S s.heap.size s.heap H1 locs1 → lw_J s.heap.size cI cZ cQ (k9 + 1) sz1 N1 S1 w1 → W p l e room_1 s m #[Value.ref b0] below meth c H1 locs1 (31 + 5 * (k9 + 1)) (1015 + 17 * (k9 + 1)) Q (F0 m 740 ls [])) : W p l e room_1 s m #[Value.ref b0] below meth c H locs (31 + 5 * k9) (1015 + 17 * k9) Q (F0 m 381 ls []) := by
  obtain ⟨hx, hb, hml, hown, hts, hK, hX, hbl, hL⟩ := C
  obtain ⟨hXI, hM1, hsz, hG⟩ := hJ
  have hG9 := hG
  obtain ⟨hR, hCh, h7, hn, hu⟩ := hG9
  have hX9 := hXI
  obtain ⟨T0, U0, ad0, hx0, -, -⟩ := hX9
  refine lv_aload_n hx hb d_Law_law_381 rfl (lv_at hl 2 rfl) ?_
  refine lw_rd hx hb hX hbl hL hk hS hl 1 (by decide) (by decide) d_Law_law_382 d_Law_law_383 d_Law_law_384 d_Law_law_385 d_Law_law_386 ?_
  refine kk_calli (va_runV (As := [.int (xs (6 * k9 + 1))]) (rest := []) ⟨hx, hb, hml, hown, hts⟩ (c_X_revoke l hXI hR hCh) (cwV 1 hts (gW_in (hd := [_, _, _, _, _]) (kk_5 wd_292 wd_293 wd_294 wd_1 cw_X_revoke)) rfl rfl rfl ⟨rfl, ds_X_revoke⟩ ⟨Nat.le_of_ble_eq_true rfl, Nat.le_of_ble_eq_true rfl⟩) (kk_preV hK hP hz (by omega) hx0.2.1 rfl) rfl rfl hl.1 rfl (lv_room (Nat.le_of_ble_eq_true rfl)) d_Law_law_387 ⟨show 31 + 5 * k9 + 0 ≤ 763340 by omega, show 1015 + 17 * k9 + 0 ≤ 6812228 by omega⟩) hS (fun r1 w1 sz1 H locs hp1 hP hz hS => ?_)
  obtain ⟨hr1, hX1, hk1, hs1⟩ := hp1
  have hM1 := hM1.keep hk1
  have hsz1 : s.heap.size + 31 ≤ sz1 := by omega
  refine lv_aload_n hx hb d_Law_law_390 rfl (lv_at hl 1 rfl) ?_
  refine lw_rd hx hb hX hbl hL hk hS hl 1 (by decide) (by decide) d_Law_law_391 d_Law_law_392 d_Law_law_393 d_Law_law_394 d_Law_law_395 ?_
  refine kk_calli (va_runV (As := [.int (xs (6 * k9 + 1))]) (rest := [.int r1]) ⟨hx, hb, hml, hown, hts⟩ (c_Mod_revoke l hM1 hn hR) (cwV 1 hts (gW_in (hd := [_, _, _, _, _]) (kk_5 wd_613 wd_614 wd_615 wd_8 cw_Mod_revoke)) rfl rfl rfl ⟨rfl, ds_Mod_revoke⟩ ⟨Nat.le_of_ble_eq_true rfl, Nat.le_of_ble_eq_true rfl⟩) (kk_preV hK hP hz (by omega) hM1.1 rfl) rfl rfl hl.1 rfl (lv_room (Nat.le_of_ble_eq_true rfl)) d_Law_law_396 ⟨show 31 + 5 * k9 + 0 + 0 ≤ 763340 by omega, show 1015 + 17 * k9 + 0 + 0 ≤ 6812228 by omega⟩) hS (fun r2 w2 sz2 H2 locs2 hp2 hP2 hz2 hS2 => ?_)
  obtain ⟨hr2, hM2, hk2, hs2⟩ := hp2
  refine lv_icmp_eq (tgt := 740) hx hb d_Law_law_399 (by decide) (fun _ => ?_) (fun h9 => absurd (hr1.trans hr2.symm) h9)
  refine W.widen (k := 31 + 5 * (k9 + 1)) (n := 1015 + 17 * (k9 + 1)) (by omega) (by omega) ?_
  subst hs2
  exact kk (rv_N N (xs (6 * k9 + 1))) (S) w2 _ H2 locs2 hP2 hz2 hS2 ⟨xs_keep hX1 hk2, hM2, hsz1, hG.rv _⟩
end LC
