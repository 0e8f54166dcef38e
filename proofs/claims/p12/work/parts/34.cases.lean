
set_option maxHeartbeats 4000000 in
set_option maxRecDepth 100000 in
/-- case 0: tell -/
theorem cs_tell {p : Program} {l : Launch} {e : Env} {s : State} {m : MethodId} {args : Array Value} {below : List Frame} {meth : Method} {c : Code} {D : va_G} {cA : Nat → ClassId} {o o2 qo b L : Nat} {xs : Nat → Int32} (C : LC p l s m args c D cA o o2 qo b L xs) {Q : State → Prop} {M N : wM} {fo : Nat → Int64} {H : Heap} {locs : List Loc} {cells slots : Nat} {ls : Array Slot} {ix : Nat} (hi : ix + 10 ≤ L)  (n : Nat) (hn : n ≤ 300) (en : M.2.2 1 6 = nI n) (n2 : Nat) (hn2 : n2 ≤ 300) (en2 : N.2.2 0 1 = nI n2) (hP : xP D cA o M H) (hP2 : nP D cA o2 N H) (hO : oP D cA qo fo H) (hS : va_S (fun q => o ≤ q) s.heap H locs) (hl : lv_has ls 8 [(0, .ref b), (1, .ref (o + 0)), (2, .ref (o2 + 0)), (3, .ref qo), (4, .int (nI ix))]) (hc : cells + 8 ≤ room_1.cells) (hs : slots + 48 ≤ room_1.slots) (kk : ∀ (rk : Int32) (u : wM × (Nat → Int64)) (rb : Int32) (N1 : wM) (H1 : Heap) (locs1 : List Loc) (ls1 : Array Slot), (oPost (fun r M1 => xin (xs (ix + 1)) 6 ∧ xin (xs (ix + 4)) 10 ∧ xin (xs (ix + 5)) 4 ∧ ((r = 0 ∧ M1 = M ∧ ∃ j, j < n ∧ M.2.1 3 j = (lg2 (xs (ix + 2)) (xs (ix + 3))) ∧ M.1 2 j = (xs (ix + 1))) ∨ (r = 1 ∧ n < 300 ∧ ¬ (∃ j, j < n ∧ M.2.1 3 j = (lg2 (xs (ix + 2)) (xs (ix + 3))) ∧ M.1 2 j = (xs (ix + 1))) ∧ M1 = wF (wL (wL (wI (wI (wL (wI M 2 n (xs (ix + 1))) 3 n (lg2 (xs (ix + 2)) (xs (ix + 3)))) 4 n (xs (ix + 4))) 5 n (xs (ix + 5))) 6 n (lg2 (xs (ix + 6)) (xs (ix + 7)))) 7 n (lg2 (xs (ix + 8)) (xs (ix + 9)))) 1 6 (nI (n + 1))))) (fun r : Int32 => r.toInt64) (fun E => (E = "java/lang/IndexOutOfBoundsException" ∧ (xbad (xs (ix + 1)) 6 ∨ xbad (xs (ix + 4)) 10)) ∨ (E = "java/lang/IllegalArgumentException" ∧ xin (xs (ix + 1)) 6 ∧ xin (xs (ix + 4)) 10 ∧ xbad (xs (ix + 5)) 4) ∨ (E = "java/lang/IllegalStateException" ∧ xin (xs (ix + 1)) 6 ∧ xin (xs (ix + 4)) 10 ∧ xin (xs (ix + 5)) 4 ∧ ¬ (∃ j, j < n ∧ M.2.1 3 j = (lg2 (xs (ix + 2)) (xs (ix + 3))) ∧ M.1 2 j = (xs (ix + 1))) ∧ n = 300)) [(1, "java/lang/IndexOutOfBoundsException"), (2, "java/lang/IllegalArgumentException"), (3, "java/lang/IllegalStateException")] M fo) rk u → (fun r M1 => (r = 0 ∧ M1 = (wF N 0 0 1) ∧ ¬ (xin (xs (ix + 1)) 6 ∧ xin (xs (ix + 4)) 10)) ∨ (r = 0 ∧ M1 = (wF N 0 0 2) ∧ xin (xs (ix + 1)) 6 ∧ xin (xs (ix + 4)) 10 ∧ ¬ xin (xs (ix + 5)) 4) ∨ (xin (xs (ix + 1)) 6 ∧ xin (xs (ix + 4)) 10 ∧ xin (xs (ix + 5)) 4 ∧ ((r = 0 ∧ M1 = (wF N 0 0 0) ∧ ∃ j, j < n2 ∧ N.2.1 2 j = (lg2 (xs (ix + 2)) (xs (ix + 3))) ∧ N.1 1 j = (xs (ix + 1))) ∨ (r = 0 ∧ M1 = wF (wF N 0 0 0) 0 0 3 ∧ ¬ (∃ j, j < n2 ∧ N.2.1 2 j = (lg2 (xs (ix + 2)) (xs (ix + 3))) ∧ N.1 1 j = (xs (ix + 1))) ∧ n2 = 300) ∨ (r = 1 ∧ n2 < 300 ∧ ¬ (∃ j, j < n2 ∧ N.2.1 2 j = (lg2 (xs (ix + 2)) (xs (ix + 3))) ∧ N.1 1 j = (xs (ix + 1))) ∧ M1 = wF (wL (wL (wI (wI (wL (wI (wF (wF N 0 0 0) 0 0 0) 1 n2 (xs (ix + 1))) 2 n2 (lg2 (xs (ix + 2)) (xs (ix + 3)))) 3 n2 (xs (ix + 4))) 4 n2 (xs (ix + 5))) 5 n2 (lg2 (xs (ix + 6)) (xs (ix + 7)))) 6 n2 (lg2 (xs (ix + 8)) (xs (ix + 9)))) 0 1 (nI (n2 + 1)))))) rb N1 → xP D cA o u.1 H1 → nP D cA o2 N1 H1 → oP D cA qo u.2 H1 → va_S (fun q => o ≤ q) s.heap H1 locs1 → lv_has ls1 8 [(0, .ref b), (1, .ref (o + 0)), (2, .ref (o2 + 0)), (3, .ref qo), (4, .int (nI ix))] → W p l e room_1 s m args below meth c H1 locs1 (cells + 8) (slots + 48) Q (F0 m 1115 ls1 [])) : W p l e room_1 s m args below meth c H locs cells slots Q (F0 m 124 ls []) := by
  obtain ⟨hx, hb, hml, hown, hts, hK, hG, hN, hX, hbl, hl9, ho, ho2, hqo, hL⟩ := C
  refine lv_aload_n hx hb d_W_law_124 rfl (lv_at hl 1 rfl) ?_
  refine lv_aload_n hx hb d_W_law_125 rfl (lv_at hl 0 rfl) ?_
  refine lv_iload hx hb d_W_law_126 (lv_at hl 4 rfl) ?_
  refine lv_iconst (v := 1) hx hb d_W_law_128 (by decide) ?_
  refine lv_iadd hx hb d_W_law_129 ?_
  refine w_topi (lc_add ix 1 rfl) ?_
  refine lc_ld hx hb hX hbl ho hS (i := ix + 1) (by omega) hL d_W_law_130 ?_
  refine lv_aload_n hx hb d_W_law_131 rfl (lv_at hl 0 rfl) ?_
  refine lv_iload hx hb d_W_law_132 (lv_at hl 4 rfl) ?_
  refine lv_iconst (v := 2) hx hb d_W_law_134 (by decide) ?_
  refine lv_iadd hx hb d_W_law_135 ?_
  refine w_topi (lc_add ix 2 rfl) ?_
  refine lc_ld hx hb hX hbl ho hS (i := ix + 2) (by omega) hL d_W_law_136 ?_
  refine lv_i2l hx hb d_W_law_137 rfl ?_
  refine lv_bipush (v := 32) hx hb d_W_law_138 (by decide) ?_
  refine lv_lshl (v := ((xs (ix + 2)).toInt64) <<< ((32 : Int32).toInt64 &&& 63)) hx hb d_W_law_140 rfl ?_
  refine lv_aload_n hx hb d_W_law_141 rfl (lv_at hl 0 rfl) ?_
  refine lv_iload hx hb d_W_law_142 (lv_at hl 4 rfl) ?_
  refine lv_iconst (v := 3) hx hb d_W_law_144 (by decide) ?_
  refine lv_iadd hx hb d_W_law_145 ?_
  refine w_topi (lc_add ix 3 rfl) ?_
  refine lc_ld hx hb hX hbl ho hS (i := ix + 3) (by omega) hL d_W_law_146 ?_
  refine lv_i2l hx hb d_W_law_147 rfl ?_
  refine lv_ldc2 (v := 4294967295) hx hb hown (hts _ (al aL_W_81)) d_W_law_148 ?_
  refine lv_land hx hb d_W_law_151 ?_
  refine lv_lor hx hb d_W_law_152 ?_
  refine w_topl (y := lg2 (xs (ix + 2)) (xs (ix + 3))) rfl ?_
  refine lv_aload_n hx hb d_W_law_153 rfl (lv_at hl 0 rfl) ?_
  refine lv_iload hx hb d_W_law_154 (lv_at hl 4 rfl) ?_
  refine lv_iconst (v := 4) hx hb d_W_law_156 (by decide) ?_
  refine lv_iadd hx hb d_W_law_157 ?_
  refine w_topi (lc_add ix 4 rfl) ?_
  refine lc_ld hx hb hX hbl ho hS (i := ix + 4) (by omega) hL d_W_law_158 ?_
  refine lv_aload_n hx hb d_W_law_159 rfl (lv_at hl 0 rfl) ?_
  refine lv_iload hx hb d_W_law_160 (lv_at hl 4 rfl) ?_
  refine lv_iconst (v := 5) hx hb d_W_law_162 (by decide) ?_
  refine lv_iadd hx hb d_W_law_163 ?_
  refine w_topi (lc_add ix 5 rfl) ?_
  refine lc_ld hx hb hX hbl ho hS (i := ix + 5) (by omega) hL d_W_law_164 ?_
  refine lv_aload_n hx hb d_W_law_165 rfl (lv_at hl 0 rfl) ?_
  refine lv_iload hx hb d_W_law_166 (lv_at hl 4 rfl) ?_
  refine lv_bipush (v := 6) hx hb d_W_law_168 (by decide) ?_
  refine lv_iadd hx hb d_W_law_170 ?_
  refine w_topi (lc_add ix 6 rfl) ?_
  refine lc_ld hx hb hX hbl ho hS (i := ix + 6) (by omega) hL d_W_law_171 ?_
  refine lv_i2l hx hb d_W_law_172 rfl ?_
  refine lv_bipush (v := 32) hx hb d_W_law_173 (by decide) ?_
  refine lv_lshl (v := ((xs (ix + 6)).toInt64) <<< ((32 : Int32).toInt64 &&& 63)) hx hb d_W_law_175 rfl ?_
  refine lv_aload_n hx hb d_W_law_176 rfl (lv_at hl 0 rfl) ?_
  refine lv_iload hx hb d_W_law_177 (lv_at hl 4 rfl) ?_
  refine lv_bipush (v := 7) hx hb d_W_law_179 (by decide) ?_
  refine lv_iadd hx hb d_W_law_181 ?_
  refine w_topi (lc_add ix 7 rfl) ?_
  refine lc_ld hx hb hX hbl ho hS (i := ix + 7) (by omega) hL d_W_law_182 ?_
  refine lv_i2l hx hb d_W_law_183 rfl ?_
  refine lv_ldc2 (v := 4294967295) hx hb hown (hts _ (al aL_W_81)) d_W_law_184 ?_
  refine lv_land hx hb d_W_law_187 ?_
  refine lv_lor hx hb d_W_law_188 ?_
  refine w_topl (y := lg2 (xs (ix + 6)) (xs (ix + 7))) rfl ?_
  refine lv_aload_n hx hb d_W_law_189 rfl (lv_at hl 0 rfl) ?_
  refine lv_iload hx hb d_W_law_190 (lv_at hl 4 rfl) ?_
  refine lv_bipush (v := 8) hx hb d_W_law_192 (by decide) ?_
  refine lv_iadd hx hb d_W_law_194 ?_
  refine w_topi (lc_add ix 8 rfl) ?_
  refine lc_ld hx hb hX hbl ho hS (i := ix + 8) (by omega) hL d_W_law_195 ?_
  refine lv_i2l hx hb d_W_law_196 rfl ?_
  refine lv_bipush (v := 32) hx hb d_W_law_197 (by decide) ?_
  refine lv_lshl (v := ((xs (ix + 8)).toInt64) <<< ((32 : Int32).toInt64 &&& 63)) hx hb d_W_law_199 rfl ?_
  refine lv_aload_n hx hb d_W_law_200 rfl (lv_at hl 0 rfl) ?_
  refine lv_iload hx hb d_W_law_201 (lv_at hl 4 rfl) ?_
  refine lv_bipush (v := 9) hx hb d_W_law_203 (by decide) ?_
  refine lv_iadd hx hb d_W_law_205 ?_
  refine w_topi (lc_add ix 9 rfl) ?_
  refine lc_ld hx hb hX hbl ho hS (i := ix + 9) (by omega) hL d_W_law_206 ?_
  refine lv_i2l hx hb d_W_law_207 rfl ?_
  refine lv_ldc2 (v := 4294967295) hx hb hown (hts _ (al aL_W_81)) d_W_law_208 ?_
  refine lv_land hx hb d_W_law_211 ?_
  refine lv_lor hx hb d_W_law_212 ?_
  refine w_topl (y := lg2 (xs (ix + 8)) (xs (ix + 9))) rfl ?_
  refine lv_aload_n hx hb d_W_law_213 rfl (lv_at hl 3 rfl) ?_
  refine lc_S ⟨hx, hb, hml, hown, hts⟩ (k_W_tell l hl9 D cA o _ qo M fo n hn en (xs (ix + 1)) (xs (ix + 4)) (xs (ix + 5)) (lg2 (xs (ix + 2)) (xs (ix + 3))) (lg2 (xs (ix + 6)) (xs (ix + 7))) (lg2 (xs (ix + 8)) (xs (ix + 9)))) (kSW hts 8 aK_W_tell aM_W_83 aS_W_tell aN_W nm_W_tell rfl rfl ⟨(Nat.le_of_ble_eq_true rfl), (Nat.le_of_ble_eq_true rfl)⟩) hK hG hN ho ho2 hqo hP hP2 hO hS rfl hl.1 rfl (Nat.le_of_ble_eq_true rfl) d_W_law_214 ⟨Nat.le_trans (show cells + 4 ≤ cells + 8 by omega) hc, Nat.le_trans (show slots + 24 ≤ slots + 48 by omega) hs⟩ (fun rk u H locs hw1 hP hP2 hO hS => ?_)
  refine lv_istore (lv' := [(5, .int rk), (0, .ref b), (1, .ref (o + 0)), (2, .ref (o2 + 0)), (3, .ref qo), (4, .int (nI ix))]) hx hb d_W_law_217 hl (by decide) rfl (fun ls hl => ?_)
  refine lv_aload_n hx hb d_W_law_219 rfl (lv_at hl 3 rfl) ?_
  refine lv_aload_n hx hb d_W_law_220 rfl (lv_at hl 1 rfl) ?_
  refine lv_iload hx hb d_W_law_221 (lv_at hl 5 rfl) ?_
  refine lv_iconst (v := 1) hx hb d_W_law_223 (by decide) ?_
  refine lv_iadd hx hb d_W_law_224 ?_
  refine w_topi (lc_add ix 1 rfl) ?_
  refine lc_ld hx hb hX hbl ho hS (i := ix + 1) (by omega) hL d_W_law_225 ?_
  refine lv_aload_n hx hb d_W_law_226 rfl (lv_at hl 1 rfl) ?_
  refine lv_iload hx hb d_W_law_227 (lv_at hl 5 rfl) ?_
  refine lv_iconst (v := 2) hx hb d_W_law_229 (by decide) ?_
  refine lv_iadd hx hb d_W_law_230 ?_
  refine w_topi (lc_add ix 2 rfl) ?_
  refine lc_ld hx hb hX hbl ho hS (i := ix + 2) (by omega) hL d_W_law_231 ?_
  refine lv_i2l hx hb d_W_law_232 rfl ?_
  refine lv_bipush (v := 32) hx hb d_W_law_233 (by decide) ?_
  refine lv_lshl (v := ((xs (ix + 2)).toInt64) <<< ((32 : Int32).toInt64 &&& 63)) hx hb d_W_law_235 rfl ?_
  refine lv_aload_n hx hb d_W_law_236 rfl (lv_at hl 1 rfl) ?_
  refine lv_iload hx hb d_W_law_237 (lv_at hl 5 rfl) ?_
  refine lv_iconst (v := 3) hx hb d_W_law_239 (by decide) ?_
  refine lv_iadd hx hb d_W_law_240 ?_
  refine w_topi (lc_add ix 3 rfl) ?_
  refine lc_ld hx hb hX hbl ho hS (i := ix + 3) (by omega) hL d_W_law_241 ?_
  refine lv_i2l hx hb d_W_law_242 rfl ?_
  refine lv_ldc2 (v := 4294967295) hx hb hown (hts _ (al aL_W_81)) d_W_law_243 ?_
  refine lv_land hx hb d_W_law_246 ?_
  refine lv_lor hx hb d_W_law_247 ?_
  refine w_topl (y := lg2 (xs (ix + 2)) (xs (ix + 3))) rfl ?_
  refine lv_aload_n hx hb d_W_law_248 rfl (lv_at hl 1 rfl) ?_
  refine lv_iload hx hb d_W_law_249 (lv_at hl 5 rfl) ?_
  refine lv_iconst (v := 4) hx hb d_W_law_251 (by decide) ?_
  refine lv_iadd hx hb d_W_law_252 ?_
  refine w_topi (lc_add ix 4 rfl) ?_
  refine lc_ld hx hb hX hbl ho hS (i := ix + 4) (by omega) hL d_W_law_253 ?_
  refine lv_aload_n hx hb d_W_law_254 rfl (lv_at hl 1 rfl) ?_
  refine lv_iload hx hb d_W_law_255 (lv_at hl 5 rfl) ?_
  refine lv_iconst (v := 5) hx hb d_W_law_257 (by decide) ?_
  refine lv_iadd hx hb d_W_law_258 ?_
  refine w_topi (lc_add ix 5 rfl) ?_
  refine lc_ld hx hb hX hbl ho hS (i := ix + 5) (by omega) hL d_W_law_259 ?_
  refine lv_aload_n hx hb d_W_law_260 rfl (lv_at hl 1 rfl) ?_
  refine lv_iload hx hb d_W_law_261 (lv_at hl 5 rfl) ?_
  refine lv_bipush (v := 6) hx hb d_W_law_263 (by decide) ?_
  refine lv_iadd hx hb d_W_law_265 ?_
  refine w_topi (lc_add ix 6 rfl) ?_
  refine lc_ld hx hb hX hbl ho hS (i := ix + 6) (by omega) hL d_W_law_266 ?_
  refine lv_i2l hx hb d_W_law_267 rfl ?_
  refine lv_bipush (v := 32) hx hb d_W_law_268 (by decide) ?_
  refine lv_lshl (v := ((xs (ix + 6)).toInt64) <<< ((32 : Int32).toInt64 &&& 63)) hx hb d_W_law_270 rfl ?_
  refine lv_aload_n hx hb d_W_law_271 rfl (lv_at hl 1 rfl) ?_
  refine lv_iload hx hb d_W_law_272 (lv_at hl 5 rfl) ?_
  refine lv_bipush (v := 7) hx hb d_W_law_274 (by decide) ?_
  refine lv_iadd hx hb d_W_law_276 ?_
  refine w_topi (lc_add ix 7 rfl) ?_
  refine lc_ld hx hb hX hbl ho hS (i := ix + 7) (by omega) hL d_W_law_277 ?_
  refine lv_i2l hx hb d_W_law_278 rfl ?_
  refine lv_ldc2 (v := 4294967295) hx hb hown (hts _ (al aL_W_81)) d_W_law_279 ?_
  refine lv_land hx hb d_W_law_282 ?_
  refine lv_lor hx hb d_W_law_283 ?_
  refine w_topl (y := lg2 (xs (ix + 6)) (xs (ix + 7))) rfl ?_
  refine lv_aload_n hx hb d_W_law_284 rfl (lv_at hl 1 rfl) ?_
  refine lv_iload hx hb d_W_law_285 (lv_at hl 5 rfl) ?_
  refine lv_bipush (v := 8) hx hb d_W_law_287 (by decide) ?_
  refine lv_iadd hx hb d_W_law_289 ?_
  refine w_topi (lc_add ix 8 rfl) ?_
  refine lc_ld hx hb hX hbl ho hS (i := ix + 8) (by omega) hL d_W_law_290 ?_
  refine lv_i2l hx hb d_W_law_291 rfl ?_
  refine lv_bipush (v := 32) hx hb d_W_law_292 (by decide) ?_
  refine lv_lshl (v := ((xs (ix + 8)).toInt64) <<< ((32 : Int32).toInt64 &&& 63)) hx hb d_W_law_294 rfl ?_
  refine lv_aload_n hx hb d_W_law_295 rfl (lv_at hl 1 rfl) ?_
  refine lv_iload hx hb d_W_law_296 (lv_at hl 5 rfl) ?_
  refine lv_bipush (v := 9) hx hb d_W_law_298 (by decide) ?_
  refine lv_iadd hx hb d_W_law_300 ?_
  refine w_topi (lc_add ix 9 rfl) ?_
  refine lc_ld hx hb hX hbl ho hS (i := ix + 9) (by omega) hL d_W_law_301 ?_
  refine lv_i2l hx hb d_W_law_302 rfl ?_
  refine lv_ldc2 (v := 4294967295) hx hb hown (hts _ (al aL_W_81)) d_W_law_303 ?_
  refine lv_land hx hb d_W_law_306 ?_
  refine lv_lor hx hb d_W_law_307 ?_
  refine w_topl (y := lg2 (xs (ix + 8)) (xs (ix + 9))) rfl ?_
  refine lc_Vi ⟨hx, hb, hml, hown, hts⟩ (k_M_tell l D cA o2 _ N n2 hn2 en2 (xs (ix + 1)) (xs (ix + 4)) (xs (ix + 5)) (lg2 (xs (ix + 2)) (xs (ix + 3))) (lg2 (xs (ix + 6)) (xs (ix + 7))) (lg2 (xs (ix + 8)) (xs (ix + 9)))) (kV hts 6 aK_M_tell aM_W_88 aI_M_tell aV_M_tell aN_M nm_M_tell rfl rfl ⟨(Nat.le_of_ble_eq_true rfl), (Nat.le_of_ble_eq_true rfl)⟩) hK ho ho2 hqo hP hP2 hO hS rfl hl.1 rfl (Nat.le_of_ble_eq_true rfl) d_W_law_308 ⟨Nat.le_trans (show cells + 4 + 0 ≤ cells + 8 by omega) hc, Nat.le_trans (show slots + 24 + 0 ≤ slots + 48 by omega) hs⟩ (fun rb N1 H locs hw2 hP hP2 hO hS => ?_)
  refine lv_istore (lv' := [(6, .int rb), (5, .int rk), (0, .ref b), (1, .ref (o + 0)), (2, .ref (o2 + 0)), (3, .ref qo), (4, .int (nI ix))]) hx hb d_W_law_311 hl (by decide) rfl (fun ls hl => ?_)
  refine lv_goto (tgt := 1115) hx hb d_W_law_313 (by decide) ?_
  refine W.widen (k := cells + 8) (n := slots + 48) (by omega) (by omega) ?_
  exact kk rk u rb N1 _ _ ls hw1 hw2 hP hP2 hO hS (lv_sub hl [2, 3, 4, 5, 6] rfl)

set_option maxHeartbeats 4000000 in
set_option maxRecDepth 100000 in
/-- case 1: set -/
theorem cs_set {p : Program} {l : Launch} {e : Env} {s : State} {m : MethodId} {args : Array Value} {below : List Frame} {meth : Method} {c : Code} {D : va_G} {cA : Nat → ClassId} {o o2 qo b L : Nat} {xs : Nat → Int32} (C : LC p l s m args c D cA o o2 qo b L xs) {Q : State → Prop} {M N : wM} {fo : Nat → Int64} {H : Heap} {locs : List Loc} {cells slots : Nat} {ls : Array Slot} {ix : Nat} (hi : ix + 10 ≤ L)  (sc : Nat) (hsc : sc ≤ 8) (esc : M.2.2 0 2 = nI sc) (n : Nat) (hn : n ≤ 300) (en : M.2.2 1 6 = nI n) (e0 : ∀ s, sc ≤ s → s < 8 → M.2.2 (9 + 3 * s) 3 = nI 0) (sc2 : Nat) (hsc2 : sc2 ≤ 8) (esc2 : N.2.2 0 8 = nI sc2) (n2 : Nat) (hn2 : n2 ≤ 300) (en2 : N.2.2 0 1 = nI n2) (hP : xP D cA o M H) (hP2 : nP D cA o2 N H) (hO : oP D cA qo fo H) (hS : va_S (fun q => o ≤ q) s.heap H locs) (hl : lv_has ls 8 [(0, .ref b), (1, .ref (o + 0)), (2, .ref (o2 + 0)), (3, .ref qo), (4, .int (nI ix))]) (hc : cells + 8 ≤ room_1.cells) (hs : slots + 48 ≤ room_1.slots) (kk : ∀ (rk : Int32) (u : wM × (Nat → Int64)) (rb : Int32) (N1 : wM) (H1 : Heap) (locs1 : List Loc) (ls1 : Array Slot), (oPost (fun r M1 => xin (xs (ix + 1)) 6 ∧ sc < 8 ∧ r = nI sc ∧ ∃ N, xTaken M N sc (xs (ix + 1)) n ∧ M1 = wF N 0 2 (nI (sc + 1))) (fun r : Int32 => r.toInt64) (fun E => (E = "java/lang/IndexOutOfBoundsException" ∧ xbad (xs (ix + 1)) 6) ∨ (E = "java/lang/IllegalStateException" ∧ xin (xs (ix + 1)) 6 ∧ sc = 8)) [(1, "java/lang/IndexOutOfBoundsException"), (2, "java/lang/IllegalStateException")] M fo) rk u → (fun r M1 => (M1 = (wF N 0 0 1) ∧ ¬ xin (xs (ix + 1)) 6) ∨ (M1 = (wF N 0 0 2) ∧ xin (xs (ix + 1)) 6 ∧ sc2 = 8) ∨ (xin (xs (ix + 1)) 6 ∧ sc2 < 8 ∧ r = nI sc2 ∧ ∃ N0, yTaken (wI (wI (wF N 0 0 0) 7 sc2 0) 9 sc2 (-1)) N0 sc2 (xs (ix + 1)) n2 ∧ M1 = wF N0 0 8 (nI (sc2 + 1)))) rb N1 → xP D cA o u.1 H1 → nP D cA o2 N1 H1 → oP D cA qo u.2 H1 → va_S (fun q => o ≤ q) s.heap H1 locs1 → lv_has ls1 8 [(0, .ref b), (1, .ref (o + 0)), (2, .ref (o2 + 0)), (3, .ref qo), (4, .int (nI ix))] → W p l e room_1 s m args below meth c H1 locs1 (cells + 8) (slots + 48) Q (F0 m 1115 ls1 [])) : W p l e room_1 s m args below meth c H locs cells slots Q (F0 m 316 ls []) := by
  obtain ⟨hx, hb, hml, hown, hts, hK, hG, hN, hX, hbl, hl9, ho, ho2, hqo, hL⟩ := C
  refine lv_aload_n hx hb d_W_law_316 rfl (lv_at hl 1 rfl) ?_
  refine lv_aload_n hx hb d_W_law_317 rfl (lv_at hl 0 rfl) ?_
  refine lv_iload hx hb d_W_law_318 (lv_at hl 4 rfl) ?_
  refine lv_iconst (v := 1) hx hb d_W_law_320 (by decide) ?_
  refine lv_iadd hx hb d_W_law_321 ?_
  refine w_topi (lc_add ix 1 rfl) ?_
  refine lc_ld hx hb hX hbl ho hS (i := ix + 1) (by omega) hL d_W_law_322 ?_
  refine lv_aload_n hx hb d_W_law_323 rfl (lv_at hl 3 rfl) ?_
  refine lc_S ⟨hx, hb, hml, hown, hts⟩ (k_W_set l hl9 D cA o _ qo M fo sc hsc esc n hn en e0 (xs (ix + 1))) (kSW hts 3 aK_W_set aM_W_89 aS_W_set aN_W nm_W_set rfl rfl ⟨(Nat.le_of_ble_eq_true rfl), (Nat.le_of_ble_eq_true rfl)⟩) hK hG hN ho ho2 hqo hP hP2 hO hS rfl hl.1 rfl (Nat.le_of_ble_eq_true rfl) d_W_law_324 ⟨Nat.le_trans (show cells + 2 ≤ cells + 8 by omega) hc, Nat.le_trans (show slots + 12 ≤ slots + 48 by omega) hs⟩ (fun rk u H locs hw1 hP hP2 hO hS => ?_)
  refine lv_istore (lv' := [(5, .int rk), (0, .ref b), (1, .ref (o + 0)), (2, .ref (o2 + 0)), (3, .ref qo), (4, .int (nI ix))]) hx hb d_W_law_327 hl (by decide) rfl (fun ls hl => ?_)
  refine lv_aload_n hx hb d_W_law_329 rfl (lv_at hl 3 rfl) ?_
  refine lv_aload_n hx hb d_W_law_330 rfl (lv_at hl 1 rfl) ?_
  refine lv_iload hx hb d_W_law_331 (lv_at hl 5 rfl) ?_
  refine lv_iconst (v := 1) hx hb d_W_law_333 (by decide) ?_
  refine lv_iadd hx hb d_W_law_334 ?_
  refine w_topi (lc_add ix 1 rfl) ?_
  refine lc_ld hx hb hX hbl ho hS (i := ix + 1) (by omega) hL d_W_law_335 ?_
  refine lc_Vi ⟨hx, hb, hml, hown, hts⟩ (k_M_set l D cA o2 _ N sc2 hsc2 esc2 n2 hn2 en2 (xs (ix + 1))) (kV hts 1 aK_M_set aM_W_92 aI_M_set aV_M_set aN_M nm_M_set rfl rfl ⟨(Nat.le_of_ble_eq_true rfl), (Nat.le_of_ble_eq_true rfl)⟩) hK ho ho2 hqo hP hP2 hO hS rfl hl.1 rfl (Nat.le_of_ble_eq_true rfl) d_W_law_336 ⟨Nat.le_trans (show cells + 2 + 0 ≤ cells + 8 by omega) hc, Nat.le_trans (show slots + 12 + 0 ≤ slots + 48 by omega) hs⟩ (fun rb N1 H locs hw2 hP hP2 hO hS => ?_)
  refine lv_istore (lv' := [(6, .int rb), (5, .int rk), (0, .ref b), (1, .ref (o + 0)), (2, .ref (o2 + 0)), (3, .ref qo), (4, .int (nI ix))]) hx hb d_W_law_339 hl (by decide) rfl (fun ls hl => ?_)
  refine lv_goto (tgt := 1115) hx hb d_W_law_341 (by decide) ?_
  refine W.widen (k := cells + 8) (n := slots + 48) (by omega) (by omega) ?_
  exact kk rk u rb N1 _ _ ls hw1 hw2 hP hP2 hO hS (lv_sub hl [2, 3, 4, 5, 6] rfl)

set_option maxHeartbeats 4000000 in
set_option maxRecDepth 100000 in
/-- case 2: join -/
theorem cs_join {p : Program} {l : Launch} {e : Env} {s : State} {m : MethodId} {args : Array Value} {below : List Frame} {meth : Method} {c : Code} {D : va_G} {cA : Nat → ClassId} {o o2 qo b L : Nat} {xs : Nat → Int32} (C : LC p l s m args c D cA o o2 qo b L xs) {Q : State → Prop} {M N : wM} {fo : Nat → Int64} {H : Heap} {locs : List Loc} {cells slots : Nat} {ls : Array Slot} {ix : Nat} (hi : ix + 10 ≤ L)  (sc : Nat) (hsc : sc ≤ 8) (esc : M.2.2 0 2 = nI sc) (z : Nat → Nat) (od : Nat → Nat → Nat) (hse : xSets M z od) (hjo : ∀ s t, s < 8 → t < 8 → xJoinOk M s t (od t) (z s) (z t)) (sc2 : Nat) (hsc2 : sc2 ≤ 8) (esc2 : N.2.2 0 8 = nI sc2) (z2 : Nat → Nat) (od2 : Nat → Nat → Nat) (hse2 : ySets N z2 od2) (hjo2 : ∀ s t, s < 8 → t < 8 → yJoinOk (wF N 0 0 0) s t (od2 s) (z2 s) (od2 t) (z2 t)) (hP : xP D cA o M H) (hP2 : nP D cA o2 N H) (hO : oP D cA qo fo H) (hS : va_S (fun q => o ≤ q) s.heap H locs) (hl : lv_has ls 8 [(0, .ref b), (1, .ref (o + 0)), (2, .ref (o2 + 0)), (3, .ref qo), (4, .int (nI ix))]) (hc : cells + 8 ≤ room_1.cells) (hs : slots + 48 ≤ room_1.slots) (kk : ∀ (rk : Int32) (u : wM × (Nat → Int64)) (rb : Int32) (N1 : wM) (H1 : Heap) (locs1 : List Loc) (ls1 : Array Slot), (oPost (fun r M1 => ∃ k1 k2, k1 < sc ∧ k2 < sc ∧ (xs (ix + 1)) = nI k1 ∧ (xs (ix + 2)) = nI k2 ∧ M1 = x_jM M k1 (od k2) (z k1) (z k2) ∧ r = nI (x_jZ M k1 (od k2) (z k1) (z k2)) - nI (z k1)) (fun r : Int32 => r.toInt64) (fun E => E = "java/lang/IndexOutOfBoundsException" ∧ (xbad (xs (ix + 1)) (nI sc) ∨ xbad (xs (ix + 2)) (nI sc))) [(1, "java/lang/IndexOutOfBoundsException")] M fo) rk u → (fun r M1 => (M1 = (wF N 0 0 1) ∧ ¬ (xin (xs (ix + 1)) (nI sc2) ∧ xin (xs (ix + 2)) (nI sc2))) ∨ (∃ k1 k2, k1 < sc2 ∧ k2 < sc2 ∧ (xs (ix + 1)) = nI k1 ∧ (xs (ix + 2)) = nI k2 ∧ M1 = y_jM (wF N 0 0 0) k1 (od2 k1) (z2 k1) (od2 k2) (z2 k2) ∧ nI (z2 k1) + r = nI (y_jZ (wF N 0 0 0) k1 (od2 k1) (z2 k1) (od2 k2) (z2 k2)))) rb N1 → xP D cA o u.1 H1 → nP D cA o2 N1 H1 → oP D cA qo u.2 H1 → va_S (fun q => o ≤ q) s.heap H1 locs1 → lv_has ls1 8 [(0, .ref b), (1, .ref (o + 0)), (2, .ref (o2 + 0)), (3, .ref qo), (4, .int (nI ix))] → W p l e room_1 s m args below meth c H1 locs1 (cells + 8) (slots + 48) Q (F0 m 1115 ls1 [])) : W p l e room_1 s m args below meth c H locs cells slots Q (F0 m 344 ls []) := by
  obtain ⟨hx, hb, hml, hown, hts, hK, hG, hN, hX, hbl, hl9, ho, ho2, hqo, hL⟩ := C
  refine lv_aload_n hx hb d_W_law_344 rfl (lv_at hl 1 rfl) ?_
  refine lv_aload_n hx hb d_W_law_345 rfl (lv_at hl 0 rfl) ?_
  refine lv_iload hx hb d_W_law_346 (lv_at hl 4 rfl) ?_
  refine lv_iconst (v := 1) hx hb d_W_law_348 (by decide) ?_
  refine lv_iadd hx hb d_W_law_349 ?_
  refine w_topi (lc_add ix 1 rfl) ?_
  refine lc_ld hx hb hX hbl ho hS (i := ix + 1) (by omega) hL d_W_law_350 ?_
  refine lv_aload_n hx hb d_W_law_351 rfl (lv_at hl 0 rfl) ?_
  refine lv_iload hx hb d_W_law_352 (lv_at hl 4 rfl) ?_
  refine lv_iconst (v := 2) hx hb d_W_law_354 (by decide) ?_
  refine lv_iadd hx hb d_W_law_355 ?_
  refine w_topi (lc_add ix 2 rfl) ?_
  refine lc_ld hx hb hX hbl ho hS (i := ix + 2) (by omega) hL d_W_law_356 ?_
  refine lv_aload_n hx hb d_W_law_357 rfl (lv_at hl 3 rfl) ?_
  refine lc_S ⟨hx, hb, hml, hown, hts⟩ (k_W_join l hl9 D cA o _ qo M fo sc hsc esc z od hse hjo (xs (ix + 1)) (xs (ix + 2))) (kSW hts 4 aK_W_join aM_W_93 aS_W_join aN_W nm_W_join rfl rfl ⟨(Nat.le_of_ble_eq_true rfl), (Nat.le_of_ble_eq_true rfl)⟩) hK hG hN ho ho2 hqo hP hP2 hO hS rfl hl.1 rfl (Nat.le_of_ble_eq_true rfl) d_W_law_358 ⟨Nat.le_trans (show cells + 2 ≤ cells + 8 by omega) hc, Nat.le_trans (show slots + 12 ≤ slots + 48 by omega) hs⟩ (fun rk u H locs hw1 hP hP2 hO hS => ?_)
  refine lv_istore (lv' := [(5, .int rk), (0, .ref b), (1, .ref (o + 0)), (2, .ref (o2 + 0)), (3, .ref qo), (4, .int (nI ix))]) hx hb d_W_law_361 hl (by decide) rfl (fun ls hl => ?_)
  refine lv_aload_n hx hb d_W_law_363 rfl (lv_at hl 3 rfl) ?_
  refine lv_aload_n hx hb d_W_law_364 rfl (lv_at hl 1 rfl) ?_
  refine lv_iload hx hb d_W_law_365 (lv_at hl 5 rfl) ?_
  refine lv_iconst (v := 1) hx hb d_W_law_367 (by decide) ?_
  refine lv_iadd hx hb d_W_law_368 ?_
  refine w_topi (lc_add ix 1 rfl) ?_
  refine lc_ld hx hb hX hbl ho hS (i := ix + 1) (by omega) hL d_W_law_369 ?_
  refine lv_aload_n hx hb d_W_law_370 rfl (lv_at hl 1 rfl) ?_
  refine lv_iload hx hb d_W_law_371 (lv_at hl 5 rfl) ?_
  refine lv_iconst (v := 2) hx hb d_W_law_373 (by decide) ?_
  refine lv_iadd hx hb d_W_law_374 ?_
  refine w_topi (lc_add ix 2 rfl) ?_
  refine lc_ld hx hb hX hbl ho hS (i := ix + 2) (by omega) hL d_W_law_375 ?_
  refine lc_Vi ⟨hx, hb, hml, hown, hts⟩ (k_M_join l D cA o2 _ N sc2 hsc2 esc2 z2 od2 hse2 hjo2 (xs (ix + 1)) (xs (ix + 2))) (kV hts 2 aK_M_join aM_W_96 aI_M_join aV_M_join aN_M nm_M_join rfl rfl ⟨(Nat.le_of_ble_eq_true rfl), (Nat.le_of_ble_eq_true rfl)⟩) hK ho ho2 hqo hP hP2 hO hS rfl hl.1 rfl (Nat.le_of_ble_eq_true rfl) d_W_law_376 ⟨Nat.le_trans (show cells + 2 + 0 ≤ cells + 8 by omega) hc, Nat.le_trans (show slots + 12 + 0 ≤ slots + 48 by omega) hs⟩ (fun rb N1 H locs hw2 hP hP2 hO hS => ?_)
  refine lv_istore (lv' := [(6, .int rb), (5, .int rk), (0, .ref b), (1, .ref (o + 0)), (2, .ref (o2 + 0)), (3, .ref qo), (4, .int (nI ix))]) hx hb d_W_law_379 hl (by decide) rfl (fun ls hl => ?_)
  refine lv_goto (tgt := 1115) hx hb d_W_law_381 (by decide) ?_
  refine W.widen (k := cells + 8) (n := slots + 48) (by omega) (by omega) ?_
  exact kk rk u rb N1 _ _ ls hw1 hw2 hP hP2 hO hS (lv_sub hl [2, 3, 4, 5, 6] rfl)

set_option maxHeartbeats 4000000 in
set_option maxRecDepth 100000 in
/-- case 3: equal -/
theorem cs_equal {p : Program} {l : Launch} {e : Env} {s : State} {m : MethodId} {args : Array Value} {below : List Frame} {meth : Method} {c : Code} {D : va_G} {cA : Nat → ClassId} {o o2 qo b L : Nat} {xs : Nat → Int32} (C : LC p l s m args c D cA o o2 qo b L xs) {Q : State → Prop} {M N : wM} {fo : Nat → Int64} {H : Heap} {locs : List Loc} {cells slots : Nat} {ls : Array Slot} {ix : Nat} (hi : ix + 10 ≤ L)  (sc : Nat) (hsc : sc ≤ 8) (esc : M.2.2 0 2 = nI sc) (z : Nat → Nat) (od : Nat → Nat → Nat) (hse : xSets M z od) (sc2 : Nat) (hsc2 : sc2 ≤ 8) (esc2 : N.2.2 0 8 = nI sc2) (z2 : Nat → Nat) (od2 : Nat → Nat → Nat) (hse2 : ySets N z2 od2) (hP : xP D cA o M H) (hP2 : nP D cA o2 N H) (hO : oP D cA qo fo H) (hS : va_S (fun q => o ≤ q) s.heap H locs) (hl : lv_has ls 8 [(0, .ref b), (1, .ref (o + 0)), (2, .ref (o2 + 0)), (3, .ref qo), (4, .int (nI ix))]) (hc : cells + 8 ≤ room_1.cells) (hs : slots + 48 ≤ room_1.slots) (kk : ∀ (rk : Int32) (u : wM × (Nat → Int64)) (rb : Int32) (N1 : wM) (H1 : Heap) (locs1 : List Loc) (ls1 : Array Slot), (oPost (fun r M1 => M1 = M ∧ ∃ k1 k2, k1 < sc ∧ k2 < sc ∧ (xs (ix + 1)) = nI k1 ∧ (xs (ix + 2)) = nI k2 ∧ r = b2i (decide (z k1 = z k2 ∧ ∀ j, j < z k1 → ¬ M.1 (9 + 3 * k2 + 2) (od k1 j) = 0))) (fun r : Int32 => if r = 0 then (0 : Int64) else 1) (fun E => E = "java/lang/IndexOutOfBoundsException" ∧ (xbad (xs (ix + 1)) (nI sc) ∨ xbad (xs (ix + 2)) (nI sc))) [(1, "java/lang/IndexOutOfBoundsException")] M fo) rk u → (fun r M1 => (r = 0 ∧ M1 = (wF N 0 0 1) ∧ ¬ (xin (xs (ix + 1)) (nI sc2) ∧ xin (xs (ix + 2)) (nI sc2))) ∨ (M1 = (wF N 0 0 0) ∧ ∃ k1 k2, k1 < sc2 ∧ k2 < sc2 ∧ (xs (ix + 1)) = nI k1 ∧ (xs (ix + 2)) = nI k2 ∧ r = b2i (decide (z2 k1 = z2 k2) && y_all (od2 k1) (z2 k1) (od2 k2) (z2 k2)))) rb N1 → xP D cA o u.1 H1 → nP D cA o2 N1 H1 → oP D cA qo u.2 H1 → va_S (fun q => o ≤ q) s.heap H1 locs1 → lv_has ls1 8 [(0, .ref b), (1, .ref (o + 0)), (2, .ref (o2 + 0)), (3, .ref qo), (4, .int (nI ix))] → W p l e room_1 s m args below meth c H1 locs1 (cells + 8) (slots + 48) Q (F0 m 1115 ls1 [])) : W p l e room_1 s m args below meth c H locs cells slots Q (F0 m 384 ls []) := by
  obtain ⟨hx, hb, hml, hown, hts, hK, hG, hN, hX, hbl, hl9, ho, ho2, hqo, hL⟩ := C
  refine lv_aload_n hx hb d_W_law_384 rfl (lv_at hl 1 rfl) ?_
  refine lv_aload_n hx hb d_W_law_385 rfl (lv_at hl 0 rfl) ?_
  refine lv_iload hx hb d_W_law_386 (lv_at hl 4 rfl) ?_
  refine lv_iconst (v := 1) hx hb d_W_law_388 (by decide) ?_
  refine lv_iadd hx hb d_W_law_389 ?_
  refine w_topi (lc_add ix 1 rfl) ?_
  refine lc_ld hx hb hX hbl ho hS (i := ix + 1) (by omega) hL d_W_law_390 ?_
  refine lv_aload_n hx hb d_W_law_391 rfl (lv_at hl 0 rfl) ?_
  refine lv_iload hx hb d_W_law_392 (lv_at hl 4 rfl) ?_
  refine lv_iconst (v := 2) hx hb d_W_law_394 (by decide) ?_
  refine lv_iadd hx hb d_W_law_395 ?_
  refine w_topi (lc_add ix 2 rfl) ?_
  refine lc_ld hx hb hX hbl ho hS (i := ix + 2) (by omega) hL d_W_law_396 ?_
  refine lv_aload_n hx hb d_W_law_397 rfl (lv_at hl 3 rfl) ?_
  refine lc_S ⟨hx, hb, hml, hown, hts⟩ (k_W_equal l hl9 D cA o _ qo M fo sc hsc esc z od hse (xs (ix + 1)) (xs (ix + 2))) (kSW hts 4 aK_W_equal aM_W_97 aS_W_equal aN_W nm_W_equal rfl rfl ⟨(Nat.le_of_ble_eq_true rfl), (Nat.le_of_ble_eq_true rfl)⟩) hK hG hN ho ho2 hqo hP hP2 hO hS rfl hl.1 rfl (Nat.le_of_ble_eq_true rfl) d_W_law_398 ⟨Nat.le_trans (show cells + 2 ≤ cells + 8 by omega) hc, Nat.le_trans (show slots + 12 ≤ slots + 48 by omega) hs⟩ (fun rk u H locs hw1 hP hP2 hO hS => ?_)
  refine lv_istore (lv' := [(5, .int rk), (0, .ref b), (1, .ref (o + 0)), (2, .ref (o2 + 0)), (3, .ref qo), (4, .int (nI ix))]) hx hb d_W_law_401 hl (by decide) rfl (fun ls hl => ?_)
  refine lv_aload_n hx hb d_W_law_403 rfl (lv_at hl 3 rfl) ?_
  refine lv_aload_n hx hb d_W_law_404 rfl (lv_at hl 1 rfl) ?_
  refine lv_iload hx hb d_W_law_405 (lv_at hl 5 rfl) ?_
  refine lv_iconst (v := 1) hx hb d_W_law_407 (by decide) ?_
  refine lv_iadd hx hb d_W_law_408 ?_
  refine w_topi (lc_add ix 1 rfl) ?_
  refine lc_ld hx hb hX hbl ho hS (i := ix + 1) (by omega) hL d_W_law_409 ?_
  refine lv_aload_n hx hb d_W_law_410 rfl (lv_at hl 1 rfl) ?_
  refine lv_iload hx hb d_W_law_411 (lv_at hl 5 rfl) ?_
  refine lv_iconst (v := 2) hx hb d_W_law_413 (by decide) ?_
  refine lv_iadd hx hb d_W_law_414 ?_
  refine w_topi (lc_add ix 2 rfl) ?_
  refine lc_ld hx hb hX hbl ho hS (i := ix + 2) (by omega) hL d_W_law_415 ?_
  refine lc_Vi ⟨hx, hb, hml, hown, hts⟩ (k_M_equal l D cA o2 _ N sc2 hsc2 esc2 z2 od2 hse2 (xs (ix + 1)) (xs (ix + 2))) (kV hts 2 aK_M_equal aM_W_99 aI_M_equal aV_M_equal aN_M nm_M_equal rfl rfl ⟨(Nat.le_of_ble_eq_true rfl), (Nat.le_of_ble_eq_true rfl)⟩) hK ho ho2 hqo hP hP2 hO hS rfl hl.1 rfl (Nat.le_of_ble_eq_true rfl) d_W_law_416 ⟨Nat.le_trans (show cells + 2 + 0 ≤ cells + 8 by omega) hc, Nat.le_trans (show slots + 12 + 0 ≤ slots + 48 by omega) hs⟩ (fun rb N1 H locs hw2 hP hP2 hO hS => ?_)
  refine lv_istore (lv' := [(6, .int rb), (5, .int rk), (0, .ref b), (1, .ref (o + 0)), (2, .ref (o2 + 0)), (3, .ref qo), (4, .int (nI ix))]) hx hb d_W_law_419 hl (by decide) rfl (fun ls hl => ?_)
  refine lv_goto (tgt := 1115) hx hb d_W_law_421 (by decide) ?_
  refine W.widen (k := cells + 8) (n := slots + 48) (by omega) (by omega) ?_
  exact kk rk u rb N1 _ _ ls hw1 hw2 hP hP2 hO hS (lv_sub hl [2, 3, 4, 5, 6] rfl)

set_option maxHeartbeats 4000000 in
set_option maxRecDepth 100000 in
/-- case 4: at -/
theorem cs_at {p : Program} {l : Launch} {e : Env} {s : State} {m : MethodId} {args : Array Value} {below : List Frame} {meth : Method} {c : Code} {D : va_G} {cA : Nat → ClassId} {o o2 qo b L : Nat} {xs : Nat → Int32} (C : LC p l s m args c D cA o o2 qo b L xs) {Q : State → Prop} {M N : wM} {fo : Nat → Int64} {H : Heap} {locs : List Loc} {cells slots : Nat} {ls : Array Slot} {ix : Nat} (hi : ix + 10 ≤ L)  (sc : Nat) (hsc : sc ≤ 8) (esc : M.2.2 0 2 = nI sc) (z : Nat → Nat) (od : Nat → Nat → Nat) (hse : xSets M z od) (sc2 : Nat) (hsc2 : sc2 ≤ 8) (esc2 : N.2.2 0 8 = nI sc2) (z2 : Nat → Nat) (od2 : Nat → Nat → Nat) (hse2 : ySets N z2 od2) (hP : xP D cA o M H) (hP2 : nP D cA o2 N H) (hO : oP D cA qo fo H) (hS : va_S (fun q => o ≤ q) s.heap H locs) (hl : lv_has ls 8 [(0, .ref b), (1, .ref (o + 0)), (2, .ref (o2 + 0)), (3, .ref qo), (4, .int (nI ix))]) (hc : cells + 8 ≤ room_1.cells) (hs : slots + 48 ≤ room_1.slots) (kk : ∀ (rk : Int32) (u : wM × (Nat → Int64)) (rb : Int64) (N1 : wM) (H1 : Heap) (locs1 : List Loc) (ls1 : Array Slot), (oPost (fun r M1 => M1 = M ∧ xin (xs (ix + 2)) 10 ∧ xin (xs (ix + 3)) 4 ∧ ∃ k, k < sc ∧ (xs (ix + 1)) = nI k ∧ r = x_known M (od k) (xs (ix + 2)) (xs (ix + 3)) (lg2 (xs (ix + 4)) (xs (ix + 5))) (z k)) (fun r : Int64 => r) (fun E => (E = "java/lang/IndexOutOfBoundsException" ∧ (xbad (xs (ix + 1)) (nI sc) ∨ xbad (xs (ix + 2)) 10)) ∨ (E = "java/lang/IllegalArgumentException" ∧ xin (xs (ix + 1)) (nI sc) ∧ xin (xs (ix + 2)) 10 ∧ xbad (xs (ix + 3)) 4)) [(1, "java/lang/IndexOutOfBoundsException"), (2, "java/lang/IllegalArgumentException")] M fo) rk u → (fun r M1 => (M1 = (wF N 0 0 1) ∧ ¬ (xin (xs (ix + 1)) (nI sc2) ∧ xin (xs (ix + 2)) 10)) ∨ (M1 = (wF N 0 0 2) ∧ xin (xs (ix + 1)) (nI sc2) ∧ xin (xs (ix + 2)) 10 ∧ ¬ xin (xs (ix + 3)) 4) ∨ (M1 = (wF N 0 0 0) ∧ xin (xs (ix + 2)) 10 ∧ xin (xs (ix + 3)) 4 ∧ ∃ k, k < sc2 ∧ (xs (ix + 1)) = nI k ∧ r = y_known (wF N 0 0 0) (od2 k) (xs (ix + 2)) (xs (ix + 3)) (lg2 (xs (ix + 4)) (xs (ix + 5))) (z2 k))) rb N1 → xP D cA o u.1 H1 → nP D cA o2 N1 H1 → oP D cA qo u.2 H1 → va_S (fun q => o ≤ q) s.heap H1 locs1 → lv_has ls1 8 [(0, .ref b), (1, .ref (o + 0)), (2, .ref (o2 + 0)), (3, .ref qo), (4, .int (nI ix))] → W p l e room_1 s m args below meth c H1 locs1 (cells + 8) (slots + 48) Q (F0 m 1115 ls1 [])) : W p l e room_1 s m args below meth c H locs cells slots Q (F0 m 424 ls []) := by
  obtain ⟨hx, hb, hml, hown, hts, hK, hG, hN, hX, hbl, hl9, ho, ho2, hqo, hL⟩ := C
  refine lv_aload_n hx hb d_W_law_424 rfl (lv_at hl 1 rfl) ?_
  refine lv_aload_n hx hb d_W_law_425 rfl (lv_at hl 0 rfl) ?_
  refine lv_iload hx hb d_W_law_426 (lv_at hl 4 rfl) ?_
  refine lv_iconst (v := 1) hx hb d_W_law_428 (by decide) ?_
  refine lv_iadd hx hb d_W_law_429 ?_
  refine w_topi (lc_add ix 1 rfl) ?_
  refine lc_ld hx hb hX hbl ho hS (i := ix + 1) (by omega) hL d_W_law_430 ?_
  refine lv_aload_n hx hb d_W_law_431 rfl (lv_at hl 0 rfl) ?_
  refine lv_iload hx hb d_W_law_432 (lv_at hl 4 rfl) ?_
  refine lv_iconst (v := 2) hx hb d_W_law_434 (by decide) ?_
  refine lv_iadd hx hb d_W_law_435 ?_
  refine w_topi (lc_add ix 2 rfl) ?_
  refine lc_ld hx hb hX hbl ho hS (i := ix + 2) (by omega) hL d_W_law_436 ?_
  refine lv_aload_n hx hb d_W_law_437 rfl (lv_at hl 0 rfl) ?_
  refine lv_iload hx hb d_W_law_438 (lv_at hl 4 rfl) ?_
  refine lv_iconst (v := 3) hx hb d_W_law_440 (by decide) ?_
  refine lv_iadd hx hb d_W_law_441 ?_
  refine w_topi (lc_add ix 3 rfl) ?_
  refine lc_ld hx hb hX hbl ho hS (i := ix + 3) (by omega) hL d_W_law_442 ?_
  refine lv_aload_n hx hb d_W_law_443 rfl (lv_at hl 0 rfl) ?_
  refine lv_iload hx hb d_W_law_444 (lv_at hl 4 rfl) ?_
  refine lv_iconst (v := 4) hx hb d_W_law_446 (by decide) ?_
  refine lv_iadd hx hb d_W_law_447 ?_
  refine w_topi (lc_add ix 4 rfl) ?_
  refine lc_ld hx hb hX hbl ho hS (i := ix + 4) (by omega) hL d_W_law_448 ?_
  refine lv_i2l hx hb d_W_law_449 rfl ?_
  refine lv_bipush (v := 32) hx hb d_W_law_450 (by decide) ?_
  refine lv_lshl (v := ((xs (ix + 4)).toInt64) <<< ((32 : Int32).toInt64 &&& 63)) hx hb d_W_law_452 rfl ?_
  refine lv_aload_n hx hb d_W_law_453 rfl (lv_at hl 0 rfl) ?_
  refine lv_iload hx hb d_W_law_454 (lv_at hl 4 rfl) ?_
  refine lv_iconst (v := 5) hx hb d_W_law_456 (by decide) ?_
  refine lv_iadd hx hb d_W_law_457 ?_
  refine w_topi (lc_add ix 5 rfl) ?_
  refine lc_ld hx hb hX hbl ho hS (i := ix + 5) (by omega) hL d_W_law_458 ?_
  refine lv_i2l hx hb d_W_law_459 rfl ?_
  refine lv_ldc2 (v := 4294967295) hx hb hown (hts _ (al aL_W_81)) d_W_law_460 ?_
  refine lv_land hx hb d_W_law_463 ?_
  refine lv_lor hx hb d_W_law_464 ?_
  refine w_topl (y := lg2 (xs (ix + 4)) (xs (ix + 5))) rfl ?_
  refine lv_aload_n hx hb d_W_law_465 rfl (lv_at hl 3 rfl) ?_
  refine lc_S ⟨hx, hb, hml, hown, hts⟩ (k_W_at l hl9 D cA o _ qo M fo sc hsc esc z od hse (xs (ix + 1)) (xs (ix + 2)) (xs (ix + 3)) (lg2 (xs (ix + 4)) (xs (ix + 5)))) (kSW hts 6 aK_W_at aM_W_100 aS_W_at aN_W nm_W_at rfl rfl ⟨(Nat.le_of_ble_eq_true rfl), (Nat.le_of_ble_eq_true rfl)⟩) hK hG hN ho ho2 hqo hP hP2 hO hS rfl hl.1 rfl (Nat.le_of_ble_eq_true rfl) d_W_law_466 ⟨Nat.le_trans (show cells + 3 ≤ cells + 8 by omega) hc, Nat.le_trans (show slots + 18 ≤ slots + 48 by omega) hs⟩ (fun rk u H locs hw1 hP hP2 hO hS => ?_)
  refine lv_istore (lv' := [(5, .int rk), (0, .ref b), (1, .ref (o + 0)), (2, .ref (o2 + 0)), (3, .ref qo), (4, .int (nI ix))]) hx hb d_W_law_469 hl (by decide) rfl (fun ls hl => ?_)
  refine lv_aload_n hx hb d_W_law_471 rfl (lv_at hl 3 rfl) ?_
  refine lv_aload_n hx hb d_W_law_472 rfl (lv_at hl 1 rfl) ?_
  refine lv_iload hx hb d_W_law_473 (lv_at hl 5 rfl) ?_
  refine lv_iconst (v := 1) hx hb d_W_law_475 (by decide) ?_
  refine lv_iadd hx hb d_W_law_476 ?_
  refine w_topi (lc_add ix 1 rfl) ?_
  refine lc_ld hx hb hX hbl ho hS (i := ix + 1) (by omega) hL d_W_law_477 ?_
  refine lv_aload_n hx hb d_W_law_478 rfl (lv_at hl 1 rfl) ?_
  refine lv_iload hx hb d_W_law_479 (lv_at hl 5 rfl) ?_
  refine lv_iconst (v := 2) hx hb d_W_law_481 (by decide) ?_
  refine lv_iadd hx hb d_W_law_482 ?_
  refine w_topi (lc_add ix 2 rfl) ?_
  refine lc_ld hx hb hX hbl ho hS (i := ix + 2) (by omega) hL d_W_law_483 ?_
  refine lv_aload_n hx hb d_W_law_484 rfl (lv_at hl 1 rfl) ?_
  refine lv_iload hx hb d_W_law_485 (lv_at hl 5 rfl) ?_
  refine lv_iconst (v := 3) hx hb d_W_law_487 (by decide) ?_
  refine lv_iadd hx hb d_W_law_488 ?_
  refine w_topi (lc_add ix 3 rfl) ?_
  refine lc_ld hx hb hX hbl ho hS (i := ix + 3) (by omega) hL d_W_law_489 ?_
  refine lv_aload_n hx hb d_W_law_490 rfl (lv_at hl 1 rfl) ?_
  refine lv_iload hx hb d_W_law_491 (lv_at hl 5 rfl) ?_
  refine lv_iconst (v := 4) hx hb d_W_law_493 (by decide) ?_
  refine lv_iadd hx hb d_W_law_494 ?_
  refine w_topi (lc_add ix 4 rfl) ?_
  refine lc_ld hx hb hX hbl ho hS (i := ix + 4) (by omega) hL d_W_law_495 ?_
  refine lv_i2l hx hb d_W_law_496 rfl ?_
  refine lv_bipush (v := 32) hx hb d_W_law_497 (by decide) ?_
  refine lv_lshl (v := ((xs (ix + 4)).toInt64) <<< ((32 : Int32).toInt64 &&& 63)) hx hb d_W_law_499 rfl ?_
  refine lv_aload_n hx hb d_W_law_500 rfl (lv_at hl 1 rfl) ?_
  refine lv_iload hx hb d_W_law_501 (lv_at hl 5 rfl) ?_
  refine lv_iconst (v := 5) hx hb d_W_law_503 (by decide) ?_
  refine lv_iadd hx hb d_W_law_504 ?_
  refine w_topi (lc_add ix 5 rfl) ?_
  refine lc_ld hx hb hX hbl ho hS (i := ix + 5) (by omega) hL d_W_law_505 ?_
  refine lv_i2l hx hb d_W_law_506 rfl ?_
  refine lv_ldc2 (v := 4294967295) hx hb hown (hts _ (al aL_W_81)) d_W_law_507 ?_
  refine lv_land hx hb d_W_law_510 ?_
  refine lv_lor hx hb d_W_law_511 ?_
  refine w_topl (y := lg2 (xs (ix + 4)) (xs (ix + 5))) rfl ?_
  refine lc_Vl ⟨hx, hb, hml, hown, hts⟩ (k_M_at l D cA o2 _ N sc2 hsc2 esc2 z2 od2 hse2 (xs (ix + 1)) (xs (ix + 2)) (xs (ix + 3)) (lg2 (xs (ix + 4)) (xs (ix + 5)))) (kV hts 4 aK_M_at aM_W_103 aI_M_at aV_M_at aN_M nm_M_at rfl rfl ⟨(Nat.le_of_ble_eq_true rfl), (Nat.le_of_ble_eq_true rfl)⟩) hK ho ho2 hqo hP hP2 hO hS rfl hl.1 rfl (Nat.le_of_ble_eq_true rfl) d_W_law_512 ⟨Nat.le_trans (show cells + 3 + 0 ≤ cells + 8 by omega) hc, Nat.le_trans (show slots + 18 + 0 ≤ slots + 48 by omega) hs⟩ (fun rb N1 H locs hw2 hP hP2 hO hS => ?_)
  refine lv_lstore (lv' := [(6, .long rb), (5, .int rk), (0, .ref b), (1, .ref (o + 0)), (2, .ref (o2 + 0)), (3, .ref qo), (4, .int (nI ix))]) hx hb d_W_law_515 hl (by decide) rfl (fun ls hl => ?_)
  refine lv_goto (tgt := 1115) hx hb d_W_law_517 (by decide) ?_
  refine W.widen (k := cells + 8) (n := slots + 48) (by omega) (by omega) ?_
  exact kk rk u rb N1 _ _ ls hw1 hw2 hP hP2 hO hS (lv_sub hl [2, 3, 4, 5, 6] rfl)

set_option maxHeartbeats 4000000 in
set_option maxRecDepth 100000 in
/-- case 5: conflict -/
theorem cs_conflict {p : Program} {l : Launch} {e : Env} {s : State} {m : MethodId} {args : Array Value} {below : List Frame} {meth : Method} {c : Code} {D : va_G} {cA : Nat → ClassId} {o o2 qo b L : Nat} {xs : Nat → Int32} (C : LC p l s m args c D cA o o2 qo b L xs) {Q : State → Prop} {M N : wM} {fo : Nat → Int64} {H : Heap} {locs : List Loc} {cells slots : Nat} {ls : Array Slot} {ix : Nat} (hi : ix + 10 ≤ L)  (sc : Nat) (hsc : sc ≤ 8) (esc : M.2.2 0 2 = nI sc) (z : Nat → Nat) (od : Nat → Nat → Nat) (hse : xSets M z od) (sc2 : Nat) (hsc2 : sc2 ≤ 8) (esc2 : N.2.2 0 8 = nI sc2) (z2 : Nat → Nat) (od2 : Nat → Nat → Nat) (hse2 : ySets N z2 od2) (hP : xP D cA o M H) (hP2 : nP D cA o2 N H) (hO : oP D cA qo fo H) (hS : va_S (fun q => o ≤ q) s.heap H locs) (hl : lv_has ls 8 [(0, .ref b), (1, .ref (o + 0)), (2, .ref (o2 + 0)), (3, .ref qo), (4, .int (nI ix))]) (hc : cells + 8 ≤ room_1.cells) (hs : slots + 48 ≤ room_1.slots) (kk : ∀ (rk : Int32) (u : wM × (Nat → Int64)) (rb : Int32) (N1 : wM) (H1 : Heap) (locs1 : List Loc) (ls1 : Array Slot), (oPost (fun r M1 => M1 = M ∧ ¬ (xs (ix + 2)) < 0 ∧ ∃ k, k < sc ∧ (xs (ix + 1)) = nI k ∧ ((∃ i, i < 10 ∧ x_conf M (od k) (nI i) (z k) = true ∧ nI (x_cc M (od k) (z k) i) = (xs (ix + 2)) ∧ r = nI i) ∨ ((∀ i, i < 10 → x_conf M (od k) (nI i) (z k) = true → ¬ nI (x_cc M (od k) (z k) i) = (xs (ix + 2))) ∧ r = -1))) (fun r : Int32 => r.toInt64) (fun E => (E = "java/lang/IndexOutOfBoundsException" ∧ xbad (xs (ix + 1)) (nI sc)) ∨ (E = "java/lang/IllegalArgumentException" ∧ xin (xs (ix + 1)) (nI sc) ∧ (xs (ix + 2)) < 0)) [(1, "java/lang/IndexOutOfBoundsException"), (2, "java/lang/IllegalArgumentException")] M fo) rk u → (fun r M1 => (M1 = (wF N 0 0 1) ∧ ¬ xin (xs (ix + 1)) (nI sc2)) ∨ (M1 = (wF N 0 0 2) ∧ xin (xs (ix + 1)) (nI sc2) ∧ (xs (ix + 2)) < 0) ∨ (M1 = (wF N 0 0 0) ∧ ¬ (xs (ix + 2)) < 0 ∧ ∃ k, k < sc2 ∧ (xs (ix + 1)) = nI k ∧ ((∃ i, i < 10 ∧ y_conf (wF N 0 0 0) (od2 k) (nI i) (z2 k) = true ∧ nI (y_cc (wF N 0 0 0) (od2 k) (z2 k) i) = (xs (ix + 2)) ∧ r = nI i) ∨ ((∀ i, i < 10 → y_conf (wF N 0 0 0) (od2 k) (nI i) (z2 k) = true → ¬ nI (y_cc (wF N 0 0 0) (od2 k) (z2 k) i) = (xs (ix + 2))) ∧ r = -1)))) rb N1 → xP D cA o u.1 H1 → nP D cA o2 N1 H1 → oP D cA qo u.2 H1 → va_S (fun q => o ≤ q) s.heap H1 locs1 → lv_has ls1 8 [(0, .ref b), (1, .ref (o + 0)), (2, .ref (o2 + 0)), (3, .ref qo), (4, .int (nI ix))] → W p l e room_1 s m args below meth c H1 locs1 (cells + 8) (slots + 48) Q (F0 m 1115 ls1 [])) : W p l e room_1 s m args below meth c H locs cells slots Q (F0 m 520 ls []) := by
  obtain ⟨hx, hb, hml, hown, hts, hK, hG, hN, hX, hbl, hl9, ho, ho2, hqo, hL⟩ := C
  refine lv_aload_n hx hb d_W_law_520 rfl (lv_at hl 1 rfl) ?_
  refine lv_aload_n hx hb d_W_law_521 rfl (lv_at hl 0 rfl) ?_
  refine lv_iload hx hb d_W_law_522 (lv_at hl 4 rfl) ?_
  refine lv_iconst (v := 1) hx hb d_W_law_524 (by decide) ?_
  refine lv_iadd hx hb d_W_law_525 ?_
  refine w_topi (lc_add ix 1 rfl) ?_
  refine lc_ld hx hb hX hbl ho hS (i := ix + 1) (by omega) hL d_W_law_526 ?_
  refine lv_aload_n hx hb d_W_law_527 rfl (lv_at hl 0 rfl) ?_
  refine lv_iload hx hb d_W_law_528 (lv_at hl 4 rfl) ?_
  refine lv_iconst (v := 2) hx hb d_W_law_530 (by decide) ?_
  refine lv_iadd hx hb d_W_law_531 ?_
  refine w_topi (lc_add ix 2 rfl) ?_
  refine lc_ld hx hb hX hbl ho hS (i := ix + 2) (by omega) hL d_W_law_532 ?_
  refine lv_aload_n hx hb d_W_law_533 rfl (lv_at hl 3 rfl) ?_
  refine lc_S ⟨hx, hb, hml, hown, hts⟩ (k_W_conflict l hl9 D cA o _ qo M fo sc hsc esc z od hse (xs (ix + 1)) (xs (ix + 2))) (kSW hts 4 aK_W_conflict aM_W_104 aS_W_conflict aN_W nm_W_conflict rfl rfl ⟨(Nat.le_of_ble_eq_true rfl), (Nat.le_of_ble_eq_true rfl)⟩) hK hG hN ho ho2 hqo hP hP2 hO hS rfl hl.1 rfl (Nat.le_of_ble_eq_true rfl) d_W_law_534 ⟨Nat.le_trans (show cells + 2 ≤ cells + 8 by omega) hc, Nat.le_trans (show slots + 12 ≤ slots + 48 by omega) hs⟩ (fun rk u H locs hw1 hP hP2 hO hS => ?_)
  refine lv_istore (lv' := [(5, .int rk), (0, .ref b), (1, .ref (o + 0)), (2, .ref (o2 + 0)), (3, .ref qo), (4, .int (nI ix))]) hx hb d_W_law_537 hl (by decide) rfl (fun ls hl => ?_)
  refine lv_aload_n hx hb d_W_law_539 rfl (lv_at hl 3 rfl) ?_
  refine lv_aload_n hx hb d_W_law_540 rfl (lv_at hl 1 rfl) ?_
  refine lv_iload hx hb d_W_law_541 (lv_at hl 5 rfl) ?_
  refine lv_iconst (v := 1) hx hb d_W_law_543 (by decide) ?_
  refine lv_iadd hx hb d_W_law_544 ?_
  refine w_topi (lc_add ix 1 rfl) ?_
  refine lc_ld hx hb hX hbl ho hS (i := ix + 1) (by omega) hL d_W_law_545 ?_
  refine lv_aload_n hx hb d_W_law_546 rfl (lv_at hl 1 rfl) ?_
  refine lv_iload hx hb d_W_law_547 (lv_at hl 5 rfl) ?_
  refine lv_iconst (v := 2) hx hb d_W_law_549 (by decide) ?_
  refine lv_iadd hx hb d_W_law_550 ?_
  refine w_topi (lc_add ix 2 rfl) ?_
  refine lc_ld hx hb hX hbl ho hS (i := ix + 2) (by omega) hL d_W_law_551 ?_
  refine lc_Vi ⟨hx, hb, hml, hown, hts⟩ (k_M_conflict l D cA o2 _ N sc2 hsc2 esc2 z2 od2 hse2 (xs (ix + 1)) (xs (ix + 2))) (kV hts 2 aK_M_conflict aM_W_106 aI_M_conflict aV_M_conflict aN_M nm_M_conflict rfl rfl ⟨(Nat.le_of_ble_eq_true rfl), (Nat.le_of_ble_eq_true rfl)⟩) hK ho ho2 hqo hP hP2 hO hS rfl hl.1 rfl (Nat.le_of_ble_eq_true rfl) d_W_law_552 ⟨Nat.le_trans (show cells + 2 + 0 ≤ cells + 8 by omega) hc, Nat.le_trans (show slots + 12 + 0 ≤ slots + 48 by omega) hs⟩ (fun rb N1 H locs hw2 hP hP2 hO hS => ?_)
  refine lv_istore (lv' := [(6, .int rb), (5, .int rk), (0, .ref b), (1, .ref (o + 0)), (2, .ref (o2 + 0)), (3, .ref qo), (4, .int (nI ix))]) hx hb d_W_law_555 hl (by decide) rfl (fun ls hl => ?_)
  refine lv_goto (tgt := 1115) hx hb d_W_law_557 (by decide) ?_
  refine W.widen (k := cells + 8) (n := slots + 48) (by omega) (by omega) ?_
  exact kk rk u rb N1 _ _ ls hw1 hw2 hP hP2 hO hS (lv_sub hl [2, 3, 4, 5, 6] rfl)

set_option maxHeartbeats 4000000 in
set_option maxRecDepth 100000 in
/-- case 6: mark -/
theorem cs_mark {p : Program} {l : Launch} {e : Env} {s : State} {m : MethodId} {args : Array Value} {below : List Frame} {meth : Method} {c : Code} {D : va_G} {cA : Nat → ClassId} {o o2 qo b L : Nat} {xs : Nat → Int32} (C : LC p l s m args c D cA o o2 qo b L xs) {Q : State → Prop} {M N : wM} {fo : Nat → Int64} {H : Heap} {locs : List Loc} {cells slots : Nat} {ls : Array Slot} {ix : Nat} (hi : ix + 10 ≤ L)  (sc : Nat) (hsc : sc ≤ 8) (esc : M.2.2 0 2 = nI sc) (sc2 : Nat) (hsc2 : sc2 ≤ 8) (esc2 : N.2.2 0 8 = nI sc2) (hP : xP D cA o M H) (hP2 : nP D cA o2 N H) (hO : oP D cA qo fo H) (hS : va_S (fun q => o ≤ q) s.heap H locs) (hl : lv_has ls 8 [(0, .ref b), (1, .ref (o + 0)), (2, .ref (o2 + 0)), (3, .ref qo), (4, .int (nI ix))]) (hc : cells + 8 ≤ room_1.cells) (hs : slots + 48 ≤ room_1.slots) (kk : ∀ (rk : Int32) (u : wM × (Nat → Int64)) (rb : Int32) (N1 : wM) (H1 : Heap) (locs1 : List Loc) (ls1 : Array Slot), (oPost (fun r M1 => M1 = M ∧ ∃ k, k < sc ∧ (xs (ix + 1)) = nI k ∧ r = M.2.2 (9 + 3 * k) 3) (fun r : Int32 => r.toInt64) (fun E => E = "java/lang/IndexOutOfBoundsException" ∧ xbad (xs (ix + 1)) (nI sc)) [(1, "java/lang/IndexOutOfBoundsException")] M fo) rk u → (fun r M1 => (r = 0 ∧ M1 = (wF N 0 0 1) ∧ ¬ xin (xs (ix + 1)) (nI sc2)) ∨ (M1 = (wF N 0 0 0) ∧ ∃ k, k < sc2 ∧ (xs (ix + 1)) = nI k ∧ r = N.1 7 k)) rb N1 → xP D cA o u.1 H1 → nP D cA o2 N1 H1 → oP D cA qo u.2 H1 → va_S (fun q => o ≤ q) s.heap H1 locs1 → lv_has ls1 8 [(0, .ref b), (1, .ref (o + 0)), (2, .ref (o2 + 0)), (3, .ref qo), (4, .int (nI ix))] → W p l e room_1 s m args below meth c H1 locs1 (cells + 8) (slots + 48) Q (F0 m 1115 ls1 [])) : W p l e room_1 s m args below meth c H locs cells slots Q (F0 m 560 ls []) := by
  obtain ⟨hx, hb, hml, hown, hts, hK, hG, hN, hX, hbl, hl9, ho, ho2, hqo, hL⟩ := C
  refine lv_aload_n hx hb d_W_law_560 rfl (lv_at hl 1 rfl) ?_
  refine lv_aload_n hx hb d_W_law_561 rfl (lv_at hl 0 rfl) ?_
  refine lv_iload hx hb d_W_law_562 (lv_at hl 4 rfl) ?_
  refine lv_iconst (v := 1) hx hb d_W_law_564 (by decide) ?_
  refine lv_iadd hx hb d_W_law_565 ?_
  refine w_topi (lc_add ix 1 rfl) ?_
  refine lc_ld hx hb hX hbl ho hS (i := ix + 1) (by omega) hL d_W_law_566 ?_
  refine lv_aload_n hx hb d_W_law_567 rfl (lv_at hl 3 rfl) ?_
  refine lc_S ⟨hx, hb, hml, hown, hts⟩ (k_W_mark l hl9 D cA o _ qo M fo sc hsc esc (xs (ix + 1))) (kSW hts 3 aK_W_mark aM_W_107 aS_W_mark aN_W nm_W_mark rfl rfl ⟨(Nat.le_of_ble_eq_true rfl), (Nat.le_of_ble_eq_true rfl)⟩) hK hG hN ho ho2 hqo hP hP2 hO hS rfl hl.1 rfl (Nat.le_of_ble_eq_true rfl) d_W_law_568 ⟨Nat.le_trans (show cells + 1 ≤ cells + 8 by omega) hc, Nat.le_trans (show slots + 6 ≤ slots + 48 by omega) hs⟩ (fun rk u H locs hw1 hP hP2 hO hS => ?_)
  refine lv_istore (lv' := [(5, .int rk), (0, .ref b), (1, .ref (o + 0)), (2, .ref (o2 + 0)), (3, .ref qo), (4, .int (nI ix))]) hx hb d_W_law_571 hl (by decide) rfl (fun ls hl => ?_)
  refine lv_aload_n hx hb d_W_law_573 rfl (lv_at hl 3 rfl) ?_
  refine lv_aload_n hx hb d_W_law_574 rfl (lv_at hl 1 rfl) ?_
  refine lv_iload hx hb d_W_law_575 (lv_at hl 5 rfl) ?_
  refine lv_iconst (v := 1) hx hb d_W_law_577 (by decide) ?_
  refine lv_iadd hx hb d_W_law_578 ?_
  refine w_topi (lc_add ix 1 rfl) ?_
  refine lc_ld hx hb hX hbl ho hS (i := ix + 1) (by omega) hL d_W_law_579 ?_
  refine lc_Vi ⟨hx, hb, hml, hown, hts⟩ (k_M_mark l D cA o2 _ N sc2 hsc2 esc2 (xs (ix + 1))) (kV hts 1 aK_M_mark aM_W_109 aI_M_mark aV_M_mark aN_M nm_M_mark rfl rfl ⟨(Nat.le_of_ble_eq_true rfl), (Nat.le_of_ble_eq_true rfl)⟩) hK ho ho2 hqo hP hP2 hO hS rfl hl.1 rfl (Nat.le_of_ble_eq_true rfl) d_W_law_580 ⟨Nat.le_trans (show cells + 1 + 0 ≤ cells + 8 by omega) hc, Nat.le_trans (show slots + 6 + 0 ≤ slots + 48 by omega) hs⟩ (fun rb N1 H locs hw2 hP hP2 hO hS => ?_)
  refine lv_istore (lv' := [(6, .int rb), (5, .int rk), (0, .ref b), (1, .ref (o + 0)), (2, .ref (o2 + 0)), (3, .ref qo), (4, .int (nI ix))]) hx hb d_W_law_583 hl (by decide) rfl (fun ls hl => ?_)
  refine lv_goto (tgt := 1115) hx hb d_W_law_585 (by decide) ?_
  refine W.widen (k := cells + 8) (n := slots + 48) (by omega) (by omega) ?_
  exact kk rk u rb N1 _ _ ls hw1 hw2 hP hP2 hO hS (lv_sub hl [2, 3, 4, 5, 6] rfl)

set_option maxHeartbeats 4000000 in
set_option maxRecDepth 100000 in
/-- case 7: since -/
theorem cs_since {p : Program} {l : Launch} {e : Env} {s : State} {m : MethodId} {args : Array Value} {below : List Frame} {meth : Method} {c : Code} {D : va_G} {cA : Nat → ClassId} {o o2 qo b L : Nat} {xs : Nat → Int32} (C : LC p l s m args c D cA o o2 qo b L xs) {Q : State → Prop} {M N : wM} {fo : Nat → Int64} {H : Heap} {locs : List Loc} {cells slots : Nat} {ls : Array Slot} {ix : Nat} (hi : ix + 10 ≤ L)  (sc : Nat) (hsc : sc ≤ 8) (esc : M.2.2 0 2 = nI sc) (z : Nat → Nat) (od : Nat → Nat → Nat) (hse : xSets M z od) (sc2 : Nat) (hsc2 : sc2 ≤ 8) (esc2 : N.2.2 0 8 = nI sc2) (z2 : Nat → Nat) (od2 : Nat → Nat → Nat) (hse2 : ySets N z2 od2) (hP : xP D cA o M H) (hP2 : nP D cA o2 N H) (hO : oP D cA qo fo H) (hS : va_S (fun q => o ≤ q) s.heap H locs) (hl : lv_has ls 8 [(0, .ref b), (1, .ref (o + 0)), (2, .ref (o2 + 0)), (3, .ref qo), (4, .int (nI ix))]) (hc : cells + 8 ≤ room_1.cells) (hs : slots + 48 ≤ room_1.slots) (kk : ∀ (rk : Int32) (u : wM × (Nat → Int64)) (rb : Int64) (N1 : wM) (H1 : Heap) (locs1 : List Loc) (ls1 : Array Slot), (oPost (fun r M1 => M1 = M ∧ ∃ k a b, k < sc ∧ (xs (ix + 1)) = nI k ∧ (xs (ix + 2)) = nI a ∧ (xs (ix + 3)) = nI b ∧ a < 2147483648 ∧ b < 2147483648 ∧ a + b < z k ∧ ¬ (xs (ix + 4)) < 0 ∧ (xs (ix + 4)) ≤ 2 ∧ r = (if (xs (ix + 4)) = 0 then (M.1 2 (od k (a + b))).toInt64 else if (xs (ix + 4)) = 1 then M.2.1 3 (od k (a + b)) else M.2.1 6 (od k (a + b)))) (fun r : Int64 => r) (fun E => (E = "java/lang/IndexOutOfBoundsException" ∧ (xbad (xs (ix + 1)) (nI sc) ∨ ∃ k, k < sc ∧ (xs (ix + 1)) = nI k ∧ ¬ (xs (ix + 2)).toInt64 + (xs (ix + 3)).toInt64 < (nI (z k)).toInt64)) ∨ (E = "java/lang/IllegalArgumentException" ∧ ∃ k, k < sc ∧ (xs (ix + 1)) = nI k ∧ (xs (ix + 2)).toInt64 + (xs (ix + 3)).toInt64 < (nI (z k)).toInt64 ∧ ((xs (ix + 2)) < 0 ∨ (xs (ix + 3)) < 0 ∨ (xs (ix + 4)) < 0 ∨ ¬ (xs (ix + 4)) ≤ 2))) [(1, "java/lang/IndexOutOfBoundsException"), (2, "java/lang/IllegalArgumentException")] M fo) rk u → (fun r M1 => (M1 = (wF N 0 0 1) ∧ (¬ xin (xs (ix + 1)) (nI sc2) ∨ ∃ k, k < sc2 ∧ (xs (ix + 1)) = nI k ∧ ¬ (xs (ix + 2)) < 0 ∧ ¬ (xs (ix + 3)) < 0 ∧ ¬ (xs (ix + 2)).toInt64 + (xs (ix + 3)).toInt64 < (nI (z2 k)).toInt64)) ∨ (M1 = (wF N 0 0 2) ∧ ∃ k, k < sc2 ∧ (xs (ix + 1)) = nI k ∧ ((xs (ix + 2)) < 0 ∨ (xs (ix + 3)) < 0 ∨ ((xs (ix + 2)).toInt64 + (xs (ix + 3)).toInt64 < (nI (z2 k)).toInt64 ∧ ¬ xin (xs (ix + 4)) 3))) ∨ (M1 = (wF N 0 0 0) ∧ ∃ k a b, k < sc2 ∧ (xs (ix + 1)) = nI k ∧ (xs (ix + 2)) = nI a ∧ (xs (ix + 3)) = nI b ∧ a < 2147483648 ∧ b < 2147483648 ∧ a + b < z2 k ∧ xin (xs (ix + 4)) 3 ∧ r = (if (xs (ix + 4)) = 0 then (N.1 1 (od2 k (a + b))).toInt64 else if (xs (ix + 4)) = 1 then N.2.1 2 (od2 k (a + b)) else N.2.1 5 (od2 k (a + b))))) rb N1 → xP D cA o u.1 H1 → nP D cA o2 N1 H1 → oP D cA qo u.2 H1 → va_S (fun q => o ≤ q) s.heap H1 locs1 → lv_has ls1 8 [(0, .ref b), (1, .ref (o + 0)), (2, .ref (o2 + 0)), (3, .ref qo), (4, .int (nI ix))] → W p l e room_1 s m args below meth c H1 locs1 (cells + 8) (slots + 48) Q (F0 m 1115 ls1 [])) : W p l e room_1 s m args below meth c H locs cells slots Q (F0 m 588 ls []) := by
  obtain ⟨hx, hb, hml, hown, hts, hK, hG, hN, hX, hbl, hl9, ho, ho2, hqo, hL⟩ := C
  refine lv_aload_n hx hb d_W_law_588 rfl (lv_at hl 1 rfl) ?_
  refine lv_aload_n hx hb d_W_law_589 rfl (lv_at hl 0 rfl) ?_
  refine lv_iload hx hb d_W_law_590 (lv_at hl 4 rfl) ?_
  refine lv_iconst (v := 1) hx hb d_W_law_592 (by decide) ?_
  refine lv_iadd hx hb d_W_law_593 ?_
  refine w_topi (lc_add ix 1 rfl) ?_
  refine lc_ld hx hb hX hbl ho hS (i := ix + 1) (by omega) hL d_W_law_594 ?_
  refine lv_aload_n hx hb d_W_law_595 rfl (lv_at hl 0 rfl) ?_
  refine lv_iload hx hb d_W_law_596 (lv_at hl 4 rfl) ?_
  refine lv_iconst (v := 2) hx hb d_W_law_598 (by decide) ?_
  refine lv_iadd hx hb d_W_law_599 ?_
  refine w_topi (lc_add ix 2 rfl) ?_
  refine lc_ld hx hb hX hbl ho hS (i := ix + 2) (by omega) hL d_W_law_600 ?_
  refine lv_aload_n hx hb d_W_law_601 rfl (lv_at hl 0 rfl) ?_
  refine lv_iload hx hb d_W_law_602 (lv_at hl 4 rfl) ?_
  refine lv_iconst (v := 3) hx hb d_W_law_604 (by decide) ?_
  refine lv_iadd hx hb d_W_law_605 ?_
  refine w_topi (lc_add ix 3 rfl) ?_
  refine lc_ld hx hb hX hbl ho hS (i := ix + 3) (by omega) hL d_W_law_606 ?_
  refine lv_aload_n hx hb d_W_law_607 rfl (lv_at hl 0 rfl) ?_
  refine lv_iload hx hb d_W_law_608 (lv_at hl 4 rfl) ?_
  refine lv_iconst (v := 4) hx hb d_W_law_610 (by decide) ?_
  refine lv_iadd hx hb d_W_law_611 ?_
  refine w_topi (lc_add ix 4 rfl) ?_
  refine lc_ld hx hb hX hbl ho hS (i := ix + 4) (by omega) hL d_W_law_612 ?_
  refine lv_aload_n hx hb d_W_law_613 rfl (lv_at hl 3 rfl) ?_
  refine lc_S ⟨hx, hb, hml, hown, hts⟩ (k_W_since l hl9 D cA o _ qo M fo sc hsc esc z od hse (xs (ix + 1)) (xs (ix + 2)) (xs (ix + 3)) (xs (ix + 4))) (kSW hts 6 aK_W_since aM_W_110 aS_W_since aN_W nm_W_since rfl rfl ⟨(Nat.le_of_ble_eq_true rfl), (Nat.le_of_ble_eq_true rfl)⟩) hK hG hN ho ho2 hqo hP hP2 hO hS rfl hl.1 rfl (Nat.le_of_ble_eq_true rfl) d_W_law_614 ⟨Nat.le_trans (show cells + 2 ≤ cells + 8 by omega) hc, Nat.le_trans (show slots + 12 ≤ slots + 48 by omega) hs⟩ (fun rk u H locs hw1 hP hP2 hO hS => ?_)
  refine lv_istore (lv' := [(5, .int rk), (0, .ref b), (1, .ref (o + 0)), (2, .ref (o2 + 0)), (3, .ref qo), (4, .int (nI ix))]) hx hb d_W_law_617 hl (by decide) rfl (fun ls hl => ?_)
  refine lv_aload_n hx hb d_W_law_619 rfl (lv_at hl 3 rfl) ?_
  refine lv_aload_n hx hb d_W_law_620 rfl (lv_at hl 1 rfl) ?_
  refine lv_iload hx hb d_W_law_621 (lv_at hl 5 rfl) ?_
  refine lv_iconst (v := 1) hx hb d_W_law_623 (by decide) ?_
  refine lv_iadd hx hb d_W_law_624 ?_
  refine w_topi (lc_add ix 1 rfl) ?_
  refine lc_ld hx hb hX hbl ho hS (i := ix + 1) (by omega) hL d_W_law_625 ?_
  refine lv_aload_n hx hb d_W_law_626 rfl (lv_at hl 1 rfl) ?_
  refine lv_iload hx hb d_W_law_627 (lv_at hl 5 rfl) ?_
  refine lv_iconst (v := 2) hx hb d_W_law_629 (by decide) ?_
  refine lv_iadd hx hb d_W_law_630 ?_
  refine w_topi (lc_add ix 2 rfl) ?_
  refine lc_ld hx hb hX hbl ho hS (i := ix + 2) (by omega) hL d_W_law_631 ?_
  refine lv_aload_n hx hb d_W_law_632 rfl (lv_at hl 1 rfl) ?_
  refine lv_iload hx hb d_W_law_633 (lv_at hl 5 rfl) ?_
  refine lv_iconst (v := 3) hx hb d_W_law_635 (by decide) ?_
  refine lv_iadd hx hb d_W_law_636 ?_
  refine w_topi (lc_add ix 3 rfl) ?_
  refine lc_ld hx hb hX hbl ho hS (i := ix + 3) (by omega) hL d_W_law_637 ?_
  refine lv_aload_n hx hb d_W_law_638 rfl (lv_at hl 1 rfl) ?_
  refine lv_iload hx hb d_W_law_639 (lv_at hl 5 rfl) ?_
  refine lv_iconst (v := 4) hx hb d_W_law_641 (by decide) ?_
  refine lv_iadd hx hb d_W_law_642 ?_
  refine w_topi (lc_add ix 4 rfl) ?_
  refine lc_ld hx hb hX hbl ho hS (i := ix + 4) (by omega) hL d_W_law_643 ?_
  refine lc_Vl ⟨hx, hb, hml, hown, hts⟩ (k_M_since l D cA o2 _ N sc2 hsc2 esc2 z2 od2 hse2 (xs (ix + 1)) (xs (ix + 2)) (xs (ix + 3)) (xs (ix + 4))) (kV hts 4 aK_M_since aM_W_113 aI_M_since aV_M_since aN_M nm_M_since rfl rfl ⟨(Nat.le_of_ble_eq_true rfl), (Nat.le_of_ble_eq_true rfl)⟩) hK ho ho2 hqo hP hP2 hO hS rfl hl.1 rfl (Nat.le_of_ble_eq_true rfl) d_W_law_644 ⟨Nat.le_trans (show cells + 2 + 0 ≤ cells + 8 by omega) hc, Nat.le_trans (show slots + 12 + 0 ≤ slots + 48 by omega) hs⟩ (fun rb N1 H locs hw2 hP hP2 hO hS => ?_)
  refine lv_lstore (lv' := [(6, .long rb), (5, .int rk), (0, .ref b), (1, .ref (o + 0)), (2, .ref (o2 + 0)), (3, .ref qo), (4, .int (nI ix))]) hx hb d_W_law_647 hl (by decide) rfl (fun ls hl => ?_)
  refine lv_goto (tgt := 1115) hx hb d_W_law_649 (by decide) ?_
  refine W.widen (k := cells + 8) (n := slots + 48) (by omega) (by omega) ?_
  exact kk rk u rb N1 _ _ ls hw1 hw2 hP hP2 hO hS (lv_sub hl [2, 3, 4, 5, 6] rfl)

set_option maxHeartbeats 4000000 in
set_option maxRecDepth 100000 in
/-- case 8: batch -/
theorem cs_batch0 {p : Program} {l : Launch} {e : Env} {s : State} {m : MethodId} {args : Array Value} {below : List Frame} {meth : Method} {c : Code} {D : va_G} {cA : Nat → ClassId} {o o2 qo b L : Nat} {xs : Nat → Int32} (C : LC p l s m args c D cA o o2 qo b L xs) {Q : State → Prop} {M N : wM} {fo : Nat → Int64} {H : Heap} {locs : List Loc} {cells slots : Nat} {ls : Array Slot} {ix : Nat} (hi : ix + 10 ≤ L) (hbz : xs (ix + 2) = 0) (sc : Nat) (hsc : sc ≤ 8) (esc : M.2.2 0 2 = nI sc) (sc2 : Nat) (hsc2 : sc2 ≤ 8) (esc2 : N.2.2 0 8 = nI sc2) (hP : xP D cA o M H) (hP2 : nP D cA o2 N H) (hO : oP D cA qo fo H) (hS : va_S (fun q => o ≤ q) s.heap H locs) (hl : lv_has ls 8 [(0, .ref b), (1, .ref (o + 0)), (2, .ref (o2 + 0)), (3, .ref qo), (4, .int (nI ix))]) (hc : cells + 8 ≤ room_1.cells) (hs : slots + 48 ≤ room_1.slots) (kk : ∀ (rk : Int32) (u : wM × (Nat → Int64)) (rb : Int32) (N1 : wM) (H1 : Heap) (locs1 : List Loc) (ls1 : Array Slot), (oPost (fun r M1 => ∃ k, k < sc ∧ (xs (ix + 1)) = nI k ∧ (((0 : Int32) = 0 ∧ ((r = 0 ∧ M1 = M ∧ M.2.2 (9 + 3 * k) 4 = -1) ∨ (r = 1 ∧ M1 = wF M (9 + 3 * k) 4 (-1) ∧ ¬ M.2.2 (9 + 3 * k) 4 = -1))) ∨ (¬ (0 : Int32) = 0 ∧ ((r = 0 ∧ M1 = M ∧ ¬ M.2.2 (9 + 3 * k) 4 = -1) ∨ (r = 1 ∧ M1 = wF M (9 + 3 * k) 4 (M.2.2 (9 + 3 * k) 3) ∧ M.2.2 (9 + 3 * k) 4 = -1))))) (fun r : Int32 => if r = 0 then (0 : Int64) else 1) (fun E => E = "java/lang/IndexOutOfBoundsException" ∧ xbad (xs (ix + 1)) (nI sc)) [(1, "java/lang/IndexOutOfBoundsException")] M fo) rk u → (fun r M1 => (r = 0 ∧ M1 = (wF N 0 0 1) ∧ ¬ xin (xs (ix + 1)) (nI sc2)) ∨ (∃ k, k < sc2 ∧ (xs (ix + 1)) = nI k ∧ ((r = 0 ∧ M1 = (wF N 0 0 0) ∧ ((N.1 9 k < 0 ∧ 0 = (0 : Int32)) ∨ (¬ N.1 9 k < 0 ∧ 1 = (0 : Int32)))) ∨ (r = 1 ∧ ((N.1 9 k < 0 ∧ ¬ 0 = (0 : Int32)) ∨ (¬ N.1 9 k < 0 ∧ ¬ 1 = (0 : Int32))) ∧ M1 = wI (wF N 0 0 0) 9 k (if (0 : Int32) = 0 then -1 else N.1 7 k))))) rb N1 → xP D cA o u.1 H1 → nP D cA o2 N1 H1 → oP D cA qo u.2 H1 → va_S (fun q => o ≤ q) s.heap H1 locs1 → lv_has ls1 8 [(0, .ref b), (1, .ref (o + 0)), (2, .ref (o2 + 0)), (3, .ref qo), (4, .int (nI ix))] → W p l e room_1 s m args below meth c H1 locs1 (cells + 8) (slots + 48) Q (F0 m 1115 ls1 [])) : W p l e room_1 s m args below meth c H locs cells slots Q (F0 m 652 ls []) := by
  obtain ⟨hx, hb, hml, hown, hts, hK, hG, hN, hX, hbl, hl9, ho, ho2, hqo, hL⟩ := C
  refine lv_aload_n hx hb d_W_law_652 rfl (lv_at hl 1 rfl) ?_
  refine lv_aload_n hx hb d_W_law_653 rfl (lv_at hl 0 rfl) ?_
  refine lv_iload hx hb d_W_law_654 (lv_at hl 4 rfl) ?_
  refine lv_iconst (v := 1) hx hb d_W_law_656 (by decide) ?_
  refine lv_iadd hx hb d_W_law_657 ?_
  refine w_topi (lc_add ix 1 rfl) ?_
  refine lc_ld hx hb hX hbl ho hS (i := ix + 1) (by omega) hL d_W_law_658 ?_
  refine lv_aload_n hx hb d_W_law_659 rfl (lv_at hl 0 rfl) ?_
  refine lv_iload hx hb d_W_law_660 (lv_at hl 4 rfl) ?_
  refine lv_iconst (v := 2) hx hb d_W_law_662 (by decide) ?_
  refine lv_iadd hx hb d_W_law_663 ?_
  refine w_topi (lc_add ix 2 rfl) ?_
  refine lc_ld hx hb hX hbl ho hS (i := ix + 2) (by omega) hL d_W_law_664 ?_
  refine lv_if_eq (tgt := 672) hx hb d_W_law_665 (by decide) (fun c_1 => ?_) (fun c_1 => ?_)
  · refine lv_iconst (v := 0) hx hb d_W_law_672 (by decide) ?_
    refine lv_aload_n hx hb d_W_law_673 rfl (lv_at hl 3 rfl) ?_
    refine lc_S ⟨hx, hb, hml, hown, hts⟩ (k_W_batch l hl9 D cA o _ qo M fo sc hsc esc (xs (ix + 1)) (0 : Int32)) (kSW hts 4 aK_W_batch aM_W_114 aS_W_batch aN_W nm_W_batch rfl rfl ⟨(Nat.le_of_ble_eq_true rfl), (Nat.le_of_ble_eq_true rfl)⟩) hK hG hN ho ho2 hqo hP hP2 hO hS rfl hl.1 rfl (Nat.le_of_ble_eq_true rfl) d_W_law_674 ⟨Nat.le_trans (show cells + 1 ≤ cells + 8 by omega) hc, Nat.le_trans (show slots + 6 ≤ slots + 48 by omega) hs⟩ (fun rk u H locs hw1 hP hP2 hO hS => ?_)
    refine lv_istore (lv' := [(5, .int rk), (0, .ref b), (1, .ref (o + 0)), (2, .ref (o2 + 0)), (3, .ref qo), (4, .int (nI ix))]) hx hb d_W_law_677 hl (by decide) rfl (fun ls hl => ?_)
    refine lv_aload_n hx hb d_W_law_679 rfl (lv_at hl 3 rfl) ?_
    refine lv_aload_n hx hb d_W_law_680 rfl (lv_at hl 1 rfl) ?_
    refine lv_iload hx hb d_W_law_681 (lv_at hl 5 rfl) ?_
    refine lv_iconst (v := 1) hx hb d_W_law_683 (by decide) ?_
    refine lv_iadd hx hb d_W_law_684 ?_
    refine w_topi (lc_add ix 1 rfl) ?_
    refine lc_ld hx hb hX hbl ho hS (i := ix + 1) (by omega) hL d_W_law_685 ?_
    refine lv_aload_n hx hb d_W_law_686 rfl (lv_at hl 1 rfl) ?_
    refine lv_iload hx hb d_W_law_687 (lv_at hl 5 rfl) ?_
    refine lv_iconst (v := 2) hx hb d_W_law_689 (by decide) ?_
    refine lv_iadd hx hb d_W_law_690 ?_
    refine w_topi (lc_add ix 2 rfl) ?_
    refine lc_ld hx hb hX hbl ho hS (i := ix + 2) (by omega) hL d_W_law_691 ?_
    refine lv_if_eq (tgt := 699) hx hb d_W_law_692 (by decide) (fun c_2 => ?_) (fun c_2 => ?_)
    · refine lv_iconst (v := 0) hx hb d_W_law_699 (by decide) ?_
      refine lc_Vi ⟨hx, hb, hml, hown, hts⟩ (k_M_batch l D cA o2 _ N sc2 hsc2 esc2 (xs (ix + 1)) (0 : Int32)) (kV hts 2 aK_M_batch aM_W_117 aI_M_batch aV_M_batch aN_M nm_M_batch rfl rfl ⟨(Nat.le_of_ble_eq_true rfl), (Nat.le_of_ble_eq_true rfl)⟩) hK ho ho2 hqo hP hP2 hO hS rfl hl.1 rfl (Nat.le_of_ble_eq_true rfl) d_W_law_700 ⟨Nat.le_trans (show cells + 1 + 0 ≤ cells + 8 by omega) hc, Nat.le_trans (show slots + 6 + 0 ≤ slots + 48 by omega) hs⟩ (fun rb N1 H locs hw2 hP hP2 hO hS => ?_)
      refine lv_istore (lv' := [(6, .int rb), (5, .int rk), (0, .ref b), (1, .ref (o + 0)), (2, .ref (o2 + 0)), (3, .ref qo), (4, .int (nI ix))]) hx hb d_W_law_703 hl (by decide) rfl (fun ls hl => ?_)
      refine lv_goto (tgt := 1115) hx hb d_W_law_705 (by decide) ?_
      refine W.widen (k := cells + 8) (n := slots + 48) (by omega) (by omega) ?_
      exact kk rk u rb N1 _ _ ls hw1 hw2 hP hP2 hO hS (lv_sub hl [2, 3, 4, 5, 6] rfl)
    · exact absurd hbz c_2
  · exact absurd hbz c_1

set_option maxHeartbeats 4000000 in
set_option maxRecDepth 100000 in
/-- case 8: batch -/
theorem cs_batch1 {p : Program} {l : Launch} {e : Env} {s : State} {m : MethodId} {args : Array Value} {below : List Frame} {meth : Method} {c : Code} {D : va_G} {cA : Nat → ClassId} {o o2 qo b L : Nat} {xs : Nat → Int32} (C : LC p l s m args c D cA o o2 qo b L xs) {Q : State → Prop} {M N : wM} {fo : Nat → Int64} {H : Heap} {locs : List Loc} {cells slots : Nat} {ls : Array Slot} {ix : Nat} (hi : ix + 10 ≤ L) (hbz : ¬ xs (ix + 2) = 0) (sc : Nat) (hsc : sc ≤ 8) (esc : M.2.2 0 2 = nI sc) (sc2 : Nat) (hsc2 : sc2 ≤ 8) (esc2 : N.2.2 0 8 = nI sc2) (hP : xP D cA o M H) (hP2 : nP D cA o2 N H) (hO : oP D cA qo fo H) (hS : va_S (fun q => o ≤ q) s.heap H locs) (hl : lv_has ls 8 [(0, .ref b), (1, .ref (o + 0)), (2, .ref (o2 + 0)), (3, .ref qo), (4, .int (nI ix))]) (hc : cells + 8 ≤ room_1.cells) (hs : slots + 48 ≤ room_1.slots) (kk : ∀ (rk : Int32) (u : wM × (Nat → Int64)) (rb : Int32) (N1 : wM) (H1 : Heap) (locs1 : List Loc) (ls1 : Array Slot), (oPost (fun r M1 => ∃ k, k < sc ∧ (xs (ix + 1)) = nI k ∧ (((1 : Int32) = 0 ∧ ((r = 0 ∧ M1 = M ∧ M.2.2 (9 + 3 * k) 4 = -1) ∨ (r = 1 ∧ M1 = wF M (9 + 3 * k) 4 (-1) ∧ ¬ M.2.2 (9 + 3 * k) 4 = -1))) ∨ (¬ (1 : Int32) = 0 ∧ ((r = 0 ∧ M1 = M ∧ ¬ M.2.2 (9 + 3 * k) 4 = -1) ∨ (r = 1 ∧ M1 = wF M (9 + 3 * k) 4 (M.2.2 (9 + 3 * k) 3) ∧ M.2.2 (9 + 3 * k) 4 = -1))))) (fun r : Int32 => if r = 0 then (0 : Int64) else 1) (fun E => E = "java/lang/IndexOutOfBoundsException" ∧ xbad (xs (ix + 1)) (nI sc)) [(1, "java/lang/IndexOutOfBoundsException")] M fo) rk u → (fun r M1 => (r = 0 ∧ M1 = (wF N 0 0 1) ∧ ¬ xin (xs (ix + 1)) (nI sc2)) ∨ (∃ k, k < sc2 ∧ (xs (ix + 1)) = nI k ∧ ((r = 0 ∧ M1 = (wF N 0 0 0) ∧ ((N.1 9 k < 0 ∧ 0 = (1 : Int32)) ∨ (¬ N.1 9 k < 0 ∧ 1 = (1 : Int32)))) ∨ (r = 1 ∧ ((N.1 9 k < 0 ∧ ¬ 0 = (1 : Int32)) ∨ (¬ N.1 9 k < 0 ∧ ¬ 1 = (1 : Int32))) ∧ M1 = wI (wF N 0 0 0) 9 k (if (1 : Int32) = 0 then -1 else N.1 7 k))))) rb N1 → xP D cA o u.1 H1 → nP D cA o2 N1 H1 → oP D cA qo u.2 H1 → va_S (fun q => o ≤ q) s.heap H1 locs1 → lv_has ls1 8 [(0, .ref b), (1, .ref (o + 0)), (2, .ref (o2 + 0)), (3, .ref qo), (4, .int (nI ix))] → W p l e room_1 s m args below meth c H1 locs1 (cells + 8) (slots + 48) Q (F0 m 1115 ls1 [])) : W p l e room_1 s m args below meth c H locs cells slots Q (F0 m 652 ls []) := by
  obtain ⟨hx, hb, hml, hown, hts, hK, hG, hN, hX, hbl, hl9, ho, ho2, hqo, hL⟩ := C
  refine lv_aload_n hx hb d_W_law_652 rfl (lv_at hl 1 rfl) ?_
  refine lv_aload_n hx hb d_W_law_653 rfl (lv_at hl 0 rfl) ?_
  refine lv_iload hx hb d_W_law_654 (lv_at hl 4 rfl) ?_
  refine lv_iconst (v := 1) hx hb d_W_law_656 (by decide) ?_
  refine lv_iadd hx hb d_W_law_657 ?_
  refine w_topi (lc_add ix 1 rfl) ?_
  refine lc_ld hx hb hX hbl ho hS (i := ix + 1) (by omega) hL d_W_law_658 ?_
  refine lv_aload_n hx hb d_W_law_659 rfl (lv_at hl 0 rfl) ?_
  refine lv_iload hx hb d_W_law_660 (lv_at hl 4 rfl) ?_
  refine lv_iconst (v := 2) hx hb d_W_law_662 (by decide) ?_
  refine lv_iadd hx hb d_W_law_663 ?_
  refine w_topi (lc_add ix 2 rfl) ?_
  refine lc_ld hx hb hX hbl ho hS (i := ix + 2) (by omega) hL d_W_law_664 ?_
  refine lv_if_eq (tgt := 672) hx hb d_W_law_665 (by decide) (fun c_1 => ?_) (fun c_1 => ?_)
  · exact absurd c_1 hbz
  · refine lv_iconst (v := 1) hx hb d_W_law_668 (by decide) ?_
    refine lv_goto (tgt := 673) hx hb d_W_law_669 (by decide) ?_
    refine lv_aload_n hx hb d_W_law_673 rfl (lv_at hl 3 rfl) ?_
    refine lc_S ⟨hx, hb, hml, hown, hts⟩ (k_W_batch l hl9 D cA o _ qo M fo sc hsc esc (xs (ix + 1)) (1 : Int32)) (kSW hts 4 aK_W_batch aM_W_114 aS_W_batch aN_W nm_W_batch rfl rfl ⟨(Nat.le_of_ble_eq_true rfl), (Nat.le_of_ble_eq_true rfl)⟩) hK hG hN ho ho2 hqo hP hP2 hO hS rfl hl.1 rfl (Nat.le_of_ble_eq_true rfl) d_W_law_674 ⟨Nat.le_trans (show cells + 1 ≤ cells + 8 by omega) hc, Nat.le_trans (show slots + 6 ≤ slots + 48 by omega) hs⟩ (fun rk u H locs hw1 hP hP2 hO hS => ?_)
    refine lv_istore (lv' := [(5, .int rk), (0, .ref b), (1, .ref (o + 0)), (2, .ref (o2 + 0)), (3, .ref qo), (4, .int (nI ix))]) hx hb d_W_law_677 hl (by decide) rfl (fun ls hl => ?_)
    refine lv_aload_n hx hb d_W_law_679 rfl (lv_at hl 3 rfl) ?_
    refine lv_aload_n hx hb d_W_law_680 rfl (lv_at hl 1 rfl) ?_
    refine lv_iload hx hb d_W_law_681 (lv_at hl 5 rfl) ?_
    refine lv_iconst (v := 1) hx hb d_W_law_683 (by decide) ?_
    refine lv_iadd hx hb d_W_law_684 ?_
    refine w_topi (lc_add ix 1 rfl) ?_
    refine lc_ld hx hb hX hbl ho hS (i := ix + 1) (by omega) hL d_W_law_685 ?_
    refine lv_aload_n hx hb d_W_law_686 rfl (lv_at hl 1 rfl) ?_
    refine lv_iload hx hb d_W_law_687 (lv_at hl 5 rfl) ?_
    refine lv_iconst (v := 2) hx hb d_W_law_689 (by decide) ?_
    refine lv_iadd hx hb d_W_law_690 ?_
    refine w_topi (lc_add ix 2 rfl) ?_
    refine lc_ld hx hb hX hbl ho hS (i := ix + 2) (by omega) hL d_W_law_691 ?_
    refine lv_if_eq (tgt := 699) hx hb d_W_law_692 (by decide) (fun c_2 => ?_) (fun c_2 => ?_)
    · exact absurd c_2 hbz
    · refine lv_iconst (v := 1) hx hb d_W_law_695 (by decide) ?_
      refine lv_goto (tgt := 700) hx hb d_W_law_696 (by decide) ?_
      refine lc_Vi ⟨hx, hb, hml, hown, hts⟩ (k_M_batch l D cA o2 _ N sc2 hsc2 esc2 (xs (ix + 1)) (1 : Int32)) (kV hts 2 aK_M_batch aM_W_117 aI_M_batch aV_M_batch aN_M nm_M_batch rfl rfl ⟨(Nat.le_of_ble_eq_true rfl), (Nat.le_of_ble_eq_true rfl)⟩) hK ho ho2 hqo hP hP2 hO hS rfl hl.1 rfl (Nat.le_of_ble_eq_true rfl) d_W_law_700 ⟨Nat.le_trans (show cells + 1 + 0 ≤ cells + 8 by omega) hc, Nat.le_trans (show slots + 6 + 0 ≤ slots + 48 by omega) hs⟩ (fun rb N1 H locs hw2 hP hP2 hO hS => ?_)
      refine lv_istore (lv' := [(6, .int rb), (5, .int rk), (0, .ref b), (1, .ref (o + 0)), (2, .ref (o2 + 0)), (3, .ref qo), (4, .int (nI ix))]) hx hb d_W_law_703 hl (by decide) rfl (fun ls hl => ?_)
      refine lv_goto (tgt := 1115) hx hb d_W_law_705 (by decide) ?_
      refine W.widen (k := cells + 8) (n := slots + 48) (by omega) (by omega) ?_
      exact kk rk u rb N1 _ _ ls hw1 hw2 hP hP2 hO hS (lv_sub hl [2, 3, 4, 5, 6] rfl)

set_option maxHeartbeats 4000000 in
set_option maxRecDepth 100000 in
/-- case 9: right -/
theorem cs_right0 {p : Program} {l : Launch} {e : Env} {s : State} {m : MethodId} {args : Array Value} {below : List Frame} {meth : Method} {c : Code} {D : va_G} {cA : Nat → ClassId} {o o2 qo b L : Nat} {xs : Nat → Int32} (C : LC p l s m args c D cA o o2 qo b L xs) {Q : State → Prop} {M N : wM} {fo : Nat → Int64} {H : Heap} {locs : List Loc} {cells slots : Nat} {ls : Array Slot} {ix : Nat} (hi : ix + 10 ≤ L) (hbz : xs (ix + 3) = 0)  (hP : xP D cA o M H) (hP2 : nP D cA o2 N H) (hO : oP D cA qo fo H) (hS : va_S (fun q => o ≤ q) s.heap H locs) (hl : lv_has ls 8 [(0, .ref b), (1, .ref (o + 0)), (2, .ref (o2 + 0)), (3, .ref qo), (4, .int (nI ix))]) (hc : cells + 8 ≤ room_1.cells) (hs : slots + 48 ≤ room_1.slots) (kk : ∀ (rk : Int32) (u : wM × (Nat → Int64)) (rb : Int32) (N1 : wM) (H1 : Heap) (locs1 : List Loc) (ls1 : Array Slot), (oPost (fun r M1 => ∃ a b, a < 4 ∧ b < 4 ∧ (xs (ix + 1)) = nI a ∧ (xs (ix + 2)) = nI b ∧ M1 = wI M 33 (a * 4 + b) (0 : Int32) ∧ r = b2i (decide (¬ M.1 33 (a * 4 + b) = (0 : Int32)))) (fun r : Int32 => if r = 0 then (0 : Int64) else 1) (fun E => (E = "java/lang/IndexOutOfBoundsException" ∧ xbad (xs (ix + 1)) 4) ∨ (E = "java/lang/IllegalArgumentException" ∧ xin (xs (ix + 1)) 4 ∧ xbad (xs (ix + 2)) 4)) [(1, "java/lang/IndexOutOfBoundsException"), (2, "java/lang/IllegalArgumentException")] M fo) rk u → (fun r M1 => (r = 0 ∧ M1 = (wF N 0 0 1) ∧ ¬ xin (xs (ix + 1)) 4) ∨ (r = 0 ∧ M1 = (wF N 0 0 2) ∧ xin (xs (ix + 1)) 4 ∧ ¬ xin (xs (ix + 2)) 4) ∨ (∃ a b, a < 4 ∧ b < 4 ∧ (xs (ix + 1)) = nI a ∧ (xs (ix + 2)) = nI b ∧ ((r = 0 ∧ M1 = (wF N 0 0 0) ∧ N.1 10 (4 * a + b) = (0 : Int32)) ∨ (r = 1 ∧ M1 = wI (wF N 0 0 0) 10 (4 * a + b) (0 : Int32) ∧ ¬ N.1 10 (4 * a + b) = (0 : Int32))))) rb N1 → xP D cA o u.1 H1 → nP D cA o2 N1 H1 → oP D cA qo u.2 H1 → va_S (fun q => o ≤ q) s.heap H1 locs1 → lv_has ls1 8 [(0, .ref b), (1, .ref (o + 0)), (2, .ref (o2 + 0)), (3, .ref qo), (4, .int (nI ix))] → W p l e room_1 s m args below meth c H1 locs1 (cells + 8) (slots + 48) Q (F0 m 1115 ls1 [])) : W p l e room_1 s m args below meth c H locs cells slots Q (F0 m 708 ls []) := by
  obtain ⟨hx, hb, hml, hown, hts, hK, hG, hN, hX, hbl, hl9, ho, ho2, hqo, hL⟩ := C
  refine lv_aload_n hx hb d_W_law_708 rfl (lv_at hl 1 rfl) ?_
  refine lv_aload_n hx hb d_W_law_709 rfl (lv_at hl 0 rfl) ?_
  refine lv_iload hx hb d_W_law_710 (lv_at hl 4 rfl) ?_
  refine lv_iconst (v := 1) hx hb d_W_law_712 (by decide) ?_
  refine lv_iadd hx hb d_W_law_713 ?_
  refine w_topi (lc_add ix 1 rfl) ?_
  refine lc_ld hx hb hX hbl ho hS (i := ix + 1) (by omega) hL d_W_law_714 ?_
  refine lv_aload_n hx hb d_W_law_715 rfl (lv_at hl 0 rfl) ?_
  refine lv_iload hx hb d_W_law_716 (lv_at hl 4 rfl) ?_
  refine lv_iconst (v := 2) hx hb d_W_law_718 (by decide) ?_
  refine lv_iadd hx hb d_W_law_719 ?_
  refine w_topi (lc_add ix 2 rfl) ?_
  refine lc_ld hx hb hX hbl ho hS (i := ix + 2) (by omega) hL d_W_law_720 ?_
  refine lv_aload_n hx hb d_W_law_721 rfl (lv_at hl 0 rfl) ?_
  refine lv_iload hx hb d_W_law_722 (lv_at hl 4 rfl) ?_
  refine lv_iconst (v := 3) hx hb d_W_law_724 (by decide) ?_
  refine lv_iadd hx hb d_W_law_725 ?_
  refine w_topi (lc_add ix 3 rfl) ?_
  refine lc_ld hx hb hX hbl ho hS (i := ix + 3) (by omega) hL d_W_law_726 ?_
  refine lv_if_eq (tgt := 734) hx hb d_W_law_727 (by decide) (fun c_1 => ?_) (fun c_1 => ?_)
  · refine lv_iconst (v := 0) hx hb d_W_law_734 (by decide) ?_
    refine lv_aload_n hx hb d_W_law_735 rfl (lv_at hl 3 rfl) ?_
    refine lc_S ⟨hx, hb, hml, hown, hts⟩ (k_W_right l hl9 D cA o _ qo M fo (xs (ix + 1)) (xs (ix + 2)) (0 : Int32) rfl) (kSW hts 5 aK_W_right aM_W_118 aS_W_right aN_W nm_W_right rfl rfl ⟨(Nat.le_of_ble_eq_true rfl), (Nat.le_of_ble_eq_true rfl)⟩) hK hG hN ho ho2 hqo hP hP2 hO hS rfl hl.1 rfl (Nat.le_of_ble_eq_true rfl) d_W_law_736 ⟨Nat.le_trans (show cells + 2 ≤ cells + 8 by omega) hc, Nat.le_trans (show slots + 12 ≤ slots + 48 by omega) hs⟩ (fun rk u H locs hw1 hP hP2 hO hS => ?_)
    refine lv_istore (lv' := [(5, .int rk), (0, .ref b), (1, .ref (o + 0)), (2, .ref (o2 + 0)), (3, .ref qo), (4, .int (nI ix))]) hx hb d_W_law_739 hl (by decide) rfl (fun ls hl => ?_)
    refine lv_aload_n hx hb d_W_law_741 rfl (lv_at hl 3 rfl) ?_
    refine lv_aload_n hx hb d_W_law_742 rfl (lv_at hl 1 rfl) ?_
    refine lv_iload hx hb d_W_law_743 (lv_at hl 5 rfl) ?_
    refine lv_iconst (v := 1) hx hb d_W_law_745 (by decide) ?_
    refine lv_iadd hx hb d_W_law_746 ?_
    refine w_topi (lc_add ix 1 rfl) ?_
    refine lc_ld hx hb hX hbl ho hS (i := ix + 1) (by omega) hL d_W_law_747 ?_
    refine lv_aload_n hx hb d_W_law_748 rfl (lv_at hl 1 rfl) ?_
    refine lv_iload hx hb d_W_law_749 (lv_at hl 5 rfl) ?_
    refine lv_iconst (v := 2) hx hb d_W_law_751 (by decide) ?_
    refine lv_iadd hx hb d_W_law_752 ?_
    refine w_topi (lc_add ix 2 rfl) ?_
    refine lc_ld hx hb hX hbl ho hS (i := ix + 2) (by omega) hL d_W_law_753 ?_
    refine lv_aload_n hx hb d_W_law_754 rfl (lv_at hl 1 rfl) ?_
    refine lv_iload hx hb d_W_law_755 (lv_at hl 5 rfl) ?_
    refine lv_iconst (v := 3) hx hb d_W_law_757 (by decide) ?_
    refine lv_iadd hx hb d_W_law_758 ?_
    refine w_topi (lc_add ix 3 rfl) ?_
    refine lc_ld hx hb hX hbl ho hS (i := ix + 3) (by omega) hL d_W_law_759 ?_
    refine lv_if_eq (tgt := 767) hx hb d_W_law_760 (by decide) (fun c_2 => ?_) (fun c_2 => ?_)
    · refine lv_iconst (v := 0) hx hb d_W_law_767 (by decide) ?_
      refine lc_Vi ⟨hx, hb, hml, hown, hts⟩ (k_M_right l D cA o2 _ N (xs (ix + 1)) (xs (ix + 2)) (0 : Int32) rfl) (kV hts 3 aK_M_right aM_W_121 aI_M_right aV_M_right aN_M nm_M_right rfl rfl ⟨(Nat.le_of_ble_eq_true rfl), (Nat.le_of_ble_eq_true rfl)⟩) hK ho ho2 hqo hP hP2 hO hS rfl hl.1 rfl (Nat.le_of_ble_eq_true rfl) d_W_law_768 ⟨Nat.le_trans (show cells + 2 + 0 ≤ cells + 8 by omega) hc, Nat.le_trans (show slots + 12 + 0 ≤ slots + 48 by omega) hs⟩ (fun rb N1 H locs hw2 hP hP2 hO hS => ?_)
      refine lv_istore (lv' := [(6, .int rb), (5, .int rk), (0, .ref b), (1, .ref (o + 0)), (2, .ref (o2 + 0)), (3, .ref qo), (4, .int (nI ix))]) hx hb d_W_law_771 hl (by decide) rfl (fun ls hl => ?_)
      refine lv_goto (tgt := 1115) hx hb d_W_law_773 (by decide) ?_
      refine W.widen (k := cells + 8) (n := slots + 48) (by omega) (by omega) ?_
      exact kk rk u rb N1 _ _ ls hw1 hw2 hP hP2 hO hS (lv_sub hl [2, 3, 4, 5, 6] rfl)
    · exact absurd hbz c_2
  · exact absurd hbz c_1

set_option maxHeartbeats 4000000 in
set_option maxRecDepth 100000 in
/-- case 9: right -/
theorem cs_right1 {p : Program} {l : Launch} {e : Env} {s : State} {m : MethodId} {args : Array Value} {below : List Frame} {meth : Method} {c : Code} {D : va_G} {cA : Nat → ClassId} {o o2 qo b L : Nat} {xs : Nat → Int32} (C : LC p l s m args c D cA o o2 qo b L xs) {Q : State → Prop} {M N : wM} {fo : Nat → Int64} {H : Heap} {locs : List Loc} {cells slots : Nat} {ls : Array Slot} {ix : Nat} (hi : ix + 10 ≤ L) (hbz : ¬ xs (ix + 3) = 0)  (hP : xP D cA o M H) (hP2 : nP D cA o2 N H) (hO : oP D cA qo fo H) (hS : va_S (fun q => o ≤ q) s.heap H locs) (hl : lv_has ls 8 [(0, .ref b), (1, .ref (o + 0)), (2, .ref (o2 + 0)), (3, .ref qo), (4, .int (nI ix))]) (hc : cells + 8 ≤ room_1.cells) (hs : slots + 48 ≤ room_1.slots) (kk : ∀ (rk : Int32) (u : wM × (Nat → Int64)) (rb : Int32) (N1 : wM) (H1 : Heap) (locs1 : List Loc) (ls1 : Array Slot), (oPost (fun r M1 => ∃ a b, a < 4 ∧ b < 4 ∧ (xs (ix + 1)) = nI a ∧ (xs (ix + 2)) = nI b ∧ M1 = wI M 33 (a * 4 + b) (1 : Int32) ∧ r = b2i (decide (¬ M.1 33 (a * 4 + b) = (1 : Int32)))) (fun r : Int32 => if r = 0 then (0 : Int64) else 1) (fun E => (E = "java/lang/IndexOutOfBoundsException" ∧ xbad (xs (ix + 1)) 4) ∨ (E = "java/lang/IllegalArgumentException" ∧ xin (xs (ix + 1)) 4 ∧ xbad (xs (ix + 2)) 4)) [(1, "java/lang/IndexOutOfBoundsException"), (2, "java/lang/IllegalArgumentException")] M fo) rk u → (fun r M1 => (r = 0 ∧ M1 = (wF N 0 0 1) ∧ ¬ xin (xs (ix + 1)) 4) ∨ (r = 0 ∧ M1 = (wF N 0 0 2) ∧ xin (xs (ix + 1)) 4 ∧ ¬ xin (xs (ix + 2)) 4) ∨ (∃ a b, a < 4 ∧ b < 4 ∧ (xs (ix + 1)) = nI a ∧ (xs (ix + 2)) = nI b ∧ ((r = 0 ∧ M1 = (wF N 0 0 0) ∧ N.1 10 (4 * a + b) = (1 : Int32)) ∨ (r = 1 ∧ M1 = wI (wF N 0 0 0) 10 (4 * a + b) (1 : Int32) ∧ ¬ N.1 10 (4 * a + b) = (1 : Int32))))) rb N1 → xP D cA o u.1 H1 → nP D cA o2 N1 H1 → oP D cA qo u.2 H1 → va_S (fun q => o ≤ q) s.heap H1 locs1 → lv_has ls1 8 [(0, .ref b), (1, .ref (o + 0)), (2, .ref (o2 + 0)), (3, .ref qo), (4, .int (nI ix))] → W p l e room_1 s m args below meth c H1 locs1 (cells + 8) (slots + 48) Q (F0 m 1115 ls1 [])) : W p l e room_1 s m args below meth c H locs cells slots Q (F0 m 708 ls []) := by
  obtain ⟨hx, hb, hml, hown, hts, hK, hG, hN, hX, hbl, hl9, ho, ho2, hqo, hL⟩ := C
  refine lv_aload_n hx hb d_W_law_708 rfl (lv_at hl 1 rfl) ?_
  refine lv_aload_n hx hb d_W_law_709 rfl (lv_at hl 0 rfl) ?_
  refine lv_iload hx hb d_W_law_710 (lv_at hl 4 rfl) ?_
  refine lv_iconst (v := 1) hx hb d_W_law_712 (by decide) ?_
  refine lv_iadd hx hb d_W_law_713 ?_
  refine w_topi (lc_add ix 1 rfl) ?_
  refine lc_ld hx hb hX hbl ho hS (i := ix + 1) (by omega) hL d_W_law_714 ?_
  refine lv_aload_n hx hb d_W_law_715 rfl (lv_at hl 0 rfl) ?_
  refine lv_iload hx hb d_W_law_716 (lv_at hl 4 rfl) ?_
  refine lv_iconst (v := 2) hx hb d_W_law_718 (by decide) ?_
  refine lv_iadd hx hb d_W_law_719 ?_
  refine w_topi (lc_add ix 2 rfl) ?_
  refine lc_ld hx hb hX hbl ho hS (i := ix + 2) (by omega) hL d_W_law_720 ?_
  refine lv_aload_n hx hb d_W_law_721 rfl (lv_at hl 0 rfl) ?_
  refine lv_iload hx hb d_W_law_722 (lv_at hl 4 rfl) ?_
  refine lv_iconst (v := 3) hx hb d_W_law_724 (by decide) ?_
  refine lv_iadd hx hb d_W_law_725 ?_
  refine w_topi (lc_add ix 3 rfl) ?_
  refine lc_ld hx hb hX hbl ho hS (i := ix + 3) (by omega) hL d_W_law_726 ?_
  refine lv_if_eq (tgt := 734) hx hb d_W_law_727 (by decide) (fun c_1 => ?_) (fun c_1 => ?_)
  · exact absurd c_1 hbz
  · refine lv_iconst (v := 1) hx hb d_W_law_730 (by decide) ?_
    refine lv_goto (tgt := 735) hx hb d_W_law_731 (by decide) ?_
    refine lv_aload_n hx hb d_W_law_735 rfl (lv_at hl 3 rfl) ?_
    refine lc_S ⟨hx, hb, hml, hown, hts⟩ (k_W_right l hl9 D cA o _ qo M fo (xs (ix + 1)) (xs (ix + 2)) (1 : Int32) rfl) (kSW hts 5 aK_W_right aM_W_118 aS_W_right aN_W nm_W_right rfl rfl ⟨(Nat.le_of_ble_eq_true rfl), (Nat.le_of_ble_eq_true rfl)⟩) hK hG hN ho ho2 hqo hP hP2 hO hS rfl hl.1 rfl (Nat.le_of_ble_eq_true rfl) d_W_law_736 ⟨Nat.le_trans (show cells + 2 ≤ cells + 8 by omega) hc, Nat.le_trans (show slots + 12 ≤ slots + 48 by omega) hs⟩ (fun rk u H locs hw1 hP hP2 hO hS => ?_)
    refine lv_istore (lv' := [(5, .int rk), (0, .ref b), (1, .ref (o + 0)), (2, .ref (o2 + 0)), (3, .ref qo), (4, .int (nI ix))]) hx hb d_W_law_739 hl (by decide) rfl (fun ls hl => ?_)
    refine lv_aload_n hx hb d_W_law_741 rfl (lv_at hl 3 rfl) ?_
    refine lv_aload_n hx hb d_W_law_742 rfl (lv_at hl 1 rfl) ?_
    refine lv_iload hx hb d_W_law_743 (lv_at hl 5 rfl) ?_
    refine lv_iconst (v := 1) hx hb d_W_law_745 (by decide) ?_
    refine lv_iadd hx hb d_W_law_746 ?_
    refine w_topi (lc_add ix 1 rfl) ?_
    refine lc_ld hx hb hX hbl ho hS (i := ix + 1) (by omega) hL d_W_law_747 ?_
    refine lv_aload_n hx hb d_W_law_748 rfl (lv_at hl 1 rfl) ?_
    refine lv_iload hx hb d_W_law_749 (lv_at hl 5 rfl) ?_
    refine lv_iconst (v := 2) hx hb d_W_law_751 (by decide) ?_
    refine lv_iadd hx hb d_W_law_752 ?_
    refine w_topi (lc_add ix 2 rfl) ?_
    refine lc_ld hx hb hX hbl ho hS (i := ix + 2) (by omega) hL d_W_law_753 ?_
    refine lv_aload_n hx hb d_W_law_754 rfl (lv_at hl 1 rfl) ?_
    refine lv_iload hx hb d_W_law_755 (lv_at hl 5 rfl) ?_
    refine lv_iconst (v := 3) hx hb d_W_law_757 (by decide) ?_
    refine lv_iadd hx hb d_W_law_758 ?_
    refine w_topi (lc_add ix 3 rfl) ?_
    refine lc_ld hx hb hX hbl ho hS (i := ix + 3) (by omega) hL d_W_law_759 ?_
    refine lv_if_eq (tgt := 767) hx hb d_W_law_760 (by decide) (fun c_2 => ?_) (fun c_2 => ?_)
    · exact absurd c_2 hbz
    · refine lv_iconst (v := 1) hx hb d_W_law_763 (by decide) ?_
      refine lv_goto (tgt := 768) hx hb d_W_law_764 (by decide) ?_
      refine lc_Vi ⟨hx, hb, hml, hown, hts⟩ (k_M_right l D cA o2 _ N (xs (ix + 1)) (xs (ix + 2)) (1 : Int32) rfl) (kV hts 3 aK_M_right aM_W_121 aI_M_right aV_M_right aN_M nm_M_right rfl rfl ⟨(Nat.le_of_ble_eq_true rfl), (Nat.le_of_ble_eq_true rfl)⟩) hK ho ho2 hqo hP hP2 hO hS rfl hl.1 rfl (Nat.le_of_ble_eq_true rfl) d_W_law_768 ⟨Nat.le_trans (show cells + 2 + 0 ≤ cells + 8 by omega) hc, Nat.le_trans (show slots + 12 + 0 ≤ slots + 48 by omega) hs⟩ (fun rb N1 H locs hw2 hP hP2 hO hS => ?_)
      refine lv_istore (lv' := [(6, .int rb), (5, .int rk), (0, .ref b), (1, .ref (o + 0)), (2, .ref (o2 + 0)), (3, .ref qo), (4, .int (nI ix))]) hx hb d_W_law_771 hl (by decide) rfl (fun ls hl => ?_)
      refine lv_goto (tgt := 1115) hx hb d_W_law_773 (by decide) ?_
      refine W.widen (k := cells + 8) (n := slots + 48) (by omega) (by omega) ?_
      exact kk rk u rb N1 _ _ ls hw1 hw2 hP hP2 hO hS (lv_sub hl [2, 3, 4, 5, 6] rfl)

set_option maxHeartbeats 4000000 in
set_option maxRecDepth 100000 in
/-- case 10: seen -/
theorem cs_seen {p : Program} {l : Launch} {e : Env} {s : State} {m : MethodId} {args : Array Value} {below : List Frame} {meth : Method} {c : Code} {D : va_G} {cA : Nat → ClassId} {o o2 qo b L : Nat} {xs : Nat → Int32} (C : LC p l s m args c D cA o o2 qo b L xs) {Q : State → Prop} {M N : wM} {fo : Nat → Int64} {H : Heap} {locs : List Loc} {cells slots : Nat} {ls : Array Slot} {ix : Nat} (hi : ix + 10 ≤ L)  (sc : Nat) (hsc : sc ≤ 8) (esc : M.2.2 0 2 = nI sc) (z : Nat → Nat) (od : Nat → Nat → Nat) (hse : xSets M z od) (bs : Nat → Nat) (hbs : ∀ s, s < 8 → bs s ≤ z s ∧ (if M.2.2 (9 + 3 * s) 4 = -1 then M.2.2 (9 + 3 * s) 3 else M.2.2 (9 + 3 * s) 4) = nI (bs s)) (sc2 : Nat) (hsc2 : sc2 ≤ 8) (esc2 : N.2.2 0 8 = nI sc2) (z2 : Nat → Nat) (od2 : Nat → Nat → Nat) (hse2 : ySets N z2 od2) (bs2 : Nat → Nat) (hbs2 : ∀ s, s < 8 → bs2 s ≤ z2 s ∧ (N.1 9 s < 0 → bs2 s = z2 s) ∧ (¬ N.1 9 s < 0 → N.1 9 s = nI (bs2 s))) (hP : xP D cA o M H) (hP2 : nP D cA o2 N H) (hO : oP D cA qo fo H) (hS : va_S (fun q => o ≤ q) s.heap H locs) (hl : lv_has ls 8 [(0, .ref b), (1, .ref (o + 0)), (2, .ref (o2 + 0)), (3, .ref qo), (4, .int (nI ix))]) (hc : cells + 8 ≤ room_1.cells) (hs : slots + 48 ≤ room_1.slots) (hcmp : ∀ (rk : Int32) (u : wM × (Nat → Int64)) (rb : Int64) (N1 : wM), (oPost (fun r M1 => M1 = M ∧ xin (xs (ix + 3)) 10 ∧ ∃ a b k, a < 4 ∧ b < 4 ∧ (xs (ix + 1)) = nI a ∧ (xs (ix + 4)) = nI b ∧ ¬ M.1 33 (a * 4 + b) = 0 ∧ k < sc ∧ (xs (ix + 2)) = nI k ∧ r = x_known M (od k) (xs (ix + 3)) (xs (ix + 4)) 9223372036854775807 (bs k)) (fun r : Int64 => r) (fun E => (E = "java/lang/IndexOutOfBoundsException" ∧ (xbad (xs (ix + 1)) 4 ∨ xbad (xs (ix + 2)) (nI sc) ∨ xbad (xs (ix + 3)) 10)) ∨ (E = "java/lang/IllegalArgumentException" ∧ xin (xs (ix + 1)) 4 ∧ xin (xs (ix + 2)) (nI sc) ∧ xin (xs (ix + 3)) 10 ∧ xbad (xs (ix + 4)) 4) ∨ (E = "java/lang/IllegalStateException" ∧ xin (xs (ix + 2)) (nI sc) ∧ xin (xs (ix + 3)) 10 ∧ ∃ a b, a < 4 ∧ b < 4 ∧ (xs (ix + 1)) = nI a ∧ (xs (ix + 4)) = nI b ∧ M.1 33 (a * 4 + b) = 0)) [(1, "java/lang/IndexOutOfBoundsException"), (2, "java/lang/IllegalArgumentException"), (3, "java/lang/IllegalStateException")] M fo) rk u → (fun r M1 => (M1 = (wF N 0 0 1) ∧ ¬ (xin (xs (ix + 1)) 4 ∧ xin (xs (ix + 2)) (nI sc2) ∧ xin (xs (ix + 3)) 10)) ∨ (M1 = (wF N 0 0 2) ∧ xin (xs (ix + 1)) 4 ∧ xin (xs (ix + 2)) (nI sc2) ∧ xin (xs (ix + 3)) 10 ∧ ¬ xin (xs (ix + 4)) 4) ∨ (xin (xs (ix + 2)) (nI sc2) ∧ xin (xs (ix + 3)) 10 ∧ ∃ a b, a < 4 ∧ b < 4 ∧ (xs (ix + 1)) = nI a ∧ (xs (ix + 4)) = nI b ∧ ((M1 = (wF N 0 0 3) ∧ N.1 10 (4 * a + b) = 0) ∨ (M1 = (wF N 0 0 0) ∧ ¬ N.1 10 (4 * a + b) = 0 ∧ ∃ k, k < sc2 ∧ (xs (ix + 2)) = nI k ∧ r = y_known (wF N 0 0 0) (od2 k) (xs (ix + 3)) (xs (ix + 4)) 9223372036854775807 (bs2 k))))) rb N1 → cmpOk (fun r : Int64 => r) rk u.2 rb N1) (kk : ∀ (rk : Int32) (u : wM × (Nat → Int64)) (rb : Int64) (N1 : wM) (H1 : Heap) (locs1 : List Loc) (ls1 : Array Slot), (oPost (fun r M1 => M1 = M ∧ xin (xs (ix + 3)) 10 ∧ ∃ a b k, a < 4 ∧ b < 4 ∧ (xs (ix + 1)) = nI a ∧ (xs (ix + 4)) = nI b ∧ ¬ M.1 33 (a * 4 + b) = 0 ∧ k < sc ∧ (xs (ix + 2)) = nI k ∧ r = x_known M (od k) (xs (ix + 3)) (xs (ix + 4)) 9223372036854775807 (bs k)) (fun r : Int64 => r) (fun E => (E = "java/lang/IndexOutOfBoundsException" ∧ (xbad (xs (ix + 1)) 4 ∨ xbad (xs (ix + 2)) (nI sc) ∨ xbad (xs (ix + 3)) 10)) ∨ (E = "java/lang/IllegalArgumentException" ∧ xin (xs (ix + 1)) 4 ∧ xin (xs (ix + 2)) (nI sc) ∧ xin (xs (ix + 3)) 10 ∧ xbad (xs (ix + 4)) 4) ∨ (E = "java/lang/IllegalStateException" ∧ xin (xs (ix + 2)) (nI sc) ∧ xin (xs (ix + 3)) 10 ∧ ∃ a b, a < 4 ∧ b < 4 ∧ (xs (ix + 1)) = nI a ∧ (xs (ix + 4)) = nI b ∧ M.1 33 (a * 4 + b) = 0)) [(1, "java/lang/IndexOutOfBoundsException"), (2, "java/lang/IllegalArgumentException"), (3, "java/lang/IllegalStateException")] M fo) rk u → (fun r M1 => (M1 = (wF N 0 0 1) ∧ ¬ (xin (xs (ix + 1)) 4 ∧ xin (xs (ix + 2)) (nI sc2) ∧ xin (xs (ix + 3)) 10)) ∨ (M1 = (wF N 0 0 2) ∧ xin (xs (ix + 1)) 4 ∧ xin (xs (ix + 2)) (nI sc2) ∧ xin (xs (ix + 3)) 10 ∧ ¬ xin (xs (ix + 4)) 4) ∨ (xin (xs (ix + 2)) (nI sc2) ∧ xin (xs (ix + 3)) 10 ∧ ∃ a b, a < 4 ∧ b < 4 ∧ (xs (ix + 1)) = nI a ∧ (xs (ix + 4)) = nI b ∧ ((M1 = (wF N 0 0 3) ∧ N.1 10 (4 * a + b) = 0) ∨ (M1 = (wF N 0 0 0) ∧ ¬ N.1 10 (4 * a + b) = 0 ∧ ∃ k, k < sc2 ∧ (xs (ix + 2)) = nI k ∧ r = y_known (wF N 0 0 0) (od2 k) (xs (ix + 3)) (xs (ix + 4)) 9223372036854775807 (bs2 k))))) rb N1 → xP D cA o u.1 H1 → nP D cA o2 N1 H1 → oP D cA qo u.2 H1 → va_S (fun q => o ≤ q) s.heap H1 locs1 → lv_has ls1 8 [(0, .ref b), (1, .ref (o + 0)), (2, .ref (o2 + 0)), (3, .ref qo), (4, .int (nI ix))] → W p l e room_1 s m args below meth c H1 locs1 (cells + 8) (slots + 48) Q (F0 m 1115 ls1 [])) : W p l e room_1 s m args below meth c H locs cells slots Q (F0 m 776 ls []) := by
  obtain ⟨hx, hb, hml, hown, hts, hK, hG, hN, hX, hbl, hl9, ho, ho2, hqo, hL⟩ := C
  refine lv_aload_n hx hb d_W_law_776 rfl (lv_at hl 1 rfl) ?_
  refine lv_aload_n hx hb d_W_law_777 rfl (lv_at hl 0 rfl) ?_
  refine lv_iload hx hb d_W_law_778 (lv_at hl 4 rfl) ?_
  refine lv_iconst (v := 1) hx hb d_W_law_780 (by decide) ?_
  refine lv_iadd hx hb d_W_law_781 ?_
  refine w_topi (lc_add ix 1 rfl) ?_
  refine lc_ld hx hb hX hbl ho hS (i := ix + 1) (by omega) hL d_W_law_782 ?_
  refine lv_aload_n hx hb d_W_law_783 rfl (lv_at hl 0 rfl) ?_
  refine lv_iload hx hb d_W_law_784 (lv_at hl 4 rfl) ?_
  refine lv_iconst (v := 2) hx hb d_W_law_786 (by decide) ?_
  refine lv_iadd hx hb d_W_law_787 ?_
  refine w_topi (lc_add ix 2 rfl) ?_
  refine lc_ld hx hb hX hbl ho hS (i := ix + 2) (by omega) hL d_W_law_788 ?_
  refine lv_aload_n hx hb d_W_law_789 rfl (lv_at hl 0 rfl) ?_
  refine lv_iload hx hb d_W_law_790 (lv_at hl 4 rfl) ?_
  refine lv_iconst (v := 3) hx hb d_W_law_792 (by decide) ?_
  refine lv_iadd hx hb d_W_law_793 ?_
  refine w_topi (lc_add ix 3 rfl) ?_
  refine lc_ld hx hb hX hbl ho hS (i := ix + 3) (by omega) hL d_W_law_794 ?_
  refine lv_aload_n hx hb d_W_law_795 rfl (lv_at hl 0 rfl) ?_
  refine lv_iload hx hb d_W_law_796 (lv_at hl 4 rfl) ?_
  refine lv_iconst (v := 4) hx hb d_W_law_798 (by decide) ?_
  refine lv_iadd hx hb d_W_law_799 ?_
  refine w_topi (lc_add ix 4 rfl) ?_
  refine lc_ld hx hb hX hbl ho hS (i := ix + 4) (by omega) hL d_W_law_800 ?_
  refine lv_aload_n hx hb d_W_law_801 rfl (lv_at hl 3 rfl) ?_
  refine lc_S ⟨hx, hb, hml, hown, hts⟩ (k_W_seen l hl9 D cA o _ qo M fo sc hsc esc z od hse bs hbs (xs (ix + 1)) (xs (ix + 2)) (xs (ix + 3)) (xs (ix + 4))) (kSW hts 6 aK_W_seen aM_W_122 aS_W_seen aN_W nm_W_seen rfl rfl ⟨(Nat.le_of_ble_eq_true rfl), (Nat.le_of_ble_eq_true rfl)⟩) hK hG hN ho ho2 hqo hP hP2 hO hS rfl hl.1 rfl (Nat.le_of_ble_eq_true rfl) d_W_law_802 ⟨Nat.le_trans (show cells + 5 ≤ cells + 8 by omega) hc, Nat.le_trans (show slots + 30 ≤ slots + 48 by omega) hs⟩ (fun rk u H locs hw1 hP hP2 hO hS => ?_)
  refine lv_istore (lv' := [(5, .int rk), (0, .ref b), (1, .ref (o + 0)), (2, .ref (o2 + 0)), (3, .ref qo), (4, .int (nI ix))]) hx hb d_W_law_805 hl (by decide) rfl (fun ls hl => ?_)
  refine lv_aload_n hx hb d_W_law_807 rfl (lv_at hl 3 rfl) ?_
  refine lv_aload_n hx hb d_W_law_808 rfl (lv_at hl 1 rfl) ?_
  refine lv_iload hx hb d_W_law_809 (lv_at hl 5 rfl) ?_
  refine lv_iconst (v := 1) hx hb d_W_law_811 (by decide) ?_
  refine lv_iadd hx hb d_W_law_812 ?_
  refine w_topi (lc_add ix 1 rfl) ?_
  refine lc_ld hx hb hX hbl ho hS (i := ix + 1) (by omega) hL d_W_law_813 ?_
  refine lv_aload_n hx hb d_W_law_814 rfl (lv_at hl 1 rfl) ?_
  refine lv_iload hx hb d_W_law_815 (lv_at hl 5 rfl) ?_
  refine lv_iconst (v := 2) hx hb d_W_law_817 (by decide) ?_
  refine lv_iadd hx hb d_W_law_818 ?_
  refine w_topi (lc_add ix 2 rfl) ?_
  refine lc_ld hx hb hX hbl ho hS (i := ix + 2) (by omega) hL d_W_law_819 ?_
  refine lv_aload_n hx hb d_W_law_820 rfl (lv_at hl 1 rfl) ?_
  refine lv_iload hx hb d_W_law_821 (lv_at hl 5 rfl) ?_
  refine lv_iconst (v := 3) hx hb d_W_law_823 (by decide) ?_
  refine lv_iadd hx hb d_W_law_824 ?_
  refine w_topi (lc_add ix 3 rfl) ?_
  refine lc_ld hx hb hX hbl ho hS (i := ix + 3) (by omega) hL d_W_law_825 ?_
  refine lv_aload_n hx hb d_W_law_826 rfl (lv_at hl 1 rfl) ?_
  refine lv_iload hx hb d_W_law_827 (lv_at hl 5 rfl) ?_
  refine lv_iconst (v := 4) hx hb d_W_law_829 (by decide) ?_
  refine lv_iadd hx hb d_W_law_830 ?_
  refine w_topi (lc_add ix 4 rfl) ?_
  refine lc_ld hx hb hX hbl ho hS (i := ix + 4) (by omega) hL d_W_law_831 ?_
  refine lc_Vl ⟨hx, hb, hml, hown, hts⟩ (k_M_seen l D cA o2 _ N sc2 hsc2 esc2 z2 od2 hse2 bs2 hbs2 (xs (ix + 1)) (xs (ix + 2)) (xs (ix + 3)) (xs (ix + 4))) (kV hts 4 aK_M_seen aM_W_124 aI_M_seen aV_M_seen aN_M nm_M_seen rfl rfl ⟨(Nat.le_of_ble_eq_true rfl), (Nat.le_of_ble_eq_true rfl)⟩) hK ho ho2 hqo hP hP2 hO hS rfl hl.1 rfl (Nat.le_of_ble_eq_true rfl) d_W_law_832 ⟨Nat.le_trans (show cells + 5 + 0 ≤ cells + 8 by omega) hc, Nat.le_trans (show slots + 30 + 0 ≤ slots + 48 by omega) hs⟩ (fun rb N1 H locs hw2 hP hP2 hO hS => ?_)
  refine lv_lstore (lv' := [(6, .long rb), (5, .int rk), (0, .ref b), (1, .ref (o + 0)), (2, .ref (o2 + 0)), (3, .ref qo), (4, .int (nI ix))]) hx hb d_W_law_835 hl (by decide) rfl (fun ls hl => ?_)
  refine lv_aload_n hx hb d_W_law_837 rfl (lv_at hl 4 rfl) ?_
  refine lc_Vi ⟨hx, hb, hml, hown, hts⟩ (k_M_thrown l D cA o2 _ N1 ) (kV hts 0 aK_M_thrown aM_W_125 aI_M_thrown aV_M_thrown aN_M nm_M_thrown rfl rfl ⟨(Nat.le_of_ble_eq_true rfl), (Nat.le_of_ble_eq_true rfl)⟩) hK ho ho2 hqo hP hP2 hO hS rfl hl.1 rfl (Nat.le_of_ble_eq_true rfl) d_W_law_838 ⟨Nat.le_trans (show cells + 5 + 0 + 0 ≤ cells + 8 by omega) hc, Nat.le_trans (show slots + 30 + 0 + 0 ≤ slots + 48 by omega) hs⟩ (fun rt N2 H locs hw3 hP hP2 hO hS => ?_)
  rw [hw3.1] at hP2
  refine w_topi hw3.2 ?_
  have hq := hcmp rk u rb N1 hw1 hw2
  refine lv_iload hx hb d_W_law_841 (lv_at hl 1 rfl) ?_
  refine lv_icmp_eq (tgt := 848) hx hb d_W_law_843 (by decide) (fun c_1 => ?_) (fun c_1 => ?_)
  · refine lv_iload hx hb d_W_law_848 (lv_at hl 1 rfl) ?_
    refine lv_if_ne (tgt := 864) hx hb d_W_law_850 (by decide) (fun c_2 => ?_) (fun c_2 => ?_)
    · refine lv_goto (tgt := 1115) hx hb d_W_law_864 (by decide) ?_
      refine W.widen (k := cells + 8) (n := slots + 48) (by omega) (by omega) ?_
      exact kk rk u rb N1 _ _ ls hw1 hw2 hP hP2 hO hS (lv_sub hl [2, 3, 4, 5, 6] rfl)
    · refine lv_aload_n hx hb d_W_law_853 rfl (lv_at hl 5 rfl) ?_
      refine lv_iconst (v := 0) hx hb d_W_law_854 (by decide) ?_
      refine lc_out hx hb hK hO d_W_law_855 ?_
      refine lv_lload hx hb d_W_law_856 (lv_at hl 0 rfl) ?_
      refine W.lcmp hx hb d_W_law_858 ?_
      refine lv_if_eq (tgt := 864) hx hb d_W_law_859 (by decide) (fun c_3 => ?_) (fun c_3 => ?_)
      · rw [lg_cmp_eq] at c_3
        refine lv_goto (tgt := 1115) hx hb d_W_law_864 (by decide) ?_
        refine W.widen (k := cells + 8) (n := slots + 48) (by omega) (by omega) ?_
        exact kk rk u rb N1 _ _ ls hw1 hw2 hP hP2 hO hS (lv_sub hl [2, 3, 4, 5, 6] rfl)
      · rw [lg_cmp_eq] at c_3
        exact absurd (hq.2 c_2) c_3
  · exact absurd hq.1 c_1

set_option maxHeartbeats 4000000 in
set_option maxRecDepth 100000 in
/-- case 11: entry -/
theorem cs_entry {p : Program} {l : Launch} {e : Env} {s : State} {m : MethodId} {args : Array Value} {below : List Frame} {meth : Method} {c : Code} {D : va_G} {cA : Nat → ClassId} {o o2 qo b L : Nat} {xs : Nat → Int32} (C : LC p l s m args c D cA o o2 qo b L xs) {Q : State → Prop} {M N : wM} {fo : Nat → Int64} {H : Heap} {locs : List Loc} {cells slots : Nat} {ls : Array Slot} {ix : Nat} (hi : ix + 10 ≤ L)  (ec : Nat) (hec : ec ≤ 60) (eec : M.2.2 34 2 = nI ec) (ec2 : Nat) (hec2 : ec2 ≤ 60) (eec2 : N.2.2 0 13 = nI ec2) (hP : xP D cA o M H) (hP2 : nP D cA o2 N H) (hO : oP D cA qo fo H) (hS : va_S (fun q => o ≤ q) s.heap H locs) (hl : lv_has ls 8 [(0, .ref b), (1, .ref (o + 0)), (2, .ref (o2 + 0)), (3, .ref qo), (4, .int (nI ix))]) (hc : cells + 8 ≤ room_1.cells) (hs : slots + 48 ≤ room_1.slots) (kk : ∀ (rk : Int32) (u : wM × (Nat → Int64)) (rb : Int32) (N1 : wM) (H1 : Heap) (locs1 : List Loc) (ls1 : Array Slot), (oPost (fun r M1 => xin (xs (ix + 1)) 3600 ∧ ec < 60 ∧ M1 = x_opened M ec (xs (ix + 1)) ∧ r = nI ec) (fun r : Int32 => r.toInt64) (fun E => (E = "java/lang/IllegalArgumentException" ∧ xbad (xs (ix + 1)) 3600) ∨ (E = "java/lang/IllegalStateException" ∧ xin (xs (ix + 1)) 3600 ∧ ec = 60)) [(1, "java/lang/IllegalArgumentException"), (2, "java/lang/IllegalStateException")] M fo) rk u → (fun r M1 => (r = 0 ∧ M1 = (wF N 0 0 1) ∧ ¬ xin (xs (ix + 1)) 3600) ∨ (r = 0 ∧ M1 = (wF N 0 0 2) ∧ xin (xs (ix + 1)) 3600 ∧ ec2 = 60) ∨ (ec2 < 60 ∧ xin (xs (ix + 1)) 3600 ∧ M1 = wF (wI (wF N 0 0 0) 11 ec2 (xs (ix + 1))) 0 13 (nI (ec2 + 1)) ∧ r = nI ec2)) rb N1 → xP D cA o u.1 H1 → nP D cA o2 N1 H1 → oP D cA qo u.2 H1 → va_S (fun q => o ≤ q) s.heap H1 locs1 → lv_has ls1 8 [(0, .ref b), (1, .ref (o + 0)), (2, .ref (o2 + 0)), (3, .ref qo), (4, .int (nI ix))] → W p l e room_1 s m args below meth c H1 locs1 (cells + 8) (slots + 48) Q (F0 m 1115 ls1 [])) : W p l e room_1 s m args below meth c H locs cells slots Q (F0 m 867 ls []) := by
  obtain ⟨hx, hb, hml, hown, hts, hK, hG, hN, hX, hbl, hl9, ho, ho2, hqo, hL⟩ := C
  refine lv_aload_n hx hb d_W_law_867 rfl (lv_at hl 1 rfl) ?_
  refine lv_aload_n hx hb d_W_law_868 rfl (lv_at hl 0 rfl) ?_
  refine lv_iload hx hb d_W_law_869 (lv_at hl 4 rfl) ?_
  refine lv_iconst (v := 1) hx hb d_W_law_871 (by decide) ?_
  refine lv_iadd hx hb d_W_law_872 ?_
  refine w_topi (lc_add ix 1 rfl) ?_
  refine lc_ld hx hb hX hbl ho hS (i := ix + 1) (by omega) hL d_W_law_873 ?_
  refine lv_aload_n hx hb d_W_law_874 rfl (lv_at hl 3 rfl) ?_
  refine lc_S ⟨hx, hb, hml, hown, hts⟩ (k_W_entry l hl9 D cA o _ qo M fo ec hec eec (xs (ix + 1))) (kSW hts 3 aK_W_entry aM_W_129 aS_W_entry aN_W nm_W_entry rfl rfl ⟨(Nat.le_of_ble_eq_true rfl), (Nat.le_of_ble_eq_true rfl)⟩) hK hG hN ho ho2 hqo hP hP2 hO hS rfl hl.1 rfl (Nat.le_of_ble_eq_true rfl) d_W_law_875 ⟨Nat.le_trans (show cells + 2 ≤ cells + 8 by omega) hc, Nat.le_trans (show slots + 12 ≤ slots + 48 by omega) hs⟩ (fun rk u H locs hw1 hP hP2 hO hS => ?_)
  refine lv_istore (lv' := [(5, .int rk), (0, .ref b), (1, .ref (o + 0)), (2, .ref (o2 + 0)), (3, .ref qo), (4, .int (nI ix))]) hx hb d_W_law_878 hl (by decide) rfl (fun ls hl => ?_)
  refine lv_aload_n hx hb d_W_law_880 rfl (lv_at hl 3 rfl) ?_
  refine lv_aload_n hx hb d_W_law_881 rfl (lv_at hl 1 rfl) ?_
  refine lv_iload hx hb d_W_law_882 (lv_at hl 5 rfl) ?_
  refine lv_iconst (v := 1) hx hb d_W_law_884 (by decide) ?_
  refine lv_iadd hx hb d_W_law_885 ?_
  refine w_topi (lc_add ix 1 rfl) ?_
  refine lc_ld hx hb hX hbl ho hS (i := ix + 1) (by omega) hL d_W_law_886 ?_
  refine lc_Vi ⟨hx, hb, hml, hown, hts⟩ (k_M_entry l D cA o2 _ N ec2 hec2 eec2 (xs (ix + 1))) (kV hts 1 aK_M_entry aM_W_131 aI_M_entry aV_M_entry aN_M nm_M_entry rfl rfl ⟨(Nat.le_of_ble_eq_true rfl), (Nat.le_of_ble_eq_true rfl)⟩) hK ho ho2 hqo hP hP2 hO hS rfl hl.1 rfl (Nat.le_of_ble_eq_true rfl) d_W_law_887 ⟨Nat.le_trans (show cells + 2 + 0 ≤ cells + 8 by omega) hc, Nat.le_trans (show slots + 12 + 0 ≤ slots + 48 by omega) hs⟩ (fun rb N1 H locs hw2 hP hP2 hO hS => ?_)
  refine lv_istore (lv' := [(6, .int rb), (5, .int rk), (0, .ref b), (1, .ref (o + 0)), (2, .ref (o2 + 0)), (3, .ref qo), (4, .int (nI ix))]) hx hb d_W_law_890 hl (by decide) rfl (fun ls hl => ?_)
  refine lv_goto (tgt := 1115) hx hb d_W_law_892 (by decide) ?_
  refine W.widen (k := cells + 8) (n := slots + 48) (by omega) (by omega) ?_
  exact kk rk u rb N1 _ _ ls hw1 hw2 hP hP2 hO hS (lv_sub hl [2, 3, 4, 5, 6] rfl)

set_option maxHeartbeats 4000000 in
set_option maxRecDepth 100000 in
/-- case 12: row -/
theorem cs_row {p : Program} {l : Launch} {e : Env} {s : State} {m : MethodId} {args : Array Value} {below : List Frame} {meth : Method} {c : Code} {D : va_G} {cA : Nat → ClassId} {o o2 qo b L : Nat} {xs : Nat → Int32} (C : LC p l s m args c D cA o o2 qo b L xs) {Q : State → Prop} {M N : wM} {fo : Nat → Int64} {H : Heap} {locs : List Loc} {cells slots : Nat} {ls : Array Slot} {ix : Nat} (hi : ix + 10 ≤ L)  (ec : Nat) (hec : ec ≤ 60) (eec : M.2.2 34 2 = nI ec) (rc : Nat → Nat) (hrc : ∀ j, j < 60 → rc j ≤ 6 ∧ M.2.2 (37 + 3 * j) 2 = nI (rc j)) (ec2 : Nat) (hec2 : ec2 ≤ 60) (eec2 : N.2.2 0 13 = nI ec2) (rc2 : Nat → Nat) (hrc2 : ∀ j, j < 60 → rc2 j ≤ 6 ∧ N.1 12 j = nI (rc2 j)) (hP : xP D cA o M H) (hP2 : nP D cA o2 N H) (hO : oP D cA qo fo H) (hS : va_S (fun q => o ≤ q) s.heap H locs) (hl : lv_has ls 8 [(0, .ref b), (1, .ref (o + 0)), (2, .ref (o2 + 0)), (3, .ref qo), (4, .int (nI ix))]) (hc : cells + 8 ≤ room_1.cells) (hs : slots + 48 ≤ room_1.slots) (kk : ∀ (rk : Int32) (u : wM × (Nat → Int64)) (rb : Int32) (N1 : wM) (H1 : Heap) (locs1 : List Loc) (ls1 : Array Slot), (oPost (fun r M1 => xin (xs (ix + 2)) 10 ∧ ¬ (lg2 (xs (ix + 3)) (xs (ix + 4))) < -1000000000 ∧ (lg2 (xs (ix + 3)) (xs (ix + 4))) ≤ 1000000000 ∧ ∃ k, k < ec ∧ (xs (ix + 1)) = nI k ∧ M.2.2 (37 + 3 * k) 4 = 0 ∧ rc k < 6 ∧ M1 = x_row M k (rc k) (xs (ix + 2)) (lg2 (xs (ix + 3)) (xs (ix + 4))) ∧ r = nI (rc k + 1)) (fun r : Int32 => r.toInt64) (fun E => (E = "java/lang/IndexOutOfBoundsException" ∧ (xbad (xs (ix + 1)) (nI ec) ∨ xbad (xs (ix + 2)) 10)) ∨ (E = "java/lang/IllegalArgumentException" ∧ xin (xs (ix + 1)) (nI ec) ∧ xin (xs (ix + 2)) 10 ∧ ((lg2 (xs (ix + 3)) (xs (ix + 4))) < -1000000000 ∨ ¬ (lg2 (xs (ix + 3)) (xs (ix + 4))) ≤ 1000000000)) ∨ (E = "java/lang/IllegalStateException" ∧ xin (xs (ix + 2)) 10 ∧ ¬ (lg2 (xs (ix + 3)) (xs (ix + 4))) < -1000000000 ∧ (lg2 (xs (ix + 3)) (xs (ix + 4))) ≤ 1000000000 ∧ ∃ k, k < ec ∧ (xs (ix + 1)) = nI k ∧ (¬ M.2.2 (37 + 3 * k) 4 = 0 ∨ rc k = 6))) [(1, "java/lang/IndexOutOfBoundsException"), (2, "java/lang/IllegalArgumentException"), (3, "java/lang/IllegalStateException")] M fo) rk u → (fun r M1 => (r = 0 ∧ M1 = (wF N 0 0 1) ∧ ¬ (xin (xs (ix + 1)) (nI ec2) ∧ xin (xs (ix + 2)) 10)) ∨ (r = 0 ∧ M1 = (wF N 0 0 2) ∧ xin (xs (ix + 1)) (nI ec2) ∧ xin (xs (ix + 2)) 10 ∧ ¬ (-1000000000 ≤ (lg2 (xs (ix + 3)) (xs (ix + 4))) ∧ (lg2 (xs (ix + 3)) (xs (ix + 4))) ≤ 1000000000)) ∨ (xin (xs (ix + 2)) 10 ∧ (-1000000000 ≤ (lg2 (xs (ix + 3)) (xs (ix + 4))) ∧ (lg2 (xs (ix + 3)) (xs (ix + 4))) ≤ 1000000000) ∧ ∃ k, k < ec2 ∧ (xs (ix + 1)) = nI k ∧ ((r = 0 ∧ M1 = (wF N 0 0 3) ∧ (rc2 k = 6 ∨ 0 < N.1 15 k)) ∨ (rc2 k < 6 ∧ ¬ 0 < N.1 15 k ∧ M1 = wI (wL (wI (wF N 0 0 0) 13 (6 * k + rc2 k) (xs (ix + 2))) 14 (6 * k + rc2 k) (lg2 (xs (ix + 3)) (xs (ix + 4)))) 12 k (nI (rc2 k + 1)) ∧ r = nI (rc2 k + 1))))) rb N1 → xP D cA o u.1 H1 → nP D cA o2 N1 H1 → oP D cA qo u.2 H1 → va_S (fun q => o ≤ q) s.heap H1 locs1 → lv_has ls1 8 [(0, .ref b), (1, .ref (o + 0)), (2, .ref (o2 + 0)), (3, .ref qo), (4, .int (nI ix))] → W p l e room_1 s m args below meth c H1 locs1 (cells + 8) (slots + 48) Q (F0 m 1115 ls1 [])) : W p l e room_1 s m args below meth c H locs cells slots Q (F0 m 895 ls []) := by
  obtain ⟨hx, hb, hml, hown, hts, hK, hG, hN, hX, hbl, hl9, ho, ho2, hqo, hL⟩ := C
  refine lv_aload_n hx hb d_W_law_895 rfl (lv_at hl 1 rfl) ?_
  refine lv_aload_n hx hb d_W_law_896 rfl (lv_at hl 0 rfl) ?_
  refine lv_iload hx hb d_W_law_897 (lv_at hl 4 rfl) ?_
  refine lv_iconst (v := 1) hx hb d_W_law_899 (by decide) ?_
  refine lv_iadd hx hb d_W_law_900 ?_
  refine w_topi (lc_add ix 1 rfl) ?_
  refine lc_ld hx hb hX hbl ho hS (i := ix + 1) (by omega) hL d_W_law_901 ?_
  refine lv_aload_n hx hb d_W_law_902 rfl (lv_at hl 0 rfl) ?_
  refine lv_iload hx hb d_W_law_903 (lv_at hl 4 rfl) ?_
  refine lv_iconst (v := 2) hx hb d_W_law_905 (by decide) ?_
  refine lv_iadd hx hb d_W_law_906 ?_
  refine w_topi (lc_add ix 2 rfl) ?_
  refine lc_ld hx hb hX hbl ho hS (i := ix + 2) (by omega) hL d_W_law_907 ?_
  refine lv_aload_n hx hb d_W_law_908 rfl (lv_at hl 0 rfl) ?_
  refine lv_iload hx hb d_W_law_909 (lv_at hl 4 rfl) ?_
  refine lv_iconst (v := 3) hx hb d_W_law_911 (by decide) ?_
  refine lv_iadd hx hb d_W_law_912 ?_
  refine w_topi (lc_add ix 3 rfl) ?_
  refine lc_ld hx hb hX hbl ho hS (i := ix + 3) (by omega) hL d_W_law_913 ?_
  refine lv_i2l hx hb d_W_law_914 rfl ?_
  refine lv_bipush (v := 32) hx hb d_W_law_915 (by decide) ?_
  refine lv_lshl (v := ((xs (ix + 3)).toInt64) <<< ((32 : Int32).toInt64 &&& 63)) hx hb d_W_law_917 rfl ?_
  refine lv_aload_n hx hb d_W_law_918 rfl (lv_at hl 0 rfl) ?_
  refine lv_iload hx hb d_W_law_919 (lv_at hl 4 rfl) ?_
  refine lv_iconst (v := 4) hx hb d_W_law_921 (by decide) ?_
  refine lv_iadd hx hb d_W_law_922 ?_
  refine w_topi (lc_add ix 4 rfl) ?_
  refine lc_ld hx hb hX hbl ho hS (i := ix + 4) (by omega) hL d_W_law_923 ?_
  refine lv_i2l hx hb d_W_law_924 rfl ?_
  refine lv_ldc2 (v := 4294967295) hx hb hown (hts _ (al aL_W_81)) d_W_law_925 ?_
  refine lv_land hx hb d_W_law_928 ?_
  refine lv_lor hx hb d_W_law_929 ?_
  refine w_topl (y := lg2 (xs (ix + 3)) (xs (ix + 4))) rfl ?_
  refine lv_aload_n hx hb d_W_law_930 rfl (lv_at hl 3 rfl) ?_
  refine lc_S ⟨hx, hb, hml, hown, hts⟩ (k_W_row l hl9 D cA o _ qo M fo ec hec eec rc hrc (xs (ix + 1)) (xs (ix + 2)) (lg2 (xs (ix + 3)) (xs (ix + 4)))) (kSW hts 5 aK_W_row aM_W_132 aS_W_row aN_W nm_W_row rfl rfl ⟨(Nat.le_of_ble_eq_true rfl), (Nat.le_of_ble_eq_true rfl)⟩) hK hG hN ho ho2 hqo hP hP2 hO hS rfl hl.1 rfl (Nat.le_of_ble_eq_true rfl) d_W_law_931 ⟨Nat.le_trans (show cells + 3 ≤ cells + 8 by omega) hc, Nat.le_trans (show slots + 18 ≤ slots + 48 by omega) hs⟩ (fun rk u H locs hw1 hP hP2 hO hS => ?_)
  refine lv_istore (lv' := [(5, .int rk), (0, .ref b), (1, .ref (o + 0)), (2, .ref (o2 + 0)), (3, .ref qo), (4, .int (nI ix))]) hx hb d_W_law_934 hl (by decide) rfl (fun ls hl => ?_)
  refine lv_aload_n hx hb d_W_law_936 rfl (lv_at hl 3 rfl) ?_
  refine lv_aload_n hx hb d_W_law_937 rfl (lv_at hl 1 rfl) ?_
  refine lv_iload hx hb d_W_law_938 (lv_at hl 5 rfl) ?_
  refine lv_iconst (v := 1) hx hb d_W_law_940 (by decide) ?_
  refine lv_iadd hx hb d_W_law_941 ?_
  refine w_topi (lc_add ix 1 rfl) ?_
  refine lc_ld hx hb hX hbl ho hS (i := ix + 1) (by omega) hL d_W_law_942 ?_
  refine lv_aload_n hx hb d_W_law_943 rfl (lv_at hl 1 rfl) ?_
  refine lv_iload hx hb d_W_law_944 (lv_at hl 5 rfl) ?_
  refine lv_iconst (v := 2) hx hb d_W_law_946 (by decide) ?_
  refine lv_iadd hx hb d_W_law_947 ?_
  refine w_topi (lc_add ix 2 rfl) ?_
  refine lc_ld hx hb hX hbl ho hS (i := ix + 2) (by omega) hL d_W_law_948 ?_
  refine lv_aload_n hx hb d_W_law_949 rfl (lv_at hl 1 rfl) ?_
  refine lv_iload hx hb d_W_law_950 (lv_at hl 5 rfl) ?_
  refine lv_iconst (v := 3) hx hb d_W_law_952 (by decide) ?_
  refine lv_iadd hx hb d_W_law_953 ?_
  refine w_topi (lc_add ix 3 rfl) ?_
  refine lc_ld hx hb hX hbl ho hS (i := ix + 3) (by omega) hL d_W_law_954 ?_
  refine lv_i2l hx hb d_W_law_955 rfl ?_
  refine lv_bipush (v := 32) hx hb d_W_law_956 (by decide) ?_
  refine lv_lshl (v := ((xs (ix + 3)).toInt64) <<< ((32 : Int32).toInt64 &&& 63)) hx hb d_W_law_958 rfl ?_
  refine lv_aload_n hx hb d_W_law_959 rfl (lv_at hl 1 rfl) ?_
  refine lv_iload hx hb d_W_law_960 (lv_at hl 5 rfl) ?_
  refine lv_iconst (v := 4) hx hb d_W_law_962 (by decide) ?_
  refine lv_iadd hx hb d_W_law_963 ?_
  refine w_topi (lc_add ix 4 rfl) ?_
  refine lc_ld hx hb hX hbl ho hS (i := ix + 4) (by omega) hL d_W_law_964 ?_
  refine lv_i2l hx hb d_W_law_965 rfl ?_
  refine lv_ldc2 (v := 4294967295) hx hb hown (hts _ (al aL_W_81)) d_W_law_966 ?_
  refine lv_land hx hb d_W_law_969 ?_
  refine lv_lor hx hb d_W_law_970 ?_
  refine w_topl (y := lg2 (xs (ix + 3)) (xs (ix + 4))) rfl ?_
  refine lc_Vi ⟨hx, hb, hml, hown, hts⟩ (k_M_row l D cA o2 _ N ec2 hec2 eec2 rc2 hrc2 (xs (ix + 1)) (xs (ix + 2)) (lg2 (xs (ix + 3)) (xs (ix + 4)))) (kV hts 3 aK_M_row aM_W_135 aI_M_row aV_M_row aN_M nm_M_row rfl rfl ⟨(Nat.le_of_ble_eq_true rfl), (Nat.le_of_ble_eq_true rfl)⟩) hK ho ho2 hqo hP hP2 hO hS rfl hl.1 rfl (Nat.le_of_ble_eq_true rfl) d_W_law_971 ⟨Nat.le_trans (show cells + 3 + 0 ≤ cells + 8 by omega) hc, Nat.le_trans (show slots + 18 + 0 ≤ slots + 48 by omega) hs⟩ (fun rb N1 H locs hw2 hP hP2 hO hS => ?_)
  refine lv_istore (lv' := [(6, .int rb), (5, .int rk), (0, .ref b), (1, .ref (o + 0)), (2, .ref (o2 + 0)), (3, .ref qo), (4, .int (nI ix))]) hx hb d_W_law_974 hl (by decide) rfl (fun ls hl => ?_)
  refine lv_goto (tgt := 1115) hx hb d_W_law_976 (by decide) ?_
  refine W.widen (k := cells + 8) (n := slots + 48) (by omega) (by omega) ?_
  exact kk rk u rb N1 _ _ ls hw1 hw2 hP hP2 hO hS (lv_sub hl [2, 3, 4, 5, 6] rfl)

set_option maxHeartbeats 4000000 in
set_option maxRecDepth 100000 in
/-- case 13: close -/
theorem cs_close {p : Program} {l : Launch} {e : Env} {s : State} {m : MethodId} {args : Array Value} {below : List Frame} {meth : Method} {c : Code} {D : va_G} {cA : Nat → ClassId} {o o2 qo b L : Nat} {xs : Nat → Int32} (C : LC p l s m args c D cA o o2 qo b L xs) {Q : State → Prop} {M N : wM} {fo : Nat → Int64} {H : Heap} {locs : List Loc} {cells slots : Nat} {ls : Array Slot} {ix : Nat} (hi : ix + 10 ≤ L)  (ec : Nat) (hec : ec ≤ 60) (eec : M.2.2 34 2 = nI ec) (rc : Nat → Nat) (hrc : ∀ j, j < 60 → rc j ≤ 6 ∧ M.2.2 (37 + 3 * j) 2 = nI (rc j)) (ln : Nat) (eln : M.2.2 34 3 = nI ln) (hln : ∀ j, j < ec → M.2.2 (37 + 3 * j) 4 = 0 → ln < 60) (ec2 : Nat) (hec2 : ec2 ≤ 60) (eec2 : N.2.2 0 13 = nI ec2) (rc2 : Nat → Nat) (hrc2 : ∀ j, j < 60 → rc2 j ≤ 6 ∧ N.1 12 j = nI (rc2 j)) (ln2 : Nat) (eln2 : N.2.2 0 20 = nI ln2) (hP : xP D cA o M H) (hP2 : nP D cA o2 N H) (hO : oP D cA qo fo H) (hS : va_S (fun q => o ≤ q) s.heap H locs) (hl : lv_has ls 8 [(0, .ref b), (1, .ref (o + 0)), (2, .ref (o2 + 0)), (3, .ref qo), (4, .int (nI ix))]) (hc : cells + 8 ≤ room_1.cells) (hs : slots + 48 ≤ room_1.slots) (kk : ∀ (rk : Int32) (u : wM × (Nat → Int64)) (rb : Int32) (N1 : wM) (H1 : Heap) (locs1 : List Loc) (ls1 : Array Slot), (oPost (fun r M1 => ∃ k, k < ec ∧ (xs (ix + 1)) = nI k ∧ M.2.2 (37 + 3 * k) 4 = 0 ∧ ((r = 0 ∧ M1 = M ∧ (M.2.2 (37 + 3 * k) 3 / 30 ≤ M.2.2 34 4 ∨ ¬ (0 < rc k ∧ x_tot M k (rc k) = 0))) ∨ (r = nI (ln + 1) ∧ M1 = x_numbered M ln k ∧ ¬ M.2.2 (37 + 3 * k) 3 / 30 ≤ M.2.2 34 4 ∧ 0 < rc k ∧ x_tot M k (rc k) = 0))) (fun r : Int32 => r.toInt64) (fun E => (E = "java/lang/IndexOutOfBoundsException" ∧ xbad (xs (ix + 1)) (nI ec)) ∨ (E = "java/lang/IllegalStateException" ∧ ∃ k, k < ec ∧ (xs (ix + 1)) = nI k ∧ ¬ M.2.2 (37 + 3 * k) 4 = 0)) [(1, "java/lang/IndexOutOfBoundsException"), (2, "java/lang/IllegalStateException")] M fo) rk u → (fun r M1 => (r = 0 ∧ M1 = (wF N 0 0 1) ∧ ¬ xin (xs (ix + 1)) (nI ec2)) ∨ (∃ k, k < ec2 ∧ (xs (ix + 1)) = nI k ∧ ((r = 0 ∧ M1 = (wF N 0 0 2) ∧ 0 < N.1 15 k) ∨ (¬ 0 < N.1 15 k ∧ ((r = 0 ∧ M1 = (wF N 0 0 0) ∧ (rc2 k = 0 ∨ ¬ y_tot N k (rc2 k) = 0 ∨ N.1 11 k / 30 ≤ N.2.2 0 21)) ∨ (r = nI (ln2 + 1) ∧ M1 = wI (wF (wF N 0 0 0) 0 20 (nI (ln2 + 1))) 15 k (nI (ln2 + 1)) ∧ 0 < rc2 k ∧ y_tot N k (rc2 k) = 0 ∧ ¬ N.1 11 k / 30 ≤ N.2.2 0 21)))))) rb N1 → xP D cA o u.1 H1 → nP D cA o2 N1 H1 → oP D cA qo u.2 H1 → va_S (fun q => o ≤ q) s.heap H1 locs1 → lv_has ls1 8 [(0, .ref b), (1, .ref (o + 0)), (2, .ref (o2 + 0)), (3, .ref qo), (4, .int (nI ix))] → W p l e room_1 s m args below meth c H1 locs1 (cells + 8) (slots + 48) Q (F0 m 1115 ls1 [])) : W p l e room_1 s m args below meth c H locs cells slots Q (F0 m 979 ls []) := by
  obtain ⟨hx, hb, hml, hown, hts, hK, hG, hN, hX, hbl, hl9, ho, ho2, hqo, hL⟩ := C
  refine lv_aload_n hx hb d_W_law_979 rfl (lv_at hl 1 rfl) ?_
  refine lv_aload_n hx hb d_W_law_980 rfl (lv_at hl 0 rfl) ?_
  refine lv_iload hx hb d_W_law_981 (lv_at hl 4 rfl) ?_
  refine lv_iconst (v := 1) hx hb d_W_law_983 (by decide) ?_
  refine lv_iadd hx hb d_W_law_984 ?_
  refine w_topi (lc_add ix 1 rfl) ?_
  refine lc_ld hx hb hX hbl ho hS (i := ix + 1) (by omega) hL d_W_law_985 ?_
  refine lv_aload_n hx hb d_W_law_986 rfl (lv_at hl 3 rfl) ?_
  refine lc_S ⟨hx, hb, hml, hown, hts⟩ (k_W_close l hl9 D cA o _ qo M fo ec hec eec rc hrc ln eln hln (xs (ix + 1))) (kSW hts 3 aK_W_close aM_W_136 aS_W_close aN_W nm_W_close rfl rfl ⟨(Nat.le_of_ble_eq_true rfl), (Nat.le_of_ble_eq_true rfl)⟩) hK hG hN ho ho2 hqo hP hP2 hO hS rfl hl.1 rfl (Nat.le_of_ble_eq_true rfl) d_W_law_987 ⟨Nat.le_trans (show cells + 2 ≤ cells + 8 by omega) hc, Nat.le_trans (show slots + 12 ≤ slots + 48 by omega) hs⟩ (fun rk u H locs hw1 hP hP2 hO hS => ?_)
  refine lv_istore (lv' := [(5, .int rk), (0, .ref b), (1, .ref (o + 0)), (2, .ref (o2 + 0)), (3, .ref qo), (4, .int (nI ix))]) hx hb d_W_law_990 hl (by decide) rfl (fun ls hl => ?_)
  refine lv_aload_n hx hb d_W_law_992 rfl (lv_at hl 3 rfl) ?_
  refine lv_aload_n hx hb d_W_law_993 rfl (lv_at hl 1 rfl) ?_
  refine lv_iload hx hb d_W_law_994 (lv_at hl 5 rfl) ?_
  refine lv_iconst (v := 1) hx hb d_W_law_996 (by decide) ?_
  refine lv_iadd hx hb d_W_law_997 ?_
  refine w_topi (lc_add ix 1 rfl) ?_
  refine lc_ld hx hb hX hbl ho hS (i := ix + 1) (by omega) hL d_W_law_998 ?_
  refine lc_Vi ⟨hx, hb, hml, hown, hts⟩ (k_M_close l D cA o2 _ N ec2 hec2 eec2 rc2 hrc2 ln2 eln2 (xs (ix + 1))) (kV hts 1 aK_M_close aM_W_138 aI_M_close aV_M_close aN_M nm_M_close rfl rfl ⟨(Nat.le_of_ble_eq_true rfl), (Nat.le_of_ble_eq_true rfl)⟩) hK ho ho2 hqo hP hP2 hO hS rfl hl.1 rfl (Nat.le_of_ble_eq_true rfl) d_W_law_999 ⟨Nat.le_trans (show cells + 2 + 0 ≤ cells + 8 by omega) hc, Nat.le_trans (show slots + 12 + 0 ≤ slots + 48 by omega) hs⟩ (fun rb N1 H locs hw2 hP hP2 hO hS => ?_)
  refine lv_istore (lv' := [(6, .int rb), (5, .int rk), (0, .ref b), (1, .ref (o + 0)), (2, .ref (o2 + 0)), (3, .ref qo), (4, .int (nI ix))]) hx hb d_W_law_1002 hl (by decide) rfl (fun ls hl => ?_)
  refine lv_goto (tgt := 1115) hx hb d_W_law_1004 (by decide) ?_
  refine W.widen (k := cells + 8) (n := slots + 48) (by omega) (by omega) ?_
  exact kk rk u rb N1 _ _ ls hw1 hw2 hP hP2 hO hS (lv_sub hl [2, 3, 4, 5, 6] rfl)

set_option maxHeartbeats 4000000 in
set_option maxRecDepth 100000 in
/-- case 14: balance -/
theorem cs_balance {p : Program} {l : Launch} {e : Env} {s : State} {m : MethodId} {args : Array Value} {below : List Frame} {meth : Method} {c : Code} {D : va_G} {cA : Nat → ClassId} {o o2 qo b L : Nat} {xs : Nat → Int32} (C : LC p l s m args c D cA o o2 qo b L xs) {Q : State → Prop} {M N : wM} {fo : Nat → Int64} {H : Heap} {locs : List Loc} {cells slots : Nat} {ls : Array Slot} {ix : Nat} (hi : ix + 10 ≤ L)  (ec : Nat) (hec : ec ≤ 60) (eec : M.2.2 34 2 = nI ec) (rc : Nat → Nat) (hrc : ∀ j, j < 60 → rc j ≤ 6 ∧ M.2.2 (37 + 3 * j) 2 = nI (rc j)) (ec2 : Nat) (hec2 : ec2 ≤ 60) (eec2 : N.2.2 0 13 = nI ec2) (rc2 : Nat → Nat) (hrc2 : ∀ j, j < 60 → rc2 j ≤ 6 ∧ N.1 12 j = nI (rc2 j)) (hP : xP D cA o M H) (hP2 : nP D cA o2 N H) (hO : oP D cA qo fo H) (hS : va_S (fun q => o ≤ q) s.heap H locs) (hl : lv_has ls 8 [(0, .ref b), (1, .ref (o + 0)), (2, .ref (o2 + 0)), (3, .ref qo), (4, .int (nI ix))]) (hc : cells + 8 ≤ room_1.cells) (hs : slots + 48 ≤ room_1.slots) (kk : ∀ (rk : Int32) (u : wM × (Nat → Int64)) (rb : Int64) (N1 : wM) (H1 : Heap) (locs1 : List Loc) (ls1 : Array Slot), (oPost (fun r M1 => M1 = M ∧ xin (xs (ix + 1)) 10 ∧ r = x_bal M rc (xs (ix + 1)) (xs (ix + 2)) ec) (fun r : Int64 => r) (fun E => E = "java/lang/IndexOutOfBoundsException" ∧ xbad (xs (ix + 1)) 10) [(1, "java/lang/IndexOutOfBoundsException")] M fo) rk u → (fun r M1 => (M1 = (wF N 0 0 1) ∧ ¬ xin (xs (ix + 1)) 10) ∨ (M1 = (wF N 0 0 0) ∧ xin (xs (ix + 1)) 10 ∧ r = y_bal N rc2 (xs (ix + 1)) (xs (ix + 2)) ec2)) rb N1 → xP D cA o u.1 H1 → nP D cA o2 N1 H1 → oP D cA qo u.2 H1 → va_S (fun q => o ≤ q) s.heap H1 locs1 → lv_has ls1 8 [(0, .ref b), (1, .ref (o + 0)), (2, .ref (o2 + 0)), (3, .ref qo), (4, .int (nI ix))] → W p l e room_1 s m args below meth c H1 locs1 (cells + 8) (slots + 48) Q (F0 m 1115 ls1 [])) : W p l e room_1 s m args below meth c H locs cells slots Q (F0 m 1007 ls []) := by
  obtain ⟨hx, hb, hml, hown, hts, hK, hG, hN, hX, hbl, hl9, ho, ho2, hqo, hL⟩ := C
  refine lv_aload_n hx hb d_W_law_1007 rfl (lv_at hl 1 rfl) ?_
  refine lv_aload_n hx hb d_W_law_1008 rfl (lv_at hl 0 rfl) ?_
  refine lv_iload hx hb d_W_law_1009 (lv_at hl 4 rfl) ?_
  refine lv_iconst (v := 1) hx hb d_W_law_1011 (by decide) ?_
  refine lv_iadd hx hb d_W_law_1012 ?_
  refine w_topi (lc_add ix 1 rfl) ?_
  refine lc_ld hx hb hX hbl ho hS (i := ix + 1) (by omega) hL d_W_law_1013 ?_
  refine lv_aload_n hx hb d_W_law_1014 rfl (lv_at hl 0 rfl) ?_
  refine lv_iload hx hb d_W_law_1015 (lv_at hl 4 rfl) ?_
  refine lv_iconst (v := 2) hx hb d_W_law_1017 (by decide) ?_
  refine lv_iadd hx hb d_W_law_1018 ?_
  refine w_topi (lc_add ix 2 rfl) ?_
  refine lc_ld hx hb hX hbl ho hS (i := ix + 2) (by omega) hL d_W_law_1019 ?_
  refine lv_aload_n hx hb d_W_law_1020 rfl (lv_at hl 3 rfl) ?_
  refine lc_S ⟨hx, hb, hml, hown, hts⟩ (k_W_balance l hl9 D cA o _ qo M fo ec hec eec rc hrc (xs (ix + 1)) (xs (ix + 2))) (kSW hts 4 aK_W_balance aM_W_139 aS_W_balance aN_W nm_W_balance rfl rfl ⟨(Nat.le_of_ble_eq_true rfl), (Nat.le_of_ble_eq_true rfl)⟩) hK hG hN ho ho2 hqo hP hP2 hO hS rfl hl.1 rfl (Nat.le_of_ble_eq_true rfl) d_W_law_1021 ⟨Nat.le_trans (show cells + 1 ≤ cells + 8 by omega) hc, Nat.le_trans (show slots + 6 ≤ slots + 48 by omega) hs⟩ (fun rk u H locs hw1 hP hP2 hO hS => ?_)
  refine lv_istore (lv' := [(5, .int rk), (0, .ref b), (1, .ref (o + 0)), (2, .ref (o2 + 0)), (3, .ref qo), (4, .int (nI ix))]) hx hb d_W_law_1024 hl (by decide) rfl (fun ls hl => ?_)
  refine lv_aload_n hx hb d_W_law_1026 rfl (lv_at hl 3 rfl) ?_
  refine lv_aload_n hx hb d_W_law_1027 rfl (lv_at hl 1 rfl) ?_
  refine lv_iload hx hb d_W_law_1028 (lv_at hl 5 rfl) ?_
  refine lv_iconst (v := 1) hx hb d_W_law_1030 (by decide) ?_
  refine lv_iadd hx hb d_W_law_1031 ?_
  refine w_topi (lc_add ix 1 rfl) ?_
  refine lc_ld hx hb hX hbl ho hS (i := ix + 1) (by omega) hL d_W_law_1032 ?_
  refine lv_aload_n hx hb d_W_law_1033 rfl (lv_at hl 1 rfl) ?_
  refine lv_iload hx hb d_W_law_1034 (lv_at hl 5 rfl) ?_
  refine lv_iconst (v := 2) hx hb d_W_law_1036 (by decide) ?_
  refine lv_iadd hx hb d_W_law_1037 ?_
  refine w_topi (lc_add ix 2 rfl) ?_
  refine lc_ld hx hb hX hbl ho hS (i := ix + 2) (by omega) hL d_W_law_1038 ?_
  refine lc_Vl ⟨hx, hb, hml, hown, hts⟩ (k_M_balance l D cA o2 _ N ec2 hec2 eec2 rc2 hrc2 (xs (ix + 1)) (xs (ix + 2))) (kV hts 2 aK_M_balance aM_W_141 aI_M_balance aV_M_balance aN_M nm_M_balance rfl rfl ⟨(Nat.le_of_ble_eq_true rfl), (Nat.le_of_ble_eq_true rfl)⟩) hK ho ho2 hqo hP hP2 hO hS rfl hl.1 rfl (Nat.le_of_ble_eq_true rfl) d_W_law_1039 ⟨Nat.le_trans (show cells + 1 + 0 ≤ cells + 8 by omega) hc, Nat.le_trans (show slots + 6 + 0 ≤ slots + 48 by omega) hs⟩ (fun rb N1 H locs hw2 hP hP2 hO hS => ?_)
  refine lv_lstore (lv' := [(6, .long rb), (5, .int rk), (0, .ref b), (1, .ref (o + 0)), (2, .ref (o2 + 0)), (3, .ref qo), (4, .int (nI ix))]) hx hb d_W_law_1042 hl (by decide) rfl (fun ls hl => ?_)
  refine lv_goto (tgt := 1115) hx hb d_W_law_1044 (by decide) ?_
  refine W.widen (k := cells + 8) (n := slots + 48) (by omega) (by omega) ?_
  exact kk rk u rb N1 _ _ ls hw1 hw2 hP hP2 hO hS (lv_sub hl [2, 3, 4, 5, 6] rfl)

set_option maxHeartbeats 4000000 in
set_option maxRecDepth 100000 in
/-- case 15: closeMonth -/
theorem cs_closeMonth {p : Program} {l : Launch} {e : Env} {s : State} {m : MethodId} {args : Array Value} {below : List Frame} {meth : Method} {c : Code} {D : va_G} {cA : Nat → ClassId} {o o2 qo b L : Nat} {xs : Nat → Int32} (C : LC p l s m args c D cA o o2 qo b L xs) {Q : State → Prop} {M N : wM} {fo : Nat → Int64} {H : Heap} {locs : List Loc} {cells slots : Nat} {ls : Array Slot} {ix : Nat} (hi : ix + 10 ≤ L)   (hP : xP D cA o M H) (hP2 : nP D cA o2 N H) (hO : oP D cA qo fo H) (hS : va_S (fun q => o ≤ q) s.heap H locs) (hl : lv_has ls 8 [(0, .ref b), (1, .ref (o + 0)), (2, .ref (o2 + 0)), (3, .ref qo), (4, .int (nI ix))]) (hc : cells + 8 ≤ room_1.cells) (hs : slots + 48 ≤ room_1.slots) (kk : ∀ (rk : Int32) (u : wM × (Nat → Int64)) (rb : Int32) (N1 : wM) (H1 : Heap) (locs1 : List Loc) (ls1 : Array Slot), (oPost (fun r M1 => xin (xs (ix + 1)) 120 ∧ ((r = 0 ∧ M1 = M ∧ (xs (ix + 1)) ≤ M.2.2 34 4) ∨ (r = 1 ∧ M1 = wF M 34 4 (xs (ix + 1)) ∧ M.2.2 34 4 < (xs (ix + 1))))) (fun r : Int32 => if r = 0 then (0 : Int64) else 1) (fun E => E = "java/lang/IllegalArgumentException" ∧ xbad (xs (ix + 1)) 120) [(1, "java/lang/IllegalArgumentException")] M fo) rk u → (fun r M1 => (r = 0 ∧ M1 = (wF N 0 0 1) ∧ ¬ xin (xs (ix + 1)) 120) ∨ (r = 0 ∧ M1 = (wF N 0 0 0) ∧ xin (xs (ix + 1)) 120 ∧ (xs (ix + 1)) ≤ N.2.2 0 21) ∨ (r = 1 ∧ M1 = wF (wF N 0 0 0) 0 21 (xs (ix + 1)) ∧ xin (xs (ix + 1)) 120 ∧ N.2.2 0 21 < (xs (ix + 1)))) rb N1 → xP D cA o u.1 H1 → nP D cA o2 N1 H1 → oP D cA qo u.2 H1 → va_S (fun q => o ≤ q) s.heap H1 locs1 → lv_has ls1 8 [(0, .ref b), (1, .ref (o + 0)), (2, .ref (o2 + 0)), (3, .ref qo), (4, .int (nI ix))] → W p l e room_1 s m args below meth c H1 locs1 (cells + 8) (slots + 48) Q (F0 m 1115 ls1 [])) : W p l e room_1 s m args below meth c H locs cells slots Q (F0 m 1047 ls []) := by
  obtain ⟨hx, hb, hml, hown, hts, hK, hG, hN, hX, hbl, hl9, ho, ho2, hqo, hL⟩ := C
  refine lv_aload_n hx hb d_W_law_1047 rfl (lv_at hl 1 rfl) ?_
  refine lv_aload_n hx hb d_W_law_1048 rfl (lv_at hl 0 rfl) ?_
  refine lv_iload hx hb d_W_law_1049 (lv_at hl 4 rfl) ?_
  refine lv_iconst (v := 1) hx hb d_W_law_1051 (by decide) ?_
  refine lv_iadd hx hb d_W_law_1052 ?_
  refine w_topi (lc_add ix 1 rfl) ?_
  refine lc_ld hx hb hX hbl ho hS (i := ix + 1) (by omega) hL d_W_law_1053 ?_
  refine lv_aload_n hx hb d_W_law_1054 rfl (lv_at hl 3 rfl) ?_
  refine lc_S ⟨hx, hb, hml, hown, hts⟩ (k_W_closeMonth l hl9 D cA o _ qo M fo (xs (ix + 1))) (kSW hts 3 aK_W_closeMonth aM_W_142 aS_W_closeMonth aN_W nm_W_closeMonth rfl rfl ⟨(Nat.le_of_ble_eq_true rfl), (Nat.le_of_ble_eq_true rfl)⟩) hK hG hN ho ho2 hqo hP hP2 hO hS rfl hl.1 rfl (Nat.le_of_ble_eq_true rfl) d_W_law_1055 ⟨Nat.le_trans (show cells + 1 ≤ cells + 8 by omega) hc, Nat.le_trans (show slots + 6 ≤ slots + 48 by omega) hs⟩ (fun rk u H locs hw1 hP hP2 hO hS => ?_)
  refine lv_istore (lv' := [(5, .int rk), (0, .ref b), (1, .ref (o + 0)), (2, .ref (o2 + 0)), (3, .ref qo), (4, .int (nI ix))]) hx hb d_W_law_1058 hl (by decide) rfl (fun ls hl => ?_)
  refine lv_aload_n hx hb d_W_law_1060 rfl (lv_at hl 3 rfl) ?_
  refine lv_aload_n hx hb d_W_law_1061 rfl (lv_at hl 1 rfl) ?_
  refine lv_iload hx hb d_W_law_1062 (lv_at hl 5 rfl) ?_
  refine lv_iconst (v := 1) hx hb d_W_law_1064 (by decide) ?_
  refine lv_iadd hx hb d_W_law_1065 ?_
  refine w_topi (lc_add ix 1 rfl) ?_
  refine lc_ld hx hb hX hbl ho hS (i := ix + 1) (by omega) hL d_W_law_1066 ?_
  refine lc_Vi ⟨hx, hb, hml, hown, hts⟩ (k_M_closeMonth l D cA o2 _ N (xs (ix + 1))) (kV hts 1 aK_M_closeMonth aM_W_144 aI_M_closeMonth aV_M_closeMonth aN_M nm_M_closeMonth rfl rfl ⟨(Nat.le_of_ble_eq_true rfl), (Nat.le_of_ble_eq_true rfl)⟩) hK ho ho2 hqo hP hP2 hO hS rfl hl.1 rfl (Nat.le_of_ble_eq_true rfl) d_W_law_1067 ⟨Nat.le_trans (show cells + 1 + 0 ≤ cells + 8 by omega) hc, Nat.le_trans (show slots + 6 + 0 ≤ slots + 48 by omega) hs⟩ (fun rb N1 H locs hw2 hP hP2 hO hS => ?_)
  refine lv_istore (lv' := [(6, .int rb), (5, .int rk), (0, .ref b), (1, .ref (o + 0)), (2, .ref (o2 + 0)), (3, .ref qo), (4, .int (nI ix))]) hx hb d_W_law_1070 hl (by decide) rfl (fun ls hl => ?_)
  refine lv_goto (tgt := 1115) hx hb d_W_law_1072 (by decide) ?_
  refine W.widen (k := cells + 8) (n := slots + 48) (by omega) (by omega) ?_
  exact kk rk u rb N1 _ _ ls hw1 hw2 hP hP2 hO hS (lv_sub hl [2, 3, 4, 5, 6] rfl)

set_option maxHeartbeats 4000000 in
set_option maxRecDepth 100000 in
/-- case 16: reverse -/
theorem cs_reverse {p : Program} {l : Launch} {e : Env} {s : State} {m : MethodId} {args : Array Value} {below : List Frame} {meth : Method} {c : Code} {D : va_G} {cA : Nat → ClassId} {o o2 qo b L : Nat} {xs : Nat → Int32} (C : LC p l s m args c D cA o o2 qo b L xs) {Q : State → Prop} {M N : wM} {fo : Nat → Int64} {H : Heap} {locs : List Loc} {cells slots : Nat} {ls : Array Slot} {ix : Nat} (hi : ix + 10 ≤ L)  (ec : Nat) (hec : ec ≤ 60) (eec : M.2.2 34 2 = nI ec) (rc : Nat → Nat) (hrc : ∀ j, j < 60 → rc j ≤ 6 ∧ M.2.2 (37 + 3 * j) 2 = nI (rc j)) (hfr : ec < 60 → rc ec = 0) (ln : Nat) (hln : ln ≤ ec) (eln : M.2.2 34 3 = nI ln) (en : Nat → Nat) (hen : ∀ m, 1 ≤ m → m ≤ ln → M.1 36 m = nI (en m) ∧ en m < ec) (ec2 : Nat) (hec2 : ec2 ≤ 60) (eec2 : N.2.2 0 13 = nI ec2) (rc2 : Nat → Nat) (hrc2 : ∀ j, j < 60 → rc2 j ≤ 6 ∧ N.1 12 j = nI (rc2 j)) (hfr2 : ec2 < 60 → rc2 ec2 = 0) (ln2 : Nat) (hln2 : ln2 ≤ ec2) (eln2 : N.2.2 0 20 = nI ln2) (en2 : Nat → Nat) (hen2 : ∀ m, 1 ≤ m → m ≤ ln2 → en2 m < ec2 ∧ N.1 15 (en2 m) = nI m ∧ ∀ j, j < en2 m → ¬ N.1 15 j = nI m) (hP : xP D cA o M H) (hP2 : nP D cA o2 N H) (hO : oP D cA qo fo H) (hS : va_S (fun q => o ≤ q) s.heap H locs) (hl : lv_has ls 8 [(0, .ref b), (1, .ref (o + 0)), (2, .ref (o2 + 0)), (3, .ref qo), (4, .int (nI ix))]) (hc : cells + 8 ≤ room_1.cells) (hs : slots + 48 ≤ room_1.slots) (kk : ∀ (rk : Int32) (u : wM × (Nat → Int64)) (rb : Int32) (N1 : wM) (H1 : Heap) (locs1 : List Loc) (ls1 : Array Slot), (oPost (fun r M1 => xin (xs (ix + 2)) 3600 ∧ ∃ m, 1 ≤ m ∧ m ≤ ln ∧ (xs (ix + 1)) = nI m ∧ M.2.2 (37 + 3 * en m) 5 = 0 ∧ M.2.2 (37 + 3 * en m) 6 = 0 ∧ ec < 60 ∧ ((r = 0 ∧ M1 = M ∧ (xs (ix + 2)) / 30 ≤ M.2.2 34 4) ∨ (r = nI (ln + 1) ∧ M1 = x_reversed M ec (en m) (rc (en m)) ln (xs (ix + 2)) ∧ ¬ (xs (ix + 2)) / 30 ≤ M.2.2 34 4))) (fun r : Int32 => r.toInt64) (fun E => (E = "java/lang/IndexOutOfBoundsException" ∧ ((xs (ix + 1)) < 1 ∨ ¬ (xs (ix + 1)) ≤ nI ln)) ∨ (E = "java/lang/IllegalArgumentException" ∧ ¬ (xs (ix + 1)) < 1 ∧ (xs (ix + 1)) ≤ nI ln ∧ xbad (xs (ix + 2)) 3600) ∨ (E = "java/lang/IllegalStateException" ∧ xin (xs (ix + 2)) 3600 ∧ ∃ m, 1 ≤ m ∧ m ≤ ln ∧ (xs (ix + 1)) = nI m ∧ (¬ M.2.2 (37 + 3 * en m) 5 = 0 ∨ ¬ M.2.2 (37 + 3 * en m) 6 = 0 ∨ ec = 60))) [(1, "java/lang/IndexOutOfBoundsException"), (2, "java/lang/IllegalArgumentException"), (3, "java/lang/IllegalStateException")] M fo) rk u → (fun r M1 => (M1 = (wF N 0 0 1) ∧ ((xs (ix + 1)) < 1 ∨ ¬ (xs (ix + 1)) ≤ nI ln2)) ∨ (M1 = (wF N 0 0 2) ∧ ¬ (xs (ix + 1)) < 1 ∧ (xs (ix + 1)) ≤ nI ln2 ∧ ¬ xin (xs (ix + 2)) 3600) ∨ (xin (xs (ix + 2)) 3600 ∧ ∃ m, 1 ≤ m ∧ m ≤ ln2 ∧ (xs (ix + 1)) = nI m ∧ ((M1 = wF (wF N 0 0 0) 0 0 3 ∧ (¬ N.1 16 (en2 m) = 0 ∨ ec2 = 60)) ∨ (N.1 16 (en2 m) = 0 ∧ ec2 < 60 ∧ ((r = 0 ∧ M1 = wF (wF N 0 0 0) 0 0 0 ∧ (xs (ix + 2)) / 30 ≤ N.2.2 0 21) ∨ (r = nI (ln2 + 1) ∧ M1 = y_reversed N ec2 (en2 m) (rc2 (en2 m)) ln2 (xs (ix + 2)) ∧ ¬ (xs (ix + 2)) / 30 ≤ N.2.2 0 21)))))) rb N1 → xP D cA o u.1 H1 → nP D cA o2 N1 H1 → oP D cA qo u.2 H1 → va_S (fun q => o ≤ q) s.heap H1 locs1 → lv_has ls1 8 [(0, .ref b), (1, .ref (o + 0)), (2, .ref (o2 + 0)), (3, .ref qo), (4, .int (nI ix))] → W p l e room_1 s m args below meth c H1 locs1 (cells + 8) (slots + 48) Q (F0 m 1115 ls1 [])) : W p l e room_1 s m args below meth c H locs cells slots Q (F0 m 1075 ls []) := by
  obtain ⟨hx, hb, hml, hown, hts, hK, hG, hN, hX, hbl, hl9, ho, ho2, hqo, hL⟩ := C
  refine lv_aload_n hx hb d_W_law_1075 rfl (lv_at hl 1 rfl) ?_
  refine lv_aload_n hx hb d_W_law_1076 rfl (lv_at hl 0 rfl) ?_
  refine lv_iload hx hb d_W_law_1077 (lv_at hl 4 rfl) ?_
  refine lv_iconst (v := 1) hx hb d_W_law_1079 (by decide) ?_
  refine lv_iadd hx hb d_W_law_1080 ?_
  refine w_topi (lc_add ix 1 rfl) ?_
  refine lc_ld hx hb hX hbl ho hS (i := ix + 1) (by omega) hL d_W_law_1081 ?_
  refine lv_aload_n hx hb d_W_law_1082 rfl (lv_at hl 0 rfl) ?_
  refine lv_iload hx hb d_W_law_1083 (lv_at hl 4 rfl) ?_
  refine lv_iconst (v := 2) hx hb d_W_law_1085 (by decide) ?_
  refine lv_iadd hx hb d_W_law_1086 ?_
  refine w_topi (lc_add ix 2 rfl) ?_
  refine lc_ld hx hb hX hbl ho hS (i := ix + 2) (by omega) hL d_W_law_1087 ?_
  refine lv_aload_n hx hb d_W_law_1088 rfl (lv_at hl 3 rfl) ?_
  refine lc_S ⟨hx, hb, hml, hown, hts⟩ (k_W_reverse l hl9 D cA o _ qo M fo ec hec eec rc hrc hfr ln hln eln en hen (xs (ix + 1)) (xs (ix + 2))) (kSW hts 4 aK_W_reverse aM_W_145 aS_W_reverse aN_W nm_W_reverse rfl rfl ⟨(Nat.le_of_ble_eq_true rfl), (Nat.le_of_ble_eq_true rfl)⟩) hK hG hN ho ho2 hqo hP hP2 hO hS rfl hl.1 rfl (Nat.le_of_ble_eq_true rfl) d_W_law_1089 ⟨Nat.le_trans (show cells + 3 ≤ cells + 8 by omega) hc, Nat.le_trans (show slots + 18 ≤ slots + 48 by omega) hs⟩ (fun rk u H locs hw1 hP hP2 hO hS => ?_)
  refine lv_istore (lv' := [(5, .int rk), (0, .ref b), (1, .ref (o + 0)), (2, .ref (o2 + 0)), (3, .ref qo), (4, .int (nI ix))]) hx hb d_W_law_1092 hl (by decide) rfl (fun ls hl => ?_)
  refine lv_aload_n hx hb d_W_law_1094 rfl (lv_at hl 3 rfl) ?_
  refine lv_aload_n hx hb d_W_law_1095 rfl (lv_at hl 1 rfl) ?_
  refine lv_iload hx hb d_W_law_1096 (lv_at hl 5 rfl) ?_
  refine lv_iconst (v := 1) hx hb d_W_law_1098 (by decide) ?_
  refine lv_iadd hx hb d_W_law_1099 ?_
  refine w_topi (lc_add ix 1 rfl) ?_
  refine lc_ld hx hb hX hbl ho hS (i := ix + 1) (by omega) hL d_W_law_1100 ?_
  refine lv_aload_n hx hb d_W_law_1101 rfl (lv_at hl 1 rfl) ?_
  refine lv_iload hx hb d_W_law_1102 (lv_at hl 5 rfl) ?_
  refine lv_iconst (v := 2) hx hb d_W_law_1104 (by decide) ?_
  refine lv_iadd hx hb d_W_law_1105 ?_
  refine w_topi (lc_add ix 2 rfl) ?_
  refine lc_ld hx hb hX hbl ho hS (i := ix + 2) (by omega) hL d_W_law_1106 ?_
  refine lc_Vi ⟨hx, hb, hml, hown, hts⟩ (k_M_reverse l D cA o2 _ N ec2 hec2 eec2 rc2 hrc2 hfr2 ln2 hln2 eln2 en2 hen2 (xs (ix + 1)) (xs (ix + 2))) (kV hts 2 aK_M_reverse aM_W_147 aI_M_reverse aV_M_reverse aN_M nm_M_reverse rfl rfl ⟨(Nat.le_of_ble_eq_true rfl), (Nat.le_of_ble_eq_true rfl)⟩) hK ho ho2 hqo hP hP2 hO hS rfl hl.1 rfl (Nat.le_of_ble_eq_true rfl) d_W_law_1107 ⟨Nat.le_trans (show cells + 3 + 0 ≤ cells + 8 by omega) hc, Nat.le_trans (show slots + 18 + 0 ≤ slots + 48 by omega) hs⟩ (fun rb N1 H locs hw2 hP hP2 hO hS => ?_)
  refine lv_istore (lv' := [(6, .int rb), (5, .int rk), (0, .ref b), (1, .ref (o + 0)), (2, .ref (o2 + 0)), (3, .ref qo), (4, .int (nI ix))]) hx hb d_W_law_1110 hl (by decide) rfl (fun ls hl => ?_)
  refine lv_goto (tgt := 1115) hx hb d_W_law_1112 (by decide) ?_
  refine W.widen (k := cells + 8) (n := slots + 48) (by omega) (by omega) ?_
  exact kk rk u rb N1 _ _ ls hw1 hw2 hP hP2 hO hS (lv_sub hl [2, 3, 4, 5, 6] rfl)
