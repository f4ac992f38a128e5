theorem dL_law_18 : decode cL_law 18 = .ok (.iload_n 3, 1) := by decide +kernel
theorem dL_law_19 : decode cL_law 19 = .ok (.aload_n 0, 1) := by decide +kernel
theorem dL_law_20 : decode cL_law 20 = .ok (.arraylength, 1) := by decide +kernel
theorem dL_law_21 : decode cL_law 21 = .ok (.bipush 6, 2) := by decide +kernel
theorem dL_law_23 : decode cL_law 23 = .ok (.isub, 1) := by decide +kernel
theorem dL_law_24 : decode cL_law 24 = .ok (.if_icmp .gt 1130, 3) := by decide +kernel
theorem dL_law_1148 : decode cL_law 1148 = .ok (.iinc 3 6, 3) := by decide +kernel
theorem dL_law_1151 : decode cL_law 1151 = .ok (.goto (-1133), 3) := by decide +kernel
theorem dL_law_1154 : decode cL_law 1154 = .ok (.iconst 1, 1) := by decide +kernel
theorem dL_law_1155 : decode cL_law 1155 = .ok (.ireturn, 1) := by decide +kernel
set_option maxRecDepth 20000 in
set_option maxHeartbeats 4000000 in
theorem law_back {E : xE} {p : Program} {l : Launch} {e : Env} {s : State} {m : MethodId} {below : List Frame} {meth : Method} {c : Code} {b : Nat} {xs : Nat → Int32} {x mm : Nat} (hS : LC E p s m meth c b 6 xs) (w : va_W) : LX E p l e s m below meth c b w 1148 [(3, .int 0), (2, .ref mm), (1, .ref x), (0, .ref b)] [] := by
  have C := hS.1
  refine x_iinc C (v := 6) (lv' := [(3, .int 6), (2, .ref mm), (1, .ref x), (0, .ref b)]) dL_law_1148 0 rfl (by decide) (by decide) rfl rfl ?_
  refine x_goto C (tgt := 18) dL_law_1151 (by decide) ?_
  refine x_iload_n C dL_law_18 rfl 0 rfl rfl ?_
  refine x_aload_n C dL_law_19 rfl 3 rfl rfl ?_
  refine x_slen C hS.2.1 hS.2.2.1 hS.2.2.2.1 (v := 6) rfl dL_law_20 rfl ?_
  refine x_bipush C (v := 6) dL_law_21 (by decide) rfl ?_
  refine x_isub C (v := 0) dL_law_23 (by decide) rfl ?_
  refine x_icmp_gt C (tgt := 1154) dL_law_24 (by decide) rfl (fun _ => ?_) (fun h => absurd h (by decide))
  refine x_iconst C (v := 1) dL_law_1154 (by decide) rfl ?_
  exact x_lret C hS.2.2.2.2.1 hS.2.2.2.2.2 (by decide) (by decide) dL_law_1155
theorem dL_law_168 : decode cL_law 168 = .ok (.aload_n 1, 1) := by decide +kernel
theorem dL_law_169 : decode cL_law 169 = .ok (.aload_n 0, 1) := by decide +kernel
theorem dL_law_170 : decode cL_law 170 = .ok (.iload_n 3, 1) := by decide +kernel
theorem dL_law_171 : decode cL_law 171 = .ok (.iconst 1, 1) := by decide +kernel
theorem dL_law_172 : decode cL_law 172 = .ok (.iadd, 1) := by decide +kernel
theorem dL_law_173 : decode cL_law 173 = .ok (.iaload, 1) := by decide +kernel
theorem dL_law_174 : decode cL_law 174 = .ok (.invokevirtual 13, 3) := by decide +kernel
theorem dL_law_177 : decode cL_law 177 = .ok (.aload_n 2, 1) := by decide +kernel
theorem dL_law_178 : decode cL_law 178 = .ok (.aload_n 0, 1) := by decide +kernel
theorem dL_law_179 : decode cL_law 179 = .ok (.iload_n 3, 1) := by decide +kernel
theorem dL_law_180 : decode cL_law 180 = .ok (.iconst 1, 1) := by decide +kernel
theorem dL_law_181 : decode cL_law 181 = .ok (.iadd, 1) := by decide +kernel
theorem dL_law_182 : decode cL_law 182 = .ok (.iaload, 1) := by decide +kernel
theorem dL_law_183 : decode cL_law 183 = .ok (.invokevirtual 17, 3) := by decide +kernel
theorem dL_law_186 : decode cL_law 186 = .ok (.if_icmp .eq 962, 3) := by decide +kernel
set_option maxRecDepth 20000 in
set_option maxHeartbeats 4000000 in
theorem law_case_0 {E : xE} {p : Program} {l : Launch} {e : Env} {s : State} {m : MethodId} {below : List Frame} {meth : Method} {c : Code} {b : Nat} {xs : Nat → Int32} {x mm : Nat} {wx wm : va_W} (hS : LC E p s m meth c b 6 xs) (hx : FX E x wx) (hm : FM E mm wm) : LX E p l e s m below meth c b (wm ++ wx) 168 [(3, .int 0), (2, .ref mm), (1, .ref x), (0, .ref b)] [] := by
  have C := hS.1
  obtain ⟨gx, rx⟩ := hx.recv
  obtain ⟨gm, rm⟩ := hm.recv
  refine x_aload_n C dL_law_168 rfl 2 rfl rfl ?_
  refine x_aload_n C dL_law_169 rfl 3 rfl rfl ?_
  refine x_iload_n C dL_law_170 rfl 0 rfl rfl ?_
  refine x_iconst C (v := 1) dL_law_171 (by decide) rfl ?_
  refine x_iadd C (v := 1) dL_law_172 (by decide) rfl ?_
  refine x_sld C hS.2.1 hS.2.2.1 hS.2.2.2.1 1 (by decide) (by decide) (by decide) dL_law_173 rfl ?_
  refine x_vf C (As := [.int (xs 1)]) (rest := []) (W0 := wm) (wc := wx) (ft_person E l hx (xs 1)) mf_X11_person w_443 rfl 0 rx rfl rfl rfl (Nat.le_of_ble_eq_true rfl) ⟨(Nat.le_of_ble_eq_true rfl), (Nat.le_of_ble_eq_true rfl)⟩ ⟨(Nat.le_of_ble_eq_true rfl), (Nat.le_of_ble_eq_true rfl)⟩ dL_law_174 rfl (fun r1 w2 h3 => ?_)
  refine x_aload_n C dL_law_177 rfl 1 rfl rfl ?_
  refine x_aload_n C dL_law_178 rfl 3 rfl rfl ?_
  refine x_iload_n C dL_law_179 rfl 0 rfl rfl ?_
  refine x_iconst C (v := 1) dL_law_180 (by decide) rfl ?_
  refine x_iadd C (v := 1) dL_law_181 (by decide) rfl ?_
  refine x_sld C hS.2.1 hS.2.2.1 hS.2.2.2.1 1 (by decide) (by decide) (by decide) dL_law_182 rfl ?_
  refine x_vi C (As := [.int (xs 1)]) (rest := [.int r1]) (fe_person E l hm (xs 1)) mf_X12_person w_1263 0 rm rfl rfl rfl (Nat.le_of_ble_eq_true rfl) ⟨(Nat.le_of_ble_eq_true rfl), (Nat.le_of_ble_eq_true rfl)⟩ ⟨(Nat.le_of_ble_eq_true rfl), (Nat.le_of_ble_eq_true rfl)⟩ dL_law_183 rfl (fun r4 w5 h6 => ?_)
  refine x_icmp_eq C (tgt := 1148) dL_law_186 (by decide) rfl (fun _ => ?_) (fun h => absurd (h3.trans ((p_iff _).trans h6.symm)) h)
  exact law_back hS _
theorem dL_law_191 : decode cL_law 191 = .ok (.aload_n 1, 1) := by decide +kernel
theorem dL_law_192 : decode cL_law 192 = .ok (.aload_n 0, 1) := by decide +kernel
theorem dL_law_193 : decode cL_law 193 = .ok (.iload_n 3, 1) := by decide +kernel
theorem dL_law_194 : decode cL_law 194 = .ok (.iconst 1, 1) := by decide +kernel
theorem dL_law_195 : decode cL_law 195 = .ok (.iadd, 1) := by decide +kernel
theorem dL_law_196 : decode cL_law 196 = .ok (.iaload, 1) := by decide +kernel
theorem dL_law_197 : decode cL_law 197 = .ok (.aload_n 0, 1) := by decide +kernel
theorem dL_law_198 : decode cL_law 198 = .ok (.iload_n 3, 1) := by decide +kernel
theorem dL_law_199 : decode cL_law 199 = .ok (.iconst 2, 1) := by decide +kernel
theorem dL_law_200 : decode cL_law 200 = .ok (.iadd, 1) := by decide +kernel
theorem dL_law_201 : decode cL_law 201 = .ok (.iaload, 1) := by decide +kernel
theorem dL_law_202 : decode cL_law 202 = .ok (.aload_n 0, 1) := by decide +kernel
theorem dL_law_203 : decode cL_law 203 = .ok (.iload_n 3, 1) := by decide +kernel
theorem dL_law_204 : decode cL_law 204 = .ok (.iconst 3, 1) := by decide +kernel
theorem dL_law_205 : decode cL_law 205 = .ok (.iadd, 1) := by decide +kernel
theorem dL_law_206 : decode cL_law 206 = .ok (.iaload, 1) := by decide +kernel
theorem dL_law_207 : decode cL_law 207 = .ok (.invokevirtual 18, 3) := by decide +kernel
theorem dL_law_210 : decode cL_law 210 = .ok (.aload_n 2, 1) := by decide +kernel
theorem dL_law_211 : decode cL_law 211 = .ok (.aload_n 0, 1) := by decide +kernel
theorem dL_law_212 : decode cL_law 212 = .ok (.iload_n 3, 1) := by decide +kernel
theorem dL_law_213 : decode cL_law 213 = .ok (.iconst 1, 1) := by decide +kernel
theorem dL_law_214 : decode cL_law 214 = .ok (.iadd, 1) := by decide +kernel
theorem dL_law_215 : decode cL_law 215 = .ok (.iaload, 1) := by decide +kernel
theorem dL_law_216 : decode cL_law 216 = .ok (.aload_n 0, 1) := by decide +kernel
theorem dL_law_217 : decode cL_law 217 = .ok (.iload_n 3, 1) := by decide +kernel
theorem dL_law_218 : decode cL_law 218 = .ok (.iconst 2, 1) := by decide +kernel
theorem dL_law_219 : decode cL_law 219 = .ok (.iadd, 1) := by decide +kernel
theorem dL_law_220 : decode cL_law 220 = .ok (.iaload, 1) := by decide +kernel
theorem dL_law_221 : decode cL_law 221 = .ok (.aload_n 0, 1) := by decide +kernel
theorem dL_law_222 : decode cL_law 222 = .ok (.iload_n 3, 1) := by decide +kernel
theorem dL_law_223 : decode cL_law 223 = .ok (.iconst 3, 1) := by decide +kernel
theorem dL_law_224 : decode cL_law 224 = .ok (.iadd, 1) := by decide +kernel
theorem dL_law_225 : decode cL_law 225 = .ok (.iaload, 1) := by decide +kernel
theorem dL_law_226 : decode cL_law 226 = .ok (.invokevirtual 22, 3) := by decide +kernel
theorem dL_law_229 : decode cL_law 229 = .ok (.if_icmp .eq 919, 3) := by decide +kernel
set_option maxRecDepth 20000 in
set_option maxHeartbeats 4000000 in
theorem law_case_1 {E : xE} {p : Program} {l : Launch} {e : Env} {s : State} {m : MethodId} {below : List Frame} {meth : Method} {c : Code} {b : Nat} {xs : Nat → Int32} {x mm : Nat} {wx wm : va_W} (hS : LC E p s m meth c b 6 xs) (hx : FX E x wx) (hm : FM E mm wm) : LX E p l e s m below meth c b (wm ++ wx) 191 [(3, .int 0), (2, .ref mm), (1, .ref x), (0, .ref b)] [] := by
  have C := hS.1
  obtain ⟨gx, rx⟩ := hx.recv
  obtain ⟨gm, rm⟩ := hm.recv
  refine x_aload_n C dL_law_191 rfl 2 rfl rfl ?_
  refine x_aload_n C dL_law_192 rfl 3 rfl rfl ?_
  refine x_iload_n C dL_law_193 rfl 0 rfl rfl ?_
  refine x_iconst C (v := 1) dL_law_194 (by decide) rfl ?_
  refine x_iadd C (v := 1) dL_law_195 (by decide) rfl ?_
  refine x_sld C hS.2.1 hS.2.2.1 hS.2.2.2.1 1 (by decide) (by decide) (by decide) dL_law_196 rfl ?_
  refine x_aload_n C dL_law_197 rfl 3 rfl rfl ?_
  refine x_iload_n C dL_law_198 rfl 0 rfl rfl ?_
  refine x_iconst C (v := 2) dL_law_199 (by decide) rfl ?_
  refine x_iadd C (v := 2) dL_law_200 (by decide) rfl ?_
  refine x_sld C hS.2.1 hS.2.2.1 hS.2.2.2.1 2 (by decide) (by decide) (by decide) dL_law_201 rfl ?_
  refine x_aload_n C dL_law_202 rfl 3 rfl rfl ?_
  refine x_iload_n C dL_law_203 rfl 0 rfl rfl ?_
  refine x_iconst C (v := 3) dL_law_204 (by decide) rfl ?_
  refine x_iadd C (v := 3) dL_law_205 (by decide) rfl ?_
  refine x_sld C hS.2.1 hS.2.2.1 hS.2.2.2.1 3 (by decide) (by decide) (by decide) dL_law_206 rfl ?_
  refine x_vf C (As := [.int (xs 1), .int (xs 2), .int (xs 3)]) (rest := []) (W0 := wm) (wc := wx) (ft_hen E l hx (xs 1) (xs 2) (xs 3)) mf_X11_hen w_458 rfl 0 rx rfl rfl rfl (Nat.le_of_ble_eq_true rfl) ⟨(Nat.le_of_ble_eq_true rfl), (Nat.le_of_ble_eq_true rfl)⟩ ⟨(Nat.le_of_ble_eq_true rfl), (Nat.le_of_ble_eq_true rfl)⟩ dL_law_207 rfl (fun r1 w2 h3 => ?_)
  refine x_aload_n C dL_law_210 rfl 1 rfl rfl ?_
  refine x_aload_n C dL_law_211 rfl 3 rfl rfl ?_
  refine x_iload_n C dL_law_212 rfl 0 rfl rfl ?_
  refine x_iconst C (v := 1) dL_law_213 (by decide) rfl ?_
  refine x_iadd C (v := 1) dL_law_214 (by decide) rfl ?_
  refine x_sld C hS.2.1 hS.2.2.1 hS.2.2.2.1 1 (by decide) (by decide) (by decide) dL_law_215 rfl ?_
  refine x_aload_n C dL_law_216 rfl 3 rfl rfl ?_
  refine x_iload_n C dL_law_217 rfl 0 rfl rfl ?_
  refine x_iconst C (v := 2) dL_law_218 (by decide) rfl ?_
  refine x_iadd C (v := 2) dL_law_219 (by decide) rfl ?_
  refine x_sld C hS.2.1 hS.2.2.1 hS.2.2.2.1 2 (by decide) (by decide) (by decide) dL_law_220 rfl ?_
  refine x_aload_n C dL_law_221 rfl 3 rfl rfl ?_
  refine x_iload_n C dL_law_222 rfl 0 rfl rfl ?_
  refine x_iconst C (v := 3) dL_law_223 (by decide) rfl ?_
  refine x_iadd C (v := 3) dL_law_224 (by decide) rfl ?_
  refine x_sld C hS.2.1 hS.2.2.1 hS.2.2.2.1 3 (by decide) (by decide) (by decide) dL_law_225 rfl ?_
  refine x_vi C (As := [.int (xs 1), .int (xs 2), .int (xs 3)]) (rest := [.int r1]) (fe_hen E l hm (xs 1) (xs 2) (xs 3)) mf_X12_hen w_1277 0 rm rfl rfl rfl (Nat.le_of_ble_eq_true rfl) ⟨(Nat.le_of_ble_eq_true rfl), (Nat.le_of_ble_eq_true rfl)⟩ ⟨(Nat.le_of_ble_eq_true rfl), (Nat.le_of_ble_eq_true rfl)⟩ dL_law_226 rfl (fun r4 w5 h6 => ?_)
  refine x_icmp_eq C (tgt := 1148) dL_law_229 (by decide) rfl (fun _ => ?_) (fun h => absurd (h3.trans h6.symm) h)
  exact law_back hS _
theorem dL_law_234 : decode cL_law 234 = .ok (.aload_n 1, 1) := by decide +kernel
theorem dL_law_235 : decode cL_law 235 = .ok (.aload_n 0, 1) := by decide +kernel
theorem dL_law_236 : decode cL_law 236 = .ok (.iload_n 3, 1) := by decide +kernel
theorem dL_law_237 : decode cL_law 237 = .ok (.iconst 1, 1) := by decide +kernel
theorem dL_law_238 : decode cL_law 238 = .ok (.iadd, 1) := by decide +kernel
theorem dL_law_239 : decode cL_law 239 = .ok (.iaload, 1) := by decide +kernel
theorem dL_law_240 : decode cL_law 240 = .ok (.invokevirtual 23, 3) := by decide +kernel
theorem dL_law_243 : decode cL_law 243 = .ok (.aload_n 2, 1) := by decide +kernel
theorem dL_law_244 : decode cL_law 244 = .ok (.aload_n 0, 1) := by decide +kernel
theorem dL_law_245 : decode cL_law 245 = .ok (.iload_n 3, 1) := by decide +kernel
theorem dL_law_246 : decode cL_law 246 = .ok (.iconst 1, 1) := by decide +kernel
theorem dL_law_247 : decode cL_law 247 = .ok (.iadd, 1) := by decide +kernel
theorem dL_law_248 : decode cL_law 248 = .ok (.iaload, 1) := by decide +kernel
theorem dL_law_249 : decode cL_law 249 = .ok (.invokevirtual 26, 3) := by decide +kernel
theorem dL_law_252 : decode cL_law 252 = .ok (.if_icmp .eq 896, 3) := by decide +kernel
set_option maxRecDepth 20000 in
set_option maxHeartbeats 4000000 in
theorem law_case_2 {E : xE} {p : Program} {l : Launch} {e : Env} {s : State} {m : MethodId} {below : List Frame} {meth : Method} {c : Code} {b : Nat} {xs : Nat → Int32} {x mm : Nat} {wx wm : va_W} (hS : LC E p s m meth c b 6 xs) (hx : FX E x wx) (hm : FM E mm wm) : LX E p l e s m below meth c b (wm ++ wx) 234 [(3, .int 0), (2, .ref mm), (1, .ref x), (0, .ref b)] [] := by
  have C := hS.1
  obtain ⟨gx, rx⟩ := hx.recv
  obtain ⟨gm, rm⟩ := hm.recv
  refine x_aload_n C dL_law_234 rfl 2 rfl rfl ?_
  refine x_aload_n C dL_law_235 rfl 3 rfl rfl ?_
  refine x_iload_n C dL_law_236 rfl 0 rfl rfl ?_
  refine x_iconst C (v := 1) dL_law_237 (by decide) rfl ?_
  refine x_iadd C (v := 1) dL_law_238 (by decide) rfl ?_
  refine x_sld C hS.2.1 hS.2.2.1 hS.2.2.2.1 1 (by decide) (by decide) (by decide) dL_law_239 rfl ?_
  refine x_vf C (As := [.int (xs 1)]) (rest := []) (W0 := wm) (wc := wx) (ft_fox E l hx (xs 1)) mf_X11_fox w_470 rfl 0 rx rfl rfl rfl (Nat.le_of_ble_eq_true rfl) ⟨(Nat.le_of_ble_eq_true rfl), (Nat.le_of_ble_eq_true rfl)⟩ ⟨(Nat.le_of_ble_eq_true rfl), (Nat.le_of_ble_eq_true rfl)⟩ dL_law_240 rfl (fun r1 w2 h3 => ?_)
  refine x_aload_n C dL_law_243 rfl 1 rfl rfl ?_
  refine x_aload_n C dL_law_244 rfl 3 rfl rfl ?_
  refine x_iload_n C dL_law_245 rfl 0 rfl rfl ?_
  refine x_iconst C (v := 1) dL_law_246 (by decide) rfl ?_
  refine x_iadd C (v := 1) dL_law_247 (by decide) rfl ?_
  refine x_sld C hS.2.1 hS.2.2.1 hS.2.2.2.1 1 (by decide) (by decide) (by decide) dL_law_248 rfl ?_
  refine x_vi C (As := [.int (xs 1)]) (rest := [.int r1]) (fe_fox E l hm (xs 1)) mf_X12_fox w_1281 0 rm rfl rfl rfl (Nat.le_of_ble_eq_true rfl) ⟨(Nat.le_of_ble_eq_true rfl), (Nat.le_of_ble_eq_true rfl)⟩ ⟨(Nat.le_of_ble_eq_true rfl), (Nat.le_of_ble_eq_true rfl)⟩ dL_law_249 rfl (fun r4 w5 h6 => ?_)
  refine x_icmp_eq C (tgt := 1148) dL_law_252 (by decide) rfl (fun _ => ?_) (fun h => absurd (h3.trans h6.symm) h)
  exact law_back hS _
theorem dL_law_257 : decode cL_law 257 = .ok (.aload_n 1, 1) := by decide +kernel
theorem dL_law_258 : decode cL_law 258 = .ok (.aload_n 0, 1) := by decide +kernel
theorem dL_law_259 : decode cL_law 259 = .ok (.iload_n 3, 1) := by decide +kernel
theorem dL_law_260 : decode cL_law 260 = .ok (.iconst 1, 1) := by decide +kernel
theorem dL_law_261 : decode cL_law 261 = .ok (.iadd, 1) := by decide +kernel
theorem dL_law_262 : decode cL_law 262 = .ok (.iaload, 1) := by decide +kernel
theorem dL_law_263 : decode cL_law 263 = .ok (.aload_n 0, 1) := by decide +kernel
theorem dL_law_264 : decode cL_law 264 = .ok (.iload_n 3, 1) := by decide +kernel
theorem dL_law_265 : decode cL_law 265 = .ok (.iconst 2, 1) := by decide +kernel
theorem dL_law_266 : decode cL_law 266 = .ok (.iadd, 1) := by decide +kernel
theorem dL_law_267 : decode cL_law 267 = .ok (.iaload, 1) := by decide +kernel
theorem dL_law_268 : decode cL_law 268 = .ok (.aload_n 0, 1) := by decide +kernel
theorem dL_law_269 : decode cL_law 269 = .ok (.iload_n 3, 1) := by decide +kernel
theorem dL_law_270 : decode cL_law 270 = .ok (.iconst 3, 1) := by decide +kernel
theorem dL_law_271 : decode cL_law 271 = .ok (.iadd, 1) := by decide +kernel
theorem dL_law_272 : decode cL_law 272 = .ok (.iaload, 1) := by decide +kernel
theorem dL_law_273 : decode cL_law 273 = .ok (.aload_n 0, 1) := by decide +kernel
theorem dL_law_274 : decode cL_law 274 = .ok (.iload_n 3, 1) := by decide +kernel
theorem dL_law_275 : decode cL_law 275 = .ok (.iconst 4, 1) := by decide +kernel
theorem dL_law_276 : decode cL_law 276 = .ok (.iadd, 1) := by decide +kernel
theorem dL_law_277 : decode cL_law 277 = .ok (.iaload, 1) := by decide +kernel
theorem dL_law_278 : decode cL_law 278 = .ok (.invokevirtual 27, 3) := by decide +kernel
theorem dL_law_281 : decode cL_law 281 = .ok (.aload_n 2, 1) := by decide +kernel
theorem dL_law_282 : decode cL_law 282 = .ok (.aload_n 0, 1) := by decide +kernel
theorem dL_law_283 : decode cL_law 283 = .ok (.iload_n 3, 1) := by decide +kernel
theorem dL_law_284 : decode cL_law 284 = .ok (.iconst 1, 1) := by decide +kernel
theorem dL_law_285 : decode cL_law 285 = .ok (.iadd, 1) := by decide +kernel
theorem dL_law_286 : decode cL_law 286 = .ok (.iaload, 1) := by decide +kernel
theorem dL_law_287 : decode cL_law 287 = .ok (.aload_n 0, 1) := by decide +kernel
theorem dL_law_288 : decode cL_law 288 = .ok (.iload_n 3, 1) := by decide +kernel
theorem dL_law_289 : decode cL_law 289 = .ok (.iconst 2, 1) := by decide +kernel
theorem dL_law_290 : decode cL_law 290 = .ok (.iadd, 1) := by decide +kernel
theorem dL_law_291 : decode cL_law 291 = .ok (.iaload, 1) := by decide +kernel
theorem dL_law_292 : decode cL_law 292 = .ok (.aload_n 0, 1) := by decide +kernel
theorem dL_law_293 : decode cL_law 293 = .ok (.iload_n 3, 1) := by decide +kernel
theorem dL_law_294 : decode cL_law 294 = .ok (.iconst 3, 1) := by decide +kernel
theorem dL_law_295 : decode cL_law 295 = .ok (.iadd, 1) := by decide +kernel
theorem dL_law_296 : decode cL_law 296 = .ok (.iaload, 1) := by decide +kernel
theorem dL_law_297 : decode cL_law 297 = .ok (.aload_n 0, 1) := by decide +kernel
theorem dL_law_298 : decode cL_law 298 = .ok (.iload_n 3, 1) := by decide +kernel
theorem dL_law_299 : decode cL_law 299 = .ok (.iconst 4, 1) := by decide +kernel
theorem dL_law_300 : decode cL_law 300 = .ok (.iadd, 1) := by decide +kernel
theorem dL_law_301 : decode cL_law 301 = .ok (.iaload, 1) := by decide +kernel
theorem dL_law_302 : decode cL_law 302 = .ok (.invokevirtual 31, 3) := by decide +kernel
theorem dL_law_305 : decode cL_law 305 = .ok (.if_icmp .eq 843, 3) := by decide +kernel
set_option maxRecDepth 20000 in
set_option maxHeartbeats 4000000 in
theorem law_case_3 {E : xE} {p : Program} {l : Launch} {e : Env} {s : State} {m : MethodId} {below : List Frame} {meth : Method} {c : Code} {b : Nat} {xs : Nat → Int32} {x mm : Nat} {wx wm : va_W} (hS : LC E p s m meth c b 6 xs) (hx : FX E x wx) (hm : FM E mm wm) : LX E p l e s m below meth c b (wm ++ wx) 257 [(3, .int 0), (2, .ref mm), (1, .ref x), (0, .ref b)] [] := by
  have C := hS.1
  obtain ⟨gx, rx⟩ := hx.recv
  obtain ⟨gm, rm⟩ := hm.recv
  refine x_aload_n C dL_law_257 rfl 2 rfl rfl ?_
  refine x_aload_n C dL_law_258 rfl 3 rfl rfl ?_
  refine x_iload_n C dL_law_259 rfl 0 rfl rfl ?_
  refine x_iconst C (v := 1) dL_law_260 (by decide) rfl ?_
  refine x_iadd C (v := 1) dL_law_261 (by decide) rfl ?_
  refine x_sld C hS.2.1 hS.2.2.1 hS.2.2.2.1 1 (by decide) (by decide) (by decide) dL_law_262 rfl ?_
  refine x_aload_n C dL_law_263 rfl 3 rfl rfl ?_
  refine x_iload_n C dL_law_264 rfl 0 rfl rfl ?_
  refine x_iconst C (v := 2) dL_law_265 (by decide) rfl ?_
  refine x_iadd C (v := 2) dL_law_266 (by decide) rfl ?_
  refine x_sld C hS.2.1 hS.2.2.1 hS.2.2.2.1 2 (by decide) (by decide) (by decide) dL_law_267 rfl ?_
  refine x_aload_n C dL_law_268 rfl 3 rfl rfl ?_
  refine x_iload_n C dL_law_269 rfl 0 rfl rfl ?_
  refine x_iconst C (v := 3) dL_law_270 (by decide) rfl ?_
  refine x_iadd C (v := 3) dL_law_271 (by decide) rfl ?_
  refine x_sld C hS.2.1 hS.2.2.1 hS.2.2.2.1 3 (by decide) (by decide) (by decide) dL_law_272 rfl ?_
  refine x_aload_n C dL_law_273 rfl 3 rfl rfl ?_
  refine x_iload_n C dL_law_274 rfl 0 rfl rfl ?_
  refine x_iconst C (v := 4) dL_law_275 (by decide) rfl ?_
  refine x_iadd C (v := 4) dL_law_276 (by decide) rfl ?_
  refine x_sld C hS.2.1 hS.2.2.1 hS.2.2.2.1 4 (by decide) (by decide) (by decide) dL_law_277 rfl ?_
  refine x_vf C (As := [.int (xs 1), .int (xs 2), .int (xs 3), .int (xs 4)]) (rest := []) (W0 := wm) (wc := wx) (ft_work E l hx (xs 1) (xs 2) (xs 3) (xs 4)) mf_X11_work w_479 rfl 0 rx rfl rfl rfl (Nat.le_of_ble_eq_true rfl) ⟨(Nat.le_of_ble_eq_true rfl), (Nat.le_of_ble_eq_true rfl)⟩ ⟨(Nat.le_of_ble_eq_true rfl), (Nat.le_of_ble_eq_true rfl)⟩ dL_law_278 rfl (fun r1 w2 h3 => ?_)
  refine x_aload_n C dL_law_281 rfl 1 rfl rfl ?_
  refine x_aload_n C dL_law_282 rfl 3 rfl rfl ?_
  refine x_iload_n C dL_law_283 rfl 0 rfl rfl ?_
  refine x_iconst C (v := 1) dL_law_284 (by decide) rfl ?_
  refine x_iadd C (v := 1) dL_law_285 (by decide) rfl ?_
  refine x_sld C hS.2.1 hS.2.2.1 hS.2.2.2.1 1 (by decide) (by decide) (by decide) dL_law_286 rfl ?_
  refine x_aload_n C dL_law_287 rfl 3 rfl rfl ?_
  refine x_iload_n C dL_law_288 rfl 0 rfl rfl ?_
  refine x_iconst C (v := 2) dL_law_289 (by decide) rfl ?_
  refine x_iadd C (v := 2) dL_law_290 (by decide) rfl ?_
  refine x_sld C hS.2.1 hS.2.2.1 hS.2.2.2.1 2 (by decide) (by decide) (by decide) dL_law_291 rfl ?_
  refine x_aload_n C dL_law_292 rfl 3 rfl rfl ?_
  refine x_iload_n C dL_law_293 rfl 0 rfl rfl ?_
  refine x_iconst C (v := 3) dL_law_294 (by decide) rfl ?_
  refine x_iadd C (v := 3) dL_law_295 (by decide) rfl ?_
  refine x_sld C hS.2.1 hS.2.2.1 hS.2.2.2.1 3 (by decide) (by decide) (by decide) dL_law_296 rfl ?_
  refine x_aload_n C dL_law_297 rfl 3 rfl rfl ?_
  refine x_iload_n C dL_law_298 rfl 0 rfl rfl ?_
  refine x_iconst C (v := 4) dL_law_299 (by decide) rfl ?_
  refine x_iadd C (v := 4) dL_law_300 (by decide) rfl ?_
  refine x_sld C hS.2.1 hS.2.2.1 hS.2.2.2.1 4 (by decide) (by decide) (by decide) dL_law_301 rfl ?_
  refine x_vi C (As := [.int (xs 1), .int (xs 2), .int (xs 3), .int (xs 4)]) (rest := [.int r1]) (fe_work E l hm (xs 1) (xs 2) (xs 3) (xs 4)) mf_X12_work w_1289 0 rm rfl rfl rfl (Nat.le_of_ble_eq_true rfl) ⟨(Nat.le_of_ble_eq_true rfl), (Nat.le_of_ble_eq_true rfl)⟩ ⟨(Nat.le_of_ble_eq_true rfl), (Nat.le_of_ble_eq_true rfl)⟩ dL_law_302 rfl (fun r4 w5 h6 => ?_)
  refine x_icmp_eq C (tgt := 1148) dL_law_305 (by decide) rfl (fun _ => ?_) (fun h => absurd (h3.trans h6.symm) h)
  exact law_back hS _
theorem dL_law_310 : decode cL_law 310 = .ok (.aload_n 1, 1) := by decide +kernel
theorem dL_law_311 : decode cL_law 311 = .ok (.invokevirtual 32, 3) := by decide +kernel
theorem dL_law_314 : decode cL_law 314 = .ok (.aload_n 2, 1) := by decide +kernel
theorem dL_law_315 : decode cL_law 315 = .ok (.invokevirtual 36, 3) := by decide +kernel
theorem dL_law_318 : decode cL_law 318 = .ok (.if_icmp .eq 830, 3) := by decide +kernel
set_option maxRecDepth 20000 in
set_option maxHeartbeats 4000000 in
theorem law_case_4 {E : xE} {p : Program} {l : Launch} {e : Env} {s : State} {m : MethodId} {below : List Frame} {meth : Method} {c : Code} {b : Nat} {xs : Nat → Int32} {x mm : Nat} {wx wm : va_W} (hS : LC E p s m meth c b 6 xs) (hx : FX E x wx) (hm : FM E mm wm) : LX E p l e s m below meth c b (wm ++ wx) 310 [(3, .int 0), (2, .ref mm), (1, .ref x), (0, .ref b)] [] := by
  have C := hS.1
  obtain ⟨gx, rx⟩ := hx.recv
  obtain ⟨gm, rm⟩ := hm.recv
  refine x_aload_n C dL_law_310 rfl 2 rfl rfl ?_
  refine x_vf C (As := []) (rest := []) (W0 := wm) (wc := wx) (ft_clean E l hx) mf_X11_clean w_487 rfl 0 rx rfl rfl rfl (Nat.le_of_ble_eq_true rfl) ⟨(Nat.le_of_ble_eq_true rfl), (Nat.le_of_ble_eq_true rfl)⟩ ⟨(Nat.le_of_ble_eq_true rfl), (Nat.le_of_ble_eq_true rfl)⟩ dL_law_311 rfl (fun r1 w2 h3 => ?_)
  refine x_aload_n C dL_law_314 rfl 1 rfl rfl ?_
  refine x_vi C (As := []) (rest := [.int r1]) (fe_clean E l hm) mf_X12_clean w_1293 0 rm rfl rfl rfl (Nat.le_of_ble_eq_true rfl) ⟨(Nat.le_of_ble_eq_true rfl), (Nat.le_of_ble_eq_true rfl)⟩ ⟨(Nat.le_of_ble_eq_true rfl), (Nat.le_of_ble_eq_true rfl)⟩ dL_law_315 rfl (fun r4 w5 h6 => ?_)
  refine x_icmp_eq C (tgt := 1148) dL_law_318 (by decide) rfl (fun _ => ?_) (fun h => absurd (h3.trans h6.symm) h)
  exact law_back hS _
theorem dL_law_323 : decode cL_law 323 = .ok (.aload_n 1, 1) := by decide +kernel
theorem dL_law_324 : decode cL_law 324 = .ok (.aload_n 0, 1) := by decide +kernel
theorem dL_law_325 : decode cL_law 325 = .ok (.iload_n 3, 1) := by decide +kernel
theorem dL_law_326 : decode cL_law 326 = .ok (.iconst 1, 1) := by decide +kernel
theorem dL_law_327 : decode cL_law 327 = .ok (.iadd, 1) := by decide +kernel
theorem dL_law_328 : decode cL_law 328 = .ok (.iaload, 1) := by decide +kernel
theorem dL_law_329 : decode cL_law 329 = .ok (.aload_n 0, 1) := by decide +kernel
theorem dL_law_330 : decode cL_law 330 = .ok (.iload_n 3, 1) := by decide +kernel
theorem dL_law_331 : decode cL_law 331 = .ok (.iconst 2, 1) := by decide +kernel
theorem dL_law_332 : decode cL_law 332 = .ok (.iadd, 1) := by decide +kernel
theorem dL_law_333 : decode cL_law 333 = .ok (.iaload, 1) := by decide +kernel
theorem dL_law_334 : decode cL_law 334 = .ok (.aload_n 0, 1) := by decide +kernel
theorem dL_law_335 : decode cL_law 335 = .ok (.iload_n 3, 1) := by decide +kernel
theorem dL_law_336 : decode cL_law 336 = .ok (.iconst 3, 1) := by decide +kernel
theorem dL_law_337 : decode cL_law 337 = .ok (.iadd, 1) := by decide +kernel
theorem dL_law_338 : decode cL_law 338 = .ok (.iaload, 1) := by decide +kernel
theorem dL_law_339 : decode cL_law 339 = .ok (.aload_n 0, 1) := by decide +kernel
theorem dL_law_340 : decode cL_law 340 = .ok (.iload_n 3, 1) := by decide +kernel
theorem dL_law_341 : decode cL_law 341 = .ok (.iconst 4, 1) := by decide +kernel
theorem dL_law_342 : decode cL_law 342 = .ok (.iadd, 1) := by decide +kernel
theorem dL_law_343 : decode cL_law 343 = .ok (.iaload, 1) := by decide +kernel
theorem dL_law_344 : decode cL_law 344 = .ok (.aload_n 0, 1) := by decide +kernel
theorem dL_law_345 : decode cL_law 345 = .ok (.iload_n 3, 1) := by decide +kernel
theorem dL_law_346 : decode cL_law 346 = .ok (.iconst 5, 1) := by decide +kernel
theorem dL_law_347 : decode cL_law 347 = .ok (.iadd, 1) := by decide +kernel
theorem dL_law_348 : decode cL_law 348 = .ok (.iaload, 1) := by decide +kernel
theorem dL_law_349 : decode cL_law 349 = .ok (.invokevirtual 37, 3) := by decide +kernel
theorem dL_law_352 : decode cL_law 352 = .ok (.aload_n 2, 1) := by decide +kernel
theorem dL_law_353 : decode cL_law 353 = .ok (.aload_n 0, 1) := by decide +kernel
theorem dL_law_354 : decode cL_law 354 = .ok (.iload_n 3, 1) := by decide +kernel
theorem dL_law_355 : decode cL_law 355 = .ok (.iconst 1, 1) := by decide +kernel
theorem dL_law_356 : decode cL_law 356 = .ok (.iadd, 1) := by decide +kernel
theorem dL_law_357 : decode cL_law 357 = .ok (.iaload, 1) := by decide +kernel
theorem dL_law_358 : decode cL_law 358 = .ok (.aload_n 0, 1) := by decide +kernel
theorem dL_law_359 : decode cL_law 359 = .ok (.iload_n 3, 1) := by decide +kernel
theorem dL_law_360 : decode cL_law 360 = .ok (.iconst 2, 1) := by decide +kernel
theorem dL_law_361 : decode cL_law 361 = .ok (.iadd, 1) := by decide +kernel
theorem dL_law_362 : decode cL_law 362 = .ok (.iaload, 1) := by decide +kernel
theorem dL_law_363 : decode cL_law 363 = .ok (.aload_n 0, 1) := by decide +kernel
theorem dL_law_364 : decode cL_law 364 = .ok (.iload_n 3, 1) := by decide +kernel
theorem dL_law_365 : decode cL_law 365 = .ok (.iconst 3, 1) := by decide +kernel
theorem dL_law_366 : decode cL_law 366 = .ok (.iadd, 1) := by decide +kernel
theorem dL_law_367 : decode cL_law 367 = .ok (.iaload, 1) := by decide +kernel
theorem dL_law_368 : decode cL_law 368 = .ok (.aload_n 0, 1) := by decide +kernel
theorem dL_law_369 : decode cL_law 369 = .ok (.iload_n 3, 1) := by decide +kernel
theorem dL_law_370 : decode cL_law 370 = .ok (.iconst 4, 1) := by decide +kernel
theorem dL_law_371 : decode cL_law 371 = .ok (.iadd, 1) := by decide +kernel
theorem dL_law_372 : decode cL_law 372 = .ok (.iaload, 1) := by decide +kernel
theorem dL_law_373 : decode cL_law 373 = .ok (.aload_n 0, 1) := by decide +kernel
theorem dL_law_374 : decode cL_law 374 = .ok (.iload_n 3, 1) := by decide +kernel
theorem dL_law_375 : decode cL_law 375 = .ok (.iconst 5, 1) := by decide +kernel
theorem dL_law_376 : decode cL_law 376 = .ok (.iadd, 1) := by decide +kernel
theorem dL_law_377 : decode cL_law 377 = .ok (.iaload, 1) := by decide +kernel
theorem dL_law_378 : decode cL_law 378 = .ok (.invokevirtual 41, 3) := by decide +kernel
theorem dL_law_381 : decode cL_law 381 = .ok (.if_icmp .eq 767, 3) := by decide +kernel
set_option maxRecDepth 20000 in
set_option maxHeartbeats 4000000 in
theorem law_case_5 {E : xE} {p : Program} {l : Launch} {e : Env} {s : State} {m : MethodId} {below : List Frame} {meth : Method} {c : Code} {b : Nat} {xs : Nat → Int32} {x mm : Nat} {wx wm : va_W} (hS : LC E p s m meth c b 6 xs) (hx : FX E x wx) (hm : FM E mm wm) : LX E p l e s m below meth c b (wm ++ wx) 323 [(3, .int 0), (2, .ref mm), (1, .ref x), (0, .ref b)] [] := by
  have C := hS.1
  obtain ⟨gx, rx⟩ := hx.recv
  obtain ⟨gm, rm⟩ := hm.recv
  refine x_aload_n C dL_law_323 rfl 2 rfl rfl ?_
  refine x_aload_n C dL_law_324 rfl 3 rfl rfl ?_
  refine x_iload_n C dL_law_325 rfl 0 rfl rfl ?_
  refine x_iconst C (v := 1) dL_law_326 (by decide) rfl ?_
  refine x_iadd C (v := 1) dL_law_327 (by decide) rfl ?_
  refine x_sld C hS.2.1 hS.2.2.1 hS.2.2.2.1 1 (by decide) (by decide) (by decide) dL_law_328 rfl ?_
  refine x_aload_n C dL_law_329 rfl 3 rfl rfl ?_
  refine x_iload_n C dL_law_330 rfl 0 rfl rfl ?_
  refine x_iconst C (v := 2) dL_law_331 (by decide) rfl ?_
  refine x_iadd C (v := 2) dL_law_332 (by decide) rfl ?_
  refine x_sld C hS.2.1 hS.2.2.1 hS.2.2.2.1 2 (by decide) (by decide) (by decide) dL_law_333 rfl ?_
  refine x_aload_n C dL_law_334 rfl 3 rfl rfl ?_
  refine x_iload_n C dL_law_335 rfl 0 rfl rfl ?_
  refine x_iconst C (v := 3) dL_law_336 (by decide) rfl ?_
  refine x_iadd C (v := 3) dL_law_337 (by decide) rfl ?_
  refine x_sld C hS.2.1 hS.2.2.1 hS.2.2.2.1 3 (by decide) (by decide) (by decide) dL_law_338 rfl ?_
  refine x_aload_n C dL_law_339 rfl 3 rfl rfl ?_
  refine x_iload_n C dL_law_340 rfl 0 rfl rfl ?_
  refine x_iconst C (v := 4) dL_law_341 (by decide) rfl ?_
  refine x_iadd C (v := 4) dL_law_342 (by decide) rfl ?_
  refine x_sld C hS.2.1 hS.2.2.1 hS.2.2.2.1 4 (by decide) (by decide) (by decide) dL_law_343 rfl ?_
  refine x_aload_n C dL_law_344 rfl 3 rfl rfl ?_
  refine x_iload_n C dL_law_345 rfl 0 rfl rfl ?_
  refine x_iconst C (v := 5) dL_law_346 (by decide) rfl ?_
  refine x_iadd C (v := 5) dL_law_347 (by decide) rfl ?_
  refine x_sld C hS.2.1 hS.2.2.1 hS.2.2.2.1 5 (by decide) (by decide) (by decide) dL_law_348 rfl ?_
  refine x_vf C (As := [.int (xs 1), .int (xs 2), .int (xs 3), .int (xs 4), .int (xs 5)]) (rest := []) (W0 := wm) (wc := wx) (ft_feed E l hx (xs 1) (xs 2) (xs 3) (xs 4) (xs 5)) mf_X11_feed w_495 rfl 0 rx rfl rfl rfl (Nat.le_of_ble_eq_true rfl) ⟨(Nat.le_of_ble_eq_true rfl), (Nat.le_of_ble_eq_true rfl)⟩ ⟨(Nat.le_of_ble_eq_true rfl), (Nat.le_of_ble_eq_true rfl)⟩ dL_law_349 rfl (fun r1 w2 h3 => ?_)
  refine x_aload_n C dL_law_352 rfl 1 rfl rfl ?_
  refine x_aload_n C dL_law_353 rfl 3 rfl rfl ?_
  refine x_iload_n C dL_law_354 rfl 0 rfl rfl ?_
  refine x_iconst C (v := 1) dL_law_355 (by decide) rfl ?_
  refine x_iadd C (v := 1) dL_law_356 (by decide) rfl ?_
  refine x_sld C hS.2.1 hS.2.2.1 hS.2.2.2.1 1 (by decide) (by decide) (by decide) dL_law_357 rfl ?_
  refine x_aload_n C dL_law_358 rfl 3 rfl rfl ?_
  refine x_iload_n C dL_law_359 rfl 0 rfl rfl ?_
  refine x_iconst C (v := 2) dL_law_360 (by decide) rfl ?_
  refine x_iadd C (v := 2) dL_law_361 (by decide) rfl ?_
  refine x_sld C hS.2.1 hS.2.2.1 hS.2.2.2.1 2 (by decide) (by decide) (by decide) dL_law_362 rfl ?_
  refine x_aload_n C dL_law_363 rfl 3 rfl rfl ?_
  refine x_iload_n C dL_law_364 rfl 0 rfl rfl ?_
  refine x_iconst C (v := 3) dL_law_365 (by decide) rfl ?_
  refine x_iadd C (v := 3) dL_law_366 (by decide) rfl ?_
  refine x_sld C hS.2.1 hS.2.2.1 hS.2.2.2.1 3 (by decide) (by decide) (by decide) dL_law_367 rfl ?_
  refine x_aload_n C dL_law_368 rfl 3 rfl rfl ?_
  refine x_iload_n C dL_law_369 rfl 0 rfl rfl ?_
  refine x_iconst C (v := 4) dL_law_370 (by decide) rfl ?_
  refine x_iadd C (v := 4) dL_law_371 (by decide) rfl ?_
  refine x_sld C hS.2.1 hS.2.2.1 hS.2.2.2.1 4 (by decide) (by decide) (by decide) dL_law_372 rfl ?_
  refine x_aload_n C dL_law_373 rfl 3 rfl rfl ?_
  refine x_iload_n C dL_law_374 rfl 0 rfl rfl ?_
  refine x_iconst C (v := 5) dL_law_375 (by decide) rfl ?_
  refine x_iadd C (v := 5) dL_law_376 (by decide) rfl ?_
  refine x_sld C hS.2.1 hS.2.2.1 hS.2.2.2.1 5 (by decide) (by decide) (by decide) dL_law_377 rfl ?_
  refine x_vi C (As := [.int (xs 1), .int (xs 2), .int (xs 3), .int (xs 4), .int (xs 5)]) (rest := [.int r1]) (fe_feed E l hm (xs 1) (xs 2) (xs 3) (xs 4) (xs 5)) mf_X12_feed w_1301 0 rm rfl rfl rfl (Nat.le_of_ble_eq_true rfl) ⟨(Nat.le_of_ble_eq_true rfl), (Nat.le_of_ble_eq_true rfl)⟩ ⟨(Nat.le_of_ble_eq_true rfl), (Nat.le_of_ble_eq_true rfl)⟩ dL_law_378 rfl (fun r4 w5 h6 => ?_)
  refine x_icmp_eq C (tgt := 1148) dL_law_381 (by decide) rfl (fun _ => ?_) (fun h => absurd (h3.trans h6.symm) h)
  exact law_back hS _
theorem dL_law_386 : decode cL_law 386 = .ok (.aload_n 1, 1) := by decide +kernel
theorem dL_law_387 : decode cL_law 387 = .ok (.aload_n 0, 1) := by decide +kernel
theorem dL_law_388 : decode cL_law 388 = .ok (.iload_n 3, 1) := by decide +kernel
theorem dL_law_389 : decode cL_law 389 = .ok (.iconst 1, 1) := by decide +kernel
theorem dL_law_390 : decode cL_law 390 = .ok (.iadd, 1) := by decide +kernel
theorem dL_law_391 : decode cL_law 391 = .ok (.iaload, 1) := by decide +kernel
theorem dL_law_392 : decode cL_law 392 = .ok (.invokevirtual 42, 3) := by decide +kernel
theorem dL_law_395 : decode cL_law 395 = .ok (.aload_n 2, 1) := by decide +kernel
theorem dL_law_396 : decode cL_law 396 = .ok (.aload_n 0, 1) := by decide +kernel
theorem dL_law_397 : decode cL_law 397 = .ok (.iload_n 3, 1) := by decide +kernel
theorem dL_law_398 : decode cL_law 398 = .ok (.iconst 1, 1) := by decide +kernel
theorem dL_law_399 : decode cL_law 399 = .ok (.iadd, 1) := by decide +kernel
theorem dL_law_400 : decode cL_law 400 = .ok (.iaload, 1) := by decide +kernel
theorem dL_law_401 : decode cL_law 401 = .ok (.invokevirtual 46, 3) := by decide +kernel
theorem dL_law_404 : decode cL_law 404 = .ok (.if_icmp .eq 744, 3) := by decide +kernel
set_option maxRecDepth 20000 in
set_option maxHeartbeats 4000000 in
theorem law_case_6 {E : xE} {p : Program} {l : Launch} {e : Env} {s : State} {m : MethodId} {below : List Frame} {meth : Method} {c : Code} {b : Nat} {xs : Nat → Int32} {x mm : Nat} {wx wm : va_W} (hS : LC E p s m meth c b 6 xs) (hx : FX E x wx) (hm : FM E mm wm) : LX E p l e s m below meth c b (wm ++ wx) 386 [(3, .int 0), (2, .ref mm), (1, .ref x), (0, .ref b)] [] := by
  have C := hS.1
  obtain ⟨gx, rx⟩ := hx.recv
  obtain ⟨gm, rm⟩ := hm.recv
  refine x_aload_n C dL_law_386 rfl 2 rfl rfl ?_
  refine x_aload_n C dL_law_387 rfl 3 rfl rfl ?_
  refine x_iload_n C dL_law_388 rfl 0 rfl rfl ?_
  refine x_iconst C (v := 1) dL_law_389 (by decide) rfl ?_
  refine x_iadd C (v := 1) dL_law_390 (by decide) rfl ?_
  refine x_sld C hS.2.1 hS.2.2.1 hS.2.2.2.1 1 (by decide) (by decide) (by decide) dL_law_391 rfl ?_
  refine x_vf C (As := [.int (xs 1)]) (rest := []) (W0 := wm) (wc := wx) (ft_law E l hx (xs 1)) mf_X11_law w_503 rfl 0 rx rfl rfl rfl (Nat.le_of_ble_eq_true rfl) ⟨(Nat.le_of_ble_eq_true rfl), (Nat.le_of_ble_eq_true rfl)⟩ ⟨(Nat.le_of_ble_eq_true rfl), (Nat.le_of_ble_eq_true rfl)⟩ dL_law_392 rfl (fun r1 w2 h3 => ?_)
  refine x_aload_n C dL_law_395 rfl 1 rfl rfl ?_
  refine x_aload_n C dL_law_396 rfl 3 rfl rfl ?_
  refine x_iload_n C dL_law_397 rfl 0 rfl rfl ?_
  refine x_iconst C (v := 1) dL_law_398 (by decide) rfl ?_
  refine x_iadd C (v := 1) dL_law_399 (by decide) rfl ?_
  refine x_sld C hS.2.1 hS.2.2.1 hS.2.2.2.1 1 (by decide) (by decide) (by decide) dL_law_400 rfl ?_
  refine x_vi C (As := [.int (xs 1)]) (rest := [.int r1]) (fe_law E l hm (xs 1)) mf_X12_law w_1309 0 rm rfl rfl rfl (Nat.le_of_ble_eq_true rfl) ⟨(Nat.le_of_ble_eq_true rfl), (Nat.le_of_ble_eq_true rfl)⟩ ⟨(Nat.le_of_ble_eq_true rfl), (Nat.le_of_ble_eq_true rfl)⟩ dL_law_401 rfl (fun r4 w5 h6 => ?_)
  refine x_icmp_eq C (tgt := 1148) dL_law_404 (by decide) rfl (fun _ => ?_) (fun h => absurd (h3.trans h6.symm) h)
  exact law_back hS _
theorem dL_law_409 : decode cL_law 409 = .ok (.aload_n 1, 1) := by decide +kernel
theorem dL_law_410 : decode cL_law 410 = .ok (.aload_n 0, 1) := by decide +kernel
theorem dL_law_411 : decode cL_law 411 = .ok (.iload_n 3, 1) := by decide +kernel
theorem dL_law_412 : decode cL_law 412 = .ok (.iconst 1, 1) := by decide +kernel
theorem dL_law_413 : decode cL_law 413 = .ok (.iadd, 1) := by decide +kernel
theorem dL_law_414 : decode cL_law 414 = .ok (.iaload, 1) := by decide +kernel
theorem dL_law_415 : decode cL_law 415 = .ok (.invokevirtual 47, 3) := by decide +kernel
theorem dL_law_418 : decode cL_law 418 = .ok (.aload_n 2, 1) := by decide +kernel
theorem dL_law_419 : decode cL_law 419 = .ok (.aload_n 0, 1) := by decide +kernel
theorem dL_law_420 : decode cL_law 420 = .ok (.iload_n 3, 1) := by decide +kernel
theorem dL_law_421 : decode cL_law 421 = .ok (.iconst 1, 1) := by decide +kernel
theorem dL_law_422 : decode cL_law 422 = .ok (.iadd, 1) := by decide +kernel
theorem dL_law_423 : decode cL_law 423 = .ok (.iaload, 1) := by decide +kernel
theorem dL_law_424 : decode cL_law 424 = .ok (.invokevirtual 50, 3) := by decide +kernel
theorem dL_law_427 : decode cL_law 427 = .ok (.if_icmp .eq 721, 3) := by decide +kernel
set_option maxRecDepth 20000 in
set_option maxHeartbeats 4000000 in
theorem law_case_7 {E : xE} {p : Program} {l : Launch} {e : Env} {s : State} {m : MethodId} {below : List Frame} {meth : Method} {c : Code} {b : Nat} {xs : Nat → Int32} {x mm : Nat} {wx wm : va_W} (hS : LC E p s m meth c b 6 xs) (hx : FX E x wx) (hm : FM E mm wm) : LX E p l e s m below meth c b (wm ++ wx) 409 [(3, .int 0), (2, .ref mm), (1, .ref x), (0, .ref b)] [] := by
  have C := hS.1
  obtain ⟨gx, rx⟩ := hx.recv
  obtain ⟨gm, rm⟩ := hm.recv
  refine x_aload_n C dL_law_409 rfl 2 rfl rfl ?_
  refine x_aload_n C dL_law_410 rfl 3 rfl rfl ?_
  refine x_iload_n C dL_law_411 rfl 0 rfl rfl ?_
  refine x_iconst C (v := 1) dL_law_412 (by decide) rfl ?_
  refine x_iadd C (v := 1) dL_law_413 (by decide) rfl ?_
  refine x_sld C hS.2.1 hS.2.2.1 hS.2.2.2.1 1 (by decide) (by decide) (by decide) dL_law_414 rfl ?_
  refine x_vf C (As := [.int (xs 1)]) (rest := []) (W0 := wm) (wc := wx) (ft_acts E l hx (xs 1)) mf_X11_acts w_660 rfl 0 rx rfl rfl rfl (Nat.le_of_ble_eq_true rfl) ⟨(Nat.le_of_ble_eq_true rfl), (Nat.le_of_ble_eq_true rfl)⟩ ⟨(Nat.le_of_ble_eq_true rfl), (Nat.le_of_ble_eq_true rfl)⟩ dL_law_415 rfl (fun r1 w2 h3 => ?_)
  refine x_aload_n C dL_law_418 rfl 1 rfl rfl ?_
  refine x_aload_n C dL_law_419 rfl 3 rfl rfl ?_
  refine x_iload_n C dL_law_420 rfl 0 rfl rfl ?_
  refine x_iconst C (v := 1) dL_law_421 (by decide) rfl ?_
  refine x_iadd C (v := 1) dL_law_422 (by decide) rfl ?_
  refine x_sld C hS.2.1 hS.2.2.1 hS.2.2.2.1 1 (by decide) (by decide) (by decide) dL_law_423 rfl ?_
  refine x_vi C (As := [.int (xs 1)]) (rest := [.int r1]) (fe_acts E l hm (xs 1)) mf_X12_acts w_1395 0 rm rfl rfl rfl (Nat.le_of_ble_eq_true rfl) ⟨(Nat.le_of_ble_eq_true rfl), (Nat.le_of_ble_eq_true rfl)⟩ ⟨(Nat.le_of_ble_eq_true rfl), (Nat.le_of_ble_eq_true rfl)⟩ dL_law_424 rfl (fun r4 w5 h6 => ?_)
  refine x_icmp_eq C (tgt := 1148) dL_law_427 (by decide) rfl (fun _ => ?_) (fun h => absurd (h3.trans h6.symm) h)
  exact law_back hS _
theorem dL_law_432 : decode cL_law 432 = .ok (.aload_n 1, 1) := by decide +kernel
theorem dL_law_433 : decode cL_law 433 = .ok (.aload_n 0, 1) := by decide +kernel
theorem dL_law_434 : decode cL_law 434 = .ok (.iload_n 3, 1) := by decide +kernel
theorem dL_law_435 : decode cL_law 435 = .ok (.iconst 1, 1) := by decide +kernel
theorem dL_law_436 : decode cL_law 436 = .ok (.iadd, 1) := by decide +kernel
theorem dL_law_437 : decode cL_law 437 = .ok (.iaload, 1) := by decide +kernel
theorem dL_law_438 : decode cL_law 438 = .ok (.invokevirtual 51, 3) := by decide +kernel
theorem dL_law_441 : decode cL_law 441 = .ok (.aload_n 2, 1) := by decide +kernel
theorem dL_law_442 : decode cL_law 442 = .ok (.aload_n 0, 1) := by decide +kernel
theorem dL_law_443 : decode cL_law 443 = .ok (.iload_n 3, 1) := by decide +kernel
theorem dL_law_444 : decode cL_law 444 = .ok (.iconst 1, 1) := by decide +kernel
theorem dL_law_445 : decode cL_law 445 = .ok (.iadd, 1) := by decide +kernel
theorem dL_law_446 : decode cL_law 446 = .ok (.iaload, 1) := by decide +kernel
theorem dL_law_447 : decode cL_law 447 = .ok (.invokevirtual 54, 3) := by decide +kernel
theorem dL_law_450 : decode cL_law 450 = .ok (.if_icmp .eq 698, 3) := by decide +kernel
set_option maxRecDepth 20000 in
set_option maxHeartbeats 4000000 in
theorem law_case_8 {E : xE} {p : Program} {l : Launch} {e : Env} {s : State} {m : MethodId} {below : List Frame} {meth : Method} {c : Code} {b : Nat} {xs : Nat → Int32} {x mm : Nat} {wx wm : va_W} (hS : LC E p s m meth c b 6 xs) (hx : FX E x wx) (hm : FM E mm wm) : LX E p l e s m below meth c b (wm ++ wx) 432 [(3, .int 0), (2, .ref mm), (1, .ref x), (0, .ref b)] [] := by
  have C := hS.1
  obtain ⟨gx, rx⟩ := hx.recv
  obtain ⟨gm, rm⟩ := hm.recv
  refine x_aload_n C dL_law_432 rfl 2 rfl rfl ?_
  refine x_aload_n C dL_law_433 rfl 3 rfl rfl ?_
  refine x_iload_n C dL_law_434 rfl 0 rfl rfl ?_
  refine x_iconst C (v := 1) dL_law_435 (by decide) rfl ?_
  refine x_iadd C (v := 1) dL_law_436 (by decide) rfl ?_
  refine x_sld C hS.2.1 hS.2.2.1 hS.2.2.2.1 1 (by decide) (by decide) (by decide) dL_law_437 rfl ?_
  refine x_vf C (As := [.int (xs 1)]) (rest := []) (W0 := wm) (wc := wx) (ft_judged E l hx (xs 1)) mf_X11_judged w_784 rfl 0 rx rfl rfl rfl (Nat.le_of_ble_eq_true rfl) ⟨(Nat.le_of_ble_eq_true rfl), (Nat.le_of_ble_eq_true rfl)⟩ ⟨(Nat.le_of_ble_eq_true rfl), (Nat.le_of_ble_eq_true rfl)⟩ dL_law_438 rfl (fun r1 w2 h3 => ?_)
  refine x_aload_n C dL_law_441 rfl 1 rfl rfl ?_
  refine x_aload_n C dL_law_442 rfl 3 rfl rfl ?_
  refine x_iload_n C dL_law_443 rfl 0 rfl rfl ?_
  refine x_iconst C (v := 1) dL_law_444 (by decide) rfl ?_
  refine x_iadd C (v := 1) dL_law_445 (by decide) rfl ?_
  refine x_sld C hS.2.1 hS.2.2.1 hS.2.2.2.1 1 (by decide) (by decide) (by decide) dL_law_446 rfl ?_
  refine x_vi C (As := [.int (xs 1)]) (rest := [.int r1]) (fe_judged E l hm (xs 1)) mf_X12_judged w_1486 0 rm rfl rfl rfl (Nat.le_of_ble_eq_true rfl) ⟨(Nat.le_of_ble_eq_true rfl), (Nat.le_of_ble_eq_true rfl)⟩ ⟨(Nat.le_of_ble_eq_true rfl), (Nat.le_of_ble_eq_true rfl)⟩ dL_law_447 rfl (fun r4 w5 h6 => ?_)
  refine x_icmp_eq C (tgt := 1148) dL_law_450 (by decide) rfl (fun _ => ?_) (fun h => absurd (h3.trans h6.symm) h)
  exact law_back hS _
theorem dL_law_455 : decode cL_law 455 = .ok (.aload_n 1, 1) := by decide +kernel
theorem dL_law_456 : decode cL_law 456 = .ok (.aload_n 0, 1) := by decide +kernel
theorem dL_law_457 : decode cL_law 457 = .ok (.iload_n 3, 1) := by decide +kernel
theorem dL_law_458 : decode cL_law 458 = .ok (.iconst 1, 1) := by decide +kernel
theorem dL_law_459 : decode cL_law 459 = .ok (.iadd, 1) := by decide +kernel
theorem dL_law_460 : decode cL_law 460 = .ok (.iaload, 1) := by decide +kernel
theorem dL_law_461 : decode cL_law 461 = .ok (.invokevirtual 55, 3) := by decide +kernel
theorem dL_law_464 : decode cL_law 464 = .ok (.aload_n 2, 1) := by decide +kernel
theorem dL_law_465 : decode cL_law 465 = .ok (.aload_n 0, 1) := by decide +kernel
theorem dL_law_466 : decode cL_law 466 = .ok (.iload_n 3, 1) := by decide +kernel
theorem dL_law_467 : decode cL_law 467 = .ok (.iconst 1, 1) := by decide +kernel
theorem dL_law_468 : decode cL_law 468 = .ok (.iadd, 1) := by decide +kernel
theorem dL_law_469 : decode cL_law 469 = .ok (.iaload, 1) := by decide +kernel
theorem dL_law_470 : decode cL_law 470 = .ok (.invokevirtual 58, 3) := by decide +kernel
theorem dL_law_473 : decode cL_law 473 = .ok (.if_icmp .eq 675, 3) := by decide +kernel
set_option maxRecDepth 20000 in
set_option maxHeartbeats 4000000 in
theorem law_case_9 {E : xE} {p : Program} {l : Launch} {e : Env} {s : State} {m : MethodId} {below : List Frame} {meth : Method} {c : Code} {b : Nat} {xs : Nat → Int32} {x mm : Nat} {wx wm : va_W} (hS : LC E p s m meth c b 6 xs) (hx : FX E x wx) (hm : FM E mm wm) : LX E p l e s m below meth c b (wm ++ wx) 455 [(3, .int 0), (2, .ref mm), (1, .ref x), (0, .ref b)] [] := by
  have C := hS.1
  obtain ⟨gx, rx⟩ := hx.recv
  obtain ⟨gm, rm⟩ := hm.recv
  refine x_aload_n C dL_law_455 rfl 2 rfl rfl ?_
  refine x_aload_n C dL_law_456 rfl 3 rfl rfl ?_
  refine x_iload_n C dL_law_457 rfl 0 rfl rfl ?_
  refine x_iconst C (v := 1) dL_law_458 (by decide) rfl ?_
  refine x_iadd C (v := 1) dL_law_459 (by decide) rfl ?_
  refine x_sld C hS.2.1 hS.2.2.1 hS.2.2.2.1 1 (by decide) (by decide) (by decide) dL_law_460 rfl ?_
  refine x_vf C (As := [.int (xs 1)]) (rest := []) (W0 := wm) (wc := wx) (ft_days E l hx (xs 1)) mf_X11_days w_814 rfl 0 rx rfl rfl rfl (Nat.le_of_ble_eq_true rfl) ⟨(Nat.le_of_ble_eq_true rfl), (Nat.le_of_ble_eq_true rfl)⟩ ⟨(Nat.le_of_ble_eq_true rfl), (Nat.le_of_ble_eq_true rfl)⟩ dL_law_461 rfl (fun r1 w2 h3 => ?_)
  refine x_aload_n C dL_law_464 rfl 1 rfl rfl ?_
  refine x_aload_n C dL_law_465 rfl 3 rfl rfl ?_
  refine x_iload_n C dL_law_466 rfl 0 rfl rfl ?_
  refine x_iconst C (v := 1) dL_law_467 (by decide) rfl ?_
  refine x_iadd C (v := 1) dL_law_468 (by decide) rfl ?_
  refine x_sld C hS.2.1 hS.2.2.1 hS.2.2.2.1 1 (by decide) (by decide) (by decide) dL_law_469 rfl ?_
  refine x_vi C (As := [.int (xs 1)]) (rest := [.int r1]) (fe_days E l hm (xs 1)) mf_X12_days w_1493 0 rm rfl rfl rfl (Nat.le_of_ble_eq_true rfl) ⟨(Nat.le_of_ble_eq_true rfl), (Nat.le_of_ble_eq_true rfl)⟩ ⟨(Nat.le_of_ble_eq_true rfl), (Nat.le_of_ble_eq_true rfl)⟩ dL_law_470 rfl (fun r4 w5 h6 => ?_)
  refine x_icmp_eq C (tgt := 1148) dL_law_473 (by decide) rfl (fun _ => ?_) (fun h => absurd (h3.trans h6.symm) h)
  exact law_back hS _
theorem dL_law_478 : decode cL_law 478 = .ok (.aload_n 1, 1) := by decide +kernel
theorem dL_law_479 : decode cL_law 479 = .ok (.aload_n 0, 1) := by decide +kernel
theorem dL_law_480 : decode cL_law 480 = .ok (.iload_n 3, 1) := by decide +kernel
theorem dL_law_481 : decode cL_law 481 = .ok (.iconst 1, 1) := by decide +kernel
theorem dL_law_482 : decode cL_law 482 = .ok (.iadd, 1) := by decide +kernel
theorem dL_law_483 : decode cL_law 483 = .ok (.iaload, 1) := by decide +kernel
theorem dL_law_484 : decode cL_law 484 = .ok (.aload_n 0, 1) := by decide +kernel
theorem dL_law_485 : decode cL_law 485 = .ok (.iload_n 3, 1) := by decide +kernel
theorem dL_law_486 : decode cL_law 486 = .ok (.iconst 2, 1) := by decide +kernel
theorem dL_law_487 : decode cL_law 487 = .ok (.iadd, 1) := by decide +kernel
theorem dL_law_488 : decode cL_law 488 = .ok (.iaload, 1) := by decide +kernel
theorem dL_law_489 : decode cL_law 489 = .ok (.invokevirtual 59, 3) := by decide +kernel
theorem dL_law_492 : decode cL_law 492 = .ok (.aload_n 2, 1) := by decide +kernel
theorem dL_law_493 : decode cL_law 493 = .ok (.aload_n 0, 1) := by decide +kernel
theorem dL_law_494 : decode cL_law 494 = .ok (.iload_n 3, 1) := by decide +kernel
theorem dL_law_495 : decode cL_law 495 = .ok (.iconst 1, 1) := by decide +kernel
theorem dL_law_496 : decode cL_law 496 = .ok (.iadd, 1) := by decide +kernel
theorem dL_law_497 : decode cL_law 497 = .ok (.iaload, 1) := by decide +kernel
theorem dL_law_498 : decode cL_law 498 = .ok (.aload_n 0, 1) := by decide +kernel
theorem dL_law_499 : decode cL_law 499 = .ok (.iload_n 3, 1) := by decide +kernel
theorem dL_law_500 : decode cL_law 500 = .ok (.iconst 2, 1) := by decide +kernel
theorem dL_law_501 : decode cL_law 501 = .ok (.iadd, 1) := by decide +kernel
theorem dL_law_502 : decode cL_law 502 = .ok (.iaload, 1) := by decide +kernel
theorem dL_law_503 : decode cL_law 503 = .ok (.invokevirtual 63, 3) := by decide +kernel
theorem dL_law_506 : decode cL_law 506 = .ok (.if_icmp .eq 642, 3) := by decide +kernel
set_option maxRecDepth 20000 in
set_option maxHeartbeats 4000000 in
theorem law_case_10 {E : xE} {p : Program} {l : Launch} {e : Env} {s : State} {m : MethodId} {below : List Frame} {meth : Method} {c : Code} {b : Nat} {xs : Nat → Int32} {x mm : Nat} {wx wm : va_W} (hS : LC E p s m meth c b 6 xs) (hx : FX E x wx) (hm : FM E mm wm) : LX E p l e s m below meth c b (wm ++ wx) 478 [(3, .int 0), (2, .ref mm), (1, .ref x), (0, .ref b)] [] := by
  have C := hS.1
  obtain ⟨gx, rx⟩ := hx.recv
  obtain ⟨gm, rm⟩ := hm.recv
  refine x_aload_n C dL_law_478 rfl 2 rfl rfl ?_
  refine x_aload_n C dL_law_479 rfl 3 rfl rfl ?_
  refine x_iload_n C dL_law_480 rfl 0 rfl rfl ?_
  refine x_iconst C (v := 1) dL_law_481 (by decide) rfl ?_
  refine x_iadd C (v := 1) dL_law_482 (by decide) rfl ?_
  refine x_sld C hS.2.1 hS.2.2.1 hS.2.2.2.1 1 (by decide) (by decide) (by decide) dL_law_483 rfl ?_
  refine x_aload_n C dL_law_484 rfl 3 rfl rfl ?_
  refine x_iload_n C dL_law_485 rfl 0 rfl rfl ?_
  refine x_iconst C (v := 2) dL_law_486 (by decide) rfl ?_
  refine x_iadd C (v := 2) dL_law_487 (by decide) rfl ?_
  refine x_sld C hS.2.1 hS.2.2.1 hS.2.2.2.1 2 (by decide) (by decide) (by decide) dL_law_488 rfl ?_
  refine x_vf C (As := [.int (xs 1), .int (xs 2)]) (rest := []) (W0 := wm) (wc := wx) (ft_tried E l hx (xs 1) (xs 2)) mf_X11_tried w_849 rfl 0 rx rfl rfl rfl (Nat.le_of_ble_eq_true rfl) ⟨(Nat.le_of_ble_eq_true rfl), (Nat.le_of_ble_eq_true rfl)⟩ ⟨(Nat.le_of_ble_eq_true rfl), (Nat.le_of_ble_eq_true rfl)⟩ dL_law_489 rfl (fun r1 w2 h3 => ?_)
  refine x_aload_n C dL_law_492 rfl 1 rfl rfl ?_
  refine x_aload_n C dL_law_493 rfl 3 rfl rfl ?_
  refine x_iload_n C dL_law_494 rfl 0 rfl rfl ?_
  refine x_iconst C (v := 1) dL_law_495 (by decide) rfl ?_
  refine x_iadd C (v := 1) dL_law_496 (by decide) rfl ?_
  refine x_sld C hS.2.1 hS.2.2.1 hS.2.2.2.1 1 (by decide) (by decide) (by decide) dL_law_497 rfl ?_
  refine x_aload_n C dL_law_498 rfl 3 rfl rfl ?_
  refine x_iload_n C dL_law_499 rfl 0 rfl rfl ?_
  refine x_iconst C (v := 2) dL_law_500 (by decide) rfl ?_
  refine x_iadd C (v := 2) dL_law_501 (by decide) rfl ?_
  refine x_sld C hS.2.1 hS.2.2.1 hS.2.2.2.1 2 (by decide) (by decide) (by decide) dL_law_502 rfl ?_
  refine x_vi C (As := [.int (xs 1), .int (xs 2)]) (rest := [.int r1]) (fe_tried E l hm (xs 1) (xs 2)) mf_X12_tried w_1522 0 rm rfl rfl rfl (Nat.le_of_ble_eq_true rfl) ⟨(Nat.le_of_ble_eq_true rfl), (Nat.le_of_ble_eq_true rfl)⟩ ⟨(Nat.le_of_ble_eq_true rfl), (Nat.le_of_ble_eq_true rfl)⟩ dL_law_503 rfl (fun r4 w5 h6 => ?_)
  refine x_icmp_eq C (tgt := 1148) dL_law_506 (by decide) rfl (fun _ => ?_) (fun h => absurd (h3.trans h6.symm) h)
  exact law_back hS _
theorem dL_law_511 : decode cL_law 511 = .ok (.aload_n 1, 1) := by decide +kernel
theorem dL_law_512 : decode cL_law 512 = .ok (.aload_n 0, 1) := by decide +kernel
theorem dL_law_513 : decode cL_law 513 = .ok (.iload_n 3, 1) := by decide +kernel
theorem dL_law_514 : decode cL_law 514 = .ok (.iconst 1, 1) := by decide +kernel
theorem dL_law_515 : decode cL_law 515 = .ok (.iadd, 1) := by decide +kernel
theorem dL_law_516 : decode cL_law 516 = .ok (.iaload, 1) := by decide +kernel
theorem dL_law_517 : decode cL_law 517 = .ok (.aload_n 0, 1) := by decide +kernel
theorem dL_law_518 : decode cL_law 518 = .ok (.iload_n 3, 1) := by decide +kernel
theorem dL_law_519 : decode cL_law 519 = .ok (.iconst 2, 1) := by decide +kernel
theorem dL_law_520 : decode cL_law 520 = .ok (.iadd, 1) := by decide +kernel
theorem dL_law_521 : decode cL_law 521 = .ok (.iaload, 1) := by decide +kernel
theorem dL_law_522 : decode cL_law 522 = .ok (.invokevirtual 64, 3) := by decide +kernel
theorem dL_law_525 : decode cL_law 525 = .ok (.aload_n 2, 1) := by decide +kernel
theorem dL_law_526 : decode cL_law 526 = .ok (.aload_n 0, 1) := by decide +kernel
theorem dL_law_527 : decode cL_law 527 = .ok (.iload_n 3, 1) := by decide +kernel
theorem dL_law_528 : decode cL_law 528 = .ok (.iconst 1, 1) := by decide +kernel
theorem dL_law_529 : decode cL_law 529 = .ok (.iadd, 1) := by decide +kernel
theorem dL_law_530 : decode cL_law 530 = .ok (.iaload, 1) := by decide +kernel
theorem dL_law_531 : decode cL_law 531 = .ok (.aload_n 0, 1) := by decide +kernel
theorem dL_law_532 : decode cL_law 532 = .ok (.iload_n 3, 1) := by decide +kernel
theorem dL_law_533 : decode cL_law 533 = .ok (.iconst 2, 1) := by decide +kernel
theorem dL_law_534 : decode cL_law 534 = .ok (.iadd, 1) := by decide +kernel
theorem dL_law_535 : decode cL_law 535 = .ok (.iaload, 1) := by decide +kernel
theorem dL_law_536 : decode cL_law 536 = .ok (.invokevirtual 67, 3) := by decide +kernel
theorem dL_law_539 : decode cL_law 539 = .ok (.if_icmp .eq 609, 3) := by decide +kernel
set_option maxRecDepth 20000 in
set_option maxHeartbeats 4000000 in
theorem law_case_11 {E : xE} {p : Program} {l : Launch} {e : Env} {s : State} {m : MethodId} {below : List Frame} {meth : Method} {c : Code} {b : Nat} {xs : Nat → Int32} {x mm : Nat} {wx wm : va_W} (hS : LC E p s m meth c b 6 xs) (hx : FX E x wx) (hm : FM E mm wm) : LX E p l e s m below meth c b (wm ++ wx) 511 [(3, .int 0), (2, .ref mm), (1, .ref x), (0, .ref b)] [] := by
  have C := hS.1
  obtain ⟨gx, rx⟩ := hx.recv
  obtain ⟨gm, rm⟩ := hm.recv
  refine x_aload_n C dL_law_511 rfl 2 rfl rfl ?_
  refine x_aload_n C dL_law_512 rfl 3 rfl rfl ?_
  refine x_iload_n C dL_law_513 rfl 0 rfl rfl ?_
  refine x_iconst C (v := 1) dL_law_514 (by decide) rfl ?_
  refine x_iadd C (v := 1) dL_law_515 (by decide) rfl ?_
  refine x_sld C hS.2.1 hS.2.2.1 hS.2.2.2.1 1 (by decide) (by decide) (by decide) dL_law_516 rfl ?_
  refine x_aload_n C dL_law_517 rfl 3 rfl rfl ?_
  refine x_iload_n C dL_law_518 rfl 0 rfl rfl ?_
  refine x_iconst C (v := 2) dL_law_519 (by decide) rfl ?_
  refine x_iadd C (v := 2) dL_law_520 (by decide) rfl ?_
  refine x_sld C hS.2.1 hS.2.2.1 hS.2.2.2.1 2 (by decide) (by decide) (by decide) dL_law_521 rfl ?_
  refine x_vf C (As := [.int (xs 1), .int (xs 2)]) (rest := []) (W0 := wm) (wc := wx) (ft_egg E l hx (xs 1) (xs 2)) mf_X11_egg w_857 rfl 0 rx rfl rfl rfl (Nat.le_of_ble_eq_true rfl) ⟨(Nat.le_of_ble_eq_true rfl), (Nat.le_of_ble_eq_true rfl)⟩ ⟨(Nat.le_of_ble_eq_true rfl), (Nat.le_of_ble_eq_true rfl)⟩ dL_law_522 rfl (fun r1 w2 h3 => ?_)
  refine x_aload_n C dL_law_525 rfl 1 rfl rfl ?_
  refine x_aload_n C dL_law_526 rfl 3 rfl rfl ?_
  refine x_iload_n C dL_law_527 rfl 0 rfl rfl ?_
  refine x_iconst C (v := 1) dL_law_528 (by decide) rfl ?_
  refine x_iadd C (v := 1) dL_law_529 (by decide) rfl ?_
  refine x_sld C hS.2.1 hS.2.2.1 hS.2.2.2.1 1 (by decide) (by decide) (by decide) dL_law_530 rfl ?_
  refine x_aload_n C dL_law_531 rfl 3 rfl rfl ?_
  refine x_iload_n C dL_law_532 rfl 0 rfl rfl ?_
  refine x_iconst C (v := 2) dL_law_533 (by decide) rfl ?_
  refine x_iadd C (v := 2) dL_law_534 (by decide) rfl ?_
  refine x_sld C hS.2.1 hS.2.2.1 hS.2.2.2.1 2 (by decide) (by decide) (by decide) dL_law_535 rfl ?_
  refine x_vi C (As := [.int (xs 1), .int (xs 2)]) (rest := [.int r1]) (fe_egg E l hm (xs 1) (xs 2)) mf_X12_egg w_1530 0 rm rfl rfl rfl (Nat.le_of_ble_eq_true rfl) ⟨(Nat.le_of_ble_eq_true rfl), (Nat.le_of_ble_eq_true rfl)⟩ ⟨(Nat.le_of_ble_eq_true rfl), (Nat.le_of_ble_eq_true rfl)⟩ dL_law_536 rfl (fun r4 w5 h6 => ?_)
  refine x_icmp_eq C (tgt := 1148) dL_law_539 (by decide) rfl (fun _ => ?_) (fun h => absurd (h3.trans h6.symm) h)
  exact law_back hS _
theorem dL_law_544 : decode cL_law 544 = .ok (.aload_n 1, 1) := by decide +kernel
theorem dL_law_545 : decode cL_law 545 = .ok (.aload_n 0, 1) := by decide +kernel
theorem dL_law_546 : decode cL_law 546 = .ok (.iload_n 3, 1) := by decide +kernel
theorem dL_law_547 : decode cL_law 547 = .ok (.iconst 1, 1) := by decide +kernel
theorem dL_law_548 : decode cL_law 548 = .ok (.iadd, 1) := by decide +kernel
theorem dL_law_549 : decode cL_law 549 = .ok (.iaload, 1) := by decide +kernel
theorem dL_law_550 : decode cL_law 550 = .ok (.aload_n 0, 1) := by decide +kernel
theorem dL_law_551 : decode cL_law 551 = .ok (.iload_n 3, 1) := by decide +kernel
theorem dL_law_552 : decode cL_law 552 = .ok (.iconst 2, 1) := by decide +kernel
theorem dL_law_553 : decode cL_law 553 = .ok (.iadd, 1) := by decide +kernel
theorem dL_law_554 : decode cL_law 554 = .ok (.iaload, 1) := by decide +kernel
theorem dL_law_555 : decode cL_law 555 = .ok (.invokevirtual 68, 3) := by decide +kernel
theorem dL_law_558 : decode cL_law 558 = .ok (.aload_n 2, 1) := by decide +kernel
theorem dL_law_559 : decode cL_law 559 = .ok (.aload_n 0, 1) := by decide +kernel
theorem dL_law_560 : decode cL_law 560 = .ok (.iload_n 3, 1) := by decide +kernel
theorem dL_law_561 : decode cL_law 561 = .ok (.iconst 1, 1) := by decide +kernel
theorem dL_law_562 : decode cL_law 562 = .ok (.iadd, 1) := by decide +kernel
theorem dL_law_563 : decode cL_law 563 = .ok (.iaload, 1) := by decide +kernel
theorem dL_law_564 : decode cL_law 564 = .ok (.aload_n 0, 1) := by decide +kernel
theorem dL_law_565 : decode cL_law 565 = .ok (.iload_n 3, 1) := by decide +kernel
theorem dL_law_566 : decode cL_law 566 = .ok (.iconst 2, 1) := by decide +kernel
theorem dL_law_567 : decode cL_law 567 = .ok (.iadd, 1) := by decide +kernel
theorem dL_law_568 : decode cL_law 568 = .ok (.iaload, 1) := by decide +kernel
theorem dL_law_569 : decode cL_law 569 = .ok (.invokevirtual 71, 3) := by decide +kernel
theorem dL_law_572 : decode cL_law 572 = .ok (.if_icmp .eq 576, 3) := by decide +kernel
set_option maxRecDepth 20000 in
set_option maxHeartbeats 4000000 in
theorem law_case_12 {E : xE} {p : Program} {l : Launch} {e : Env} {s : State} {m : MethodId} {below : List Frame} {meth : Method} {c : Code} {b : Nat} {xs : Nat → Int32} {x mm : Nat} {wx wm : va_W} (hS : LC E p s m meth c b 6 xs) (hx : FX E x wx) (hm : FM E mm wm) : LX E p l e s m below meth c b (wm ++ wx) 544 [(3, .int 0), (2, .ref mm), (1, .ref x), (0, .ref b)] [] := by
  have C := hS.1
  obtain ⟨gx, rx⟩ := hx.recv
  obtain ⟨gm, rm⟩ := hm.recv
  refine x_aload_n C dL_law_544 rfl 2 rfl rfl ?_
  refine x_aload_n C dL_law_545 rfl 3 rfl rfl ?_
  refine x_iload_n C dL_law_546 rfl 0 rfl rfl ?_
  refine x_iconst C (v := 1) dL_law_547 (by decide) rfl ?_
  refine x_iadd C (v := 1) dL_law_548 (by decide) rfl ?_
  refine x_sld C hS.2.1 hS.2.2.1 hS.2.2.2.1 1 (by decide) (by decide) (by decide) dL_law_549 rfl ?_
  refine x_aload_n C dL_law_550 rfl 3 rfl rfl ?_
  refine x_iload_n C dL_law_551 rfl 0 rfl rfl ?_
  refine x_iconst C (v := 2) dL_law_552 (by decide) rfl ?_
  refine x_iadd C (v := 2) dL_law_553 (by decide) rfl ?_
  refine x_sld C hS.2.1 hS.2.2.1 hS.2.2.2.1 2 (by decide) (by decide) (by decide) dL_law_554 rfl ?_
  refine x_vf C (As := [.int (xs 1), .int (xs 2)]) (rest := []) (W0 := wm) (wc := wx) (ft_personIs E l hx (xs 1) (xs 2)) mf_X11_personIs w_867 rfl 0 rx rfl rfl rfl (Nat.le_of_ble_eq_true rfl) ⟨(Nat.le_of_ble_eq_true rfl), (Nat.le_of_ble_eq_true rfl)⟩ ⟨(Nat.le_of_ble_eq_true rfl), (Nat.le_of_ble_eq_true rfl)⟩ dL_law_555 rfl (fun r1 w2 h3 => ?_)
  refine x_aload_n C dL_law_558 rfl 1 rfl rfl ?_
  refine x_aload_n C dL_law_559 rfl 3 rfl rfl ?_
  refine x_iload_n C dL_law_560 rfl 0 rfl rfl ?_
  refine x_iconst C (v := 1) dL_law_561 (by decide) rfl ?_
  refine x_iadd C (v := 1) dL_law_562 (by decide) rfl ?_
  refine x_sld C hS.2.1 hS.2.2.1 hS.2.2.2.1 1 (by decide) (by decide) (by decide) dL_law_563 rfl ?_
  refine x_aload_n C dL_law_564 rfl 3 rfl rfl ?_
  refine x_iload_n C dL_law_565 rfl 0 rfl rfl ?_
  refine x_iconst C (v := 2) dL_law_566 (by decide) rfl ?_
  refine x_iadd C (v := 2) dL_law_567 (by decide) rfl ?_
  refine x_sld C hS.2.1 hS.2.2.1 hS.2.2.2.1 2 (by decide) (by decide) (by decide) dL_law_568 rfl ?_
  refine x_vi C (As := [.int (xs 1), .int (xs 2)]) (rest := [.int r1]) (fe_personIs E l hm (xs 1) (xs 2)) mf_X12_personIs w_1539 0 rm rfl rfl rfl (Nat.le_of_ble_eq_true rfl) ⟨(Nat.le_of_ble_eq_true rfl), (Nat.le_of_ble_eq_true rfl)⟩ ⟨(Nat.le_of_ble_eq_true rfl), (Nat.le_of_ble_eq_true rfl)⟩ dL_law_569 rfl (fun r4 w5 h6 => ?_)
  refine x_icmp_eq C (tgt := 1148) dL_law_572 (by decide) rfl (fun _ => ?_) (fun h => absurd (h3.trans h6.symm) h)
  exact law_back hS _
theorem dL_law_577 : decode cL_law 577 = .ok (.aload_n 1, 1) := by decide +kernel
theorem dL_law_578 : decode cL_law 578 = .ok (.aload_n 0, 1) := by decide +kernel
theorem dL_law_579 : decode cL_law 579 = .ok (.iload_n 3, 1) := by decide +kernel
theorem dL_law_580 : decode cL_law 580 = .ok (.iconst 1, 1) := by decide +kernel
theorem dL_law_581 : decode cL_law 581 = .ok (.iadd, 1) := by decide +kernel
theorem dL_law_582 : decode cL_law 582 = .ok (.iaload, 1) := by decide +kernel
theorem dL_law_583 : decode cL_law 583 = .ok (.aload_n 0, 1) := by decide +kernel
theorem dL_law_584 : decode cL_law 584 = .ok (.iload_n 3, 1) := by decide +kernel
theorem dL_law_585 : decode cL_law 585 = .ok (.iconst 2, 1) := by decide +kernel
theorem dL_law_586 : decode cL_law 586 = .ok (.iadd, 1) := by decide +kernel
theorem dL_law_587 : decode cL_law 587 = .ok (.iaload, 1) := by decide +kernel
theorem dL_law_588 : decode cL_law 588 = .ok (.invokevirtual 72, 3) := by decide +kernel
theorem dL_law_591 : decode cL_law 591 = .ok (.aload_n 2, 1) := by decide +kernel
theorem dL_law_592 : decode cL_law 592 = .ok (.aload_n 0, 1) := by decide +kernel
theorem dL_law_593 : decode cL_law 593 = .ok (.iload_n 3, 1) := by decide +kernel
theorem dL_law_594 : decode cL_law 594 = .ok (.iconst 1, 1) := by decide +kernel
theorem dL_law_595 : decode cL_law 595 = .ok (.iadd, 1) := by decide +kernel
theorem dL_law_596 : decode cL_law 596 = .ok (.iaload, 1) := by decide +kernel
theorem dL_law_597 : decode cL_law 597 = .ok (.aload_n 0, 1) := by decide +kernel
theorem dL_law_598 : decode cL_law 598 = .ok (.iload_n 3, 1) := by decide +kernel
theorem dL_law_599 : decode cL_law 599 = .ok (.iconst 2, 1) := by decide +kernel
theorem dL_law_600 : decode cL_law 600 = .ok (.iadd, 1) := by decide +kernel
theorem dL_law_601 : decode cL_law 601 = .ok (.iaload, 1) := by decide +kernel
theorem dL_law_602 : decode cL_law 602 = .ok (.invokevirtual 75, 3) := by decide +kernel
theorem dL_law_605 : decode cL_law 605 = .ok (.if_icmp .eq 543, 3) := by decide +kernel
set_option maxRecDepth 20000 in
set_option maxHeartbeats 4000000 in
theorem law_case_13 {E : xE} {p : Program} {l : Launch} {e : Env} {s : State} {m : MethodId} {below : List Frame} {meth : Method} {c : Code} {b : Nat} {xs : Nat → Int32} {x mm : Nat} {wx wm : va_W} (hS : LC E p s m meth c b 6 xs) (hx : FX E x wx) (hm : FM E mm wm) : LX E p l e s m below meth c b (wm ++ wx) 577 [(3, .int 0), (2, .ref mm), (1, .ref x), (0, .ref b)] [] := by
  have C := hS.1
  obtain ⟨gx, rx⟩ := hx.recv
  obtain ⟨gm, rm⟩ := hm.recv
  refine x_aload_n C dL_law_577 rfl 2 rfl rfl ?_
  refine x_aload_n C dL_law_578 rfl 3 rfl rfl ?_
  refine x_iload_n C dL_law_579 rfl 0 rfl rfl ?_
  refine x_iconst C (v := 1) dL_law_580 (by decide) rfl ?_
  refine x_iadd C (v := 1) dL_law_581 (by decide) rfl ?_
  refine x_sld C hS.2.1 hS.2.2.1 hS.2.2.2.1 1 (by decide) (by decide) (by decide) dL_law_582 rfl ?_
  refine x_aload_n C dL_law_583 rfl 3 rfl rfl ?_
  refine x_iload_n C dL_law_584 rfl 0 rfl rfl ?_
  refine x_iconst C (v := 2) dL_law_585 (by decide) rfl ?_
  refine x_iadd C (v := 2) dL_law_586 (by decide) rfl ?_
  refine x_sld C hS.2.1 hS.2.2.1 hS.2.2.2.1 2 (by decide) (by decide) (by decide) dL_law_587 rfl ?_
  refine x_vf C (As := [.int (xs 1), .int (xs 2)]) (rest := []) (W0 := wm) (wc := wx) (ft_workIs E l hx (xs 1) (xs 2)) mf_X11_workIs w_889 rfl 0 rx rfl rfl rfl (Nat.le_of_ble_eq_true rfl) ⟨(Nat.le_of_ble_eq_true rfl), (Nat.le_of_ble_eq_true rfl)⟩ ⟨(Nat.le_of_ble_eq_true rfl), (Nat.le_of_ble_eq_true rfl)⟩ dL_law_588 rfl (fun r1 w2 h3 => ?_)
  refine x_aload_n C dL_law_591 rfl 1 rfl rfl ?_
  refine x_aload_n C dL_law_592 rfl 3 rfl rfl ?_
  refine x_iload_n C dL_law_593 rfl 0 rfl rfl ?_
  refine x_iconst C (v := 1) dL_law_594 (by decide) rfl ?_
  refine x_iadd C (v := 1) dL_law_595 (by decide) rfl ?_
  refine x_sld C hS.2.1 hS.2.2.1 hS.2.2.2.1 1 (by decide) (by decide) (by decide) dL_law_596 rfl ?_
  refine x_aload_n C dL_law_597 rfl 3 rfl rfl ?_
  refine x_iload_n C dL_law_598 rfl 0 rfl rfl ?_
  refine x_iconst C (v := 2) dL_law_599 (by decide) rfl ?_
  refine x_iadd C (v := 2) dL_law_600 (by decide) rfl ?_
  refine x_sld C hS.2.1 hS.2.2.1 hS.2.2.2.1 2 (by decide) (by decide) (by decide) dL_law_601 rfl ?_
  refine x_vi C (As := [.int (xs 1), .int (xs 2)]) (rest := [.int r1]) (fe_workIs E l hm (xs 1) (xs 2)) mf_X12_workIs w_1551 0 rm rfl rfl rfl (Nat.le_of_ble_eq_true rfl) ⟨(Nat.le_of_ble_eq_true rfl), (Nat.le_of_ble_eq_true rfl)⟩ ⟨(Nat.le_of_ble_eq_true rfl), (Nat.le_of_ble_eq_true rfl)⟩ dL_law_602 rfl (fun r4 w5 h6 => ?_)
  refine x_icmp_eq C (tgt := 1148) dL_law_605 (by decide) rfl (fun _ => ?_) (fun h => absurd (h3.trans h6.symm) h)
  exact law_back hS _
theorem dL_law_610 : decode cL_law 610 = .ok (.aload_n 1, 1) := by decide +kernel
theorem dL_law_611 : decode cL_law 611 = .ok (.aload_n 0, 1) := by decide +kernel
theorem dL_law_612 : decode cL_law 612 = .ok (.iload_n 3, 1) := by decide +kernel
theorem dL_law_613 : decode cL_law 613 = .ok (.iconst 1, 1) := by decide +kernel
theorem dL_law_614 : decode cL_law 614 = .ok (.iadd, 1) := by decide +kernel
theorem dL_law_615 : decode cL_law 615 = .ok (.iaload, 1) := by decide +kernel
theorem dL_law_616 : decode cL_law 616 = .ok (.aload_n 0, 1) := by decide +kernel
theorem dL_law_617 : decode cL_law 617 = .ok (.iload_n 3, 1) := by decide +kernel
theorem dL_law_618 : decode cL_law 618 = .ok (.iconst 2, 1) := by decide +kernel
theorem dL_law_619 : decode cL_law 619 = .ok (.iadd, 1) := by decide +kernel
theorem dL_law_620 : decode cL_law 620 = .ok (.iaload, 1) := by decide +kernel
theorem dL_law_621 : decode cL_law 621 = .ok (.aload_n 0, 1) := by decide +kernel
theorem dL_law_622 : decode cL_law 622 = .ok (.iload_n 3, 1) := by decide +kernel
theorem dL_law_623 : decode cL_law 623 = .ok (.iconst 3, 1) := by decide +kernel
theorem dL_law_624 : decode cL_law 624 = .ok (.iadd, 1) := by decide +kernel
theorem dL_law_625 : decode cL_law 625 = .ok (.iaload, 1) := by decide +kernel
theorem dL_law_626 : decode cL_law 626 = .ok (.invokevirtual 76, 3) := by decide +kernel
theorem dL_law_629 : decode cL_law 629 = .ok (.aload_n 2, 1) := by decide +kernel
theorem dL_law_630 : decode cL_law 630 = .ok (.aload_n 0, 1) := by decide +kernel
theorem dL_law_631 : decode cL_law 631 = .ok (.iload_n 3, 1) := by decide +kernel
theorem dL_law_632 : decode cL_law 632 = .ok (.iconst 1, 1) := by decide +kernel
theorem dL_law_633 : decode cL_law 633 = .ok (.iadd, 1) := by decide +kernel
theorem dL_law_634 : decode cL_law 634 = .ok (.iaload, 1) := by decide +kernel
theorem dL_law_635 : decode cL_law 635 = .ok (.aload_n 0, 1) := by decide +kernel
theorem dL_law_636 : decode cL_law 636 = .ok (.iload_n 3, 1) := by decide +kernel
theorem dL_law_637 : decode cL_law 637 = .ok (.iconst 2, 1) := by decide +kernel
theorem dL_law_638 : decode cL_law 638 = .ok (.iadd, 1) := by decide +kernel
theorem dL_law_639 : decode cL_law 639 = .ok (.iaload, 1) := by decide +kernel
theorem dL_law_640 : decode cL_law 640 = .ok (.aload_n 0, 1) := by decide +kernel
theorem dL_law_641 : decode cL_law 641 = .ok (.iload_n 3, 1) := by decide +kernel
theorem dL_law_642 : decode cL_law 642 = .ok (.iconst 3, 1) := by decide +kernel
theorem dL_law_643 : decode cL_law 643 = .ok (.iadd, 1) := by decide +kernel
theorem dL_law_644 : decode cL_law 644 = .ok (.iaload, 1) := by decide +kernel
theorem dL_law_645 : decode cL_law 645 = .ok (.invokevirtual 80, 3) := by decide +kernel
theorem dL_law_648 : decode cL_law 648 = .ok (.if_icmp .eq 500, 3) := by decide +kernel
set_option maxRecDepth 20000 in
set_option maxHeartbeats 4000000 in
theorem law_case_14 {E : xE} {p : Program} {l : Launch} {e : Env} {s : State} {m : MethodId} {below : List Frame} {meth : Method} {c : Code} {b : Nat} {xs : Nat → Int32} {x mm : Nat} {wx wm : va_W} (hS : LC E p s m meth c b 6 xs) (hx : FX E x wx) (hm : FM E mm wm) : LX E p l e s m below meth c b (wm ++ wx) 610 [(3, .int 0), (2, .ref mm), (1, .ref x), (0, .ref b)] [] := by
  have C := hS.1
  obtain ⟨gx, rx⟩ := hx.recv
  obtain ⟨gm, rm⟩ := hm.recv
  refine x_aload_n C dL_law_610 rfl 2 rfl rfl ?_
  refine x_aload_n C dL_law_611 rfl 3 rfl rfl ?_
  refine x_iload_n C dL_law_612 rfl 0 rfl rfl ?_
  refine x_iconst C (v := 1) dL_law_613 (by decide) rfl ?_
  refine x_iadd C (v := 1) dL_law_614 (by decide) rfl ?_
  refine x_sld C hS.2.1 hS.2.2.1 hS.2.2.2.1 1 (by decide) (by decide) (by decide) dL_law_615 rfl ?_
  refine x_aload_n C dL_law_616 rfl 3 rfl rfl ?_
  refine x_iload_n C dL_law_617 rfl 0 rfl rfl ?_
  refine x_iconst C (v := 2) dL_law_618 (by decide) rfl ?_
  refine x_iadd C (v := 2) dL_law_619 (by decide) rfl ?_
  refine x_sld C hS.2.1 hS.2.2.1 hS.2.2.2.1 2 (by decide) (by decide) (by decide) dL_law_620 rfl ?_
  refine x_aload_n C dL_law_621 rfl 3 rfl rfl ?_
  refine x_iload_n C dL_law_622 rfl 0 rfl rfl ?_
  refine x_iconst C (v := 3) dL_law_623 (by decide) rfl ?_
  refine x_iadd C (v := 3) dL_law_624 (by decide) rfl ?_
  refine x_sld C hS.2.1 hS.2.2.1 hS.2.2.2.1 3 (by decide) (by decide) (by decide) dL_law_625 rfl ?_
  refine x_vf C (As := [.int (xs 1), .int (xs 2), .int (xs 3)]) (rest := []) (W0 := wm) (wc := wx) (ft_plan E l hx (xs 1) (xs 2) (xs 3)) mf_X11_plan w_899 rfl 0 rx rfl rfl rfl (Nat.le_of_ble_eq_true rfl) ⟨(Nat.le_of_ble_eq_true rfl), (Nat.le_of_ble_eq_true rfl)⟩ ⟨(Nat.le_of_ble_eq_true rfl), (Nat.le_of_ble_eq_true rfl)⟩ dL_law_626 rfl (fun r1 w2 h3 => ?_)
  refine x_aload_n C dL_law_629 rfl 1 rfl rfl ?_
  refine x_aload_n C dL_law_630 rfl 3 rfl rfl ?_
  refine x_iload_n C dL_law_631 rfl 0 rfl rfl ?_
  refine x_iconst C (v := 1) dL_law_632 (by decide) rfl ?_
  refine x_iadd C (v := 1) dL_law_633 (by decide) rfl ?_
  refine x_sld C hS.2.1 hS.2.2.1 hS.2.2.2.1 1 (by decide) (by decide) (by decide) dL_law_634 rfl ?_
  refine x_aload_n C dL_law_635 rfl 3 rfl rfl ?_
  refine x_iload_n C dL_law_636 rfl 0 rfl rfl ?_
  refine x_iconst C (v := 2) dL_law_637 (by decide) rfl ?_
  refine x_iadd C (v := 2) dL_law_638 (by decide) rfl ?_
  refine x_sld C hS.2.1 hS.2.2.1 hS.2.2.2.1 2 (by decide) (by decide) (by decide) dL_law_639 rfl ?_
  refine x_aload_n C dL_law_640 rfl 3 rfl rfl ?_
  refine x_iload_n C dL_law_641 rfl 0 rfl rfl ?_
  refine x_iconst C (v := 3) dL_law_642 (by decide) rfl ?_
  refine x_iadd C (v := 3) dL_law_643 (by decide) rfl ?_
  refine x_sld C hS.2.1 hS.2.2.1 hS.2.2.2.1 3 (by decide) (by decide) (by decide) dL_law_644 rfl ?_
  refine x_vi C (As := [.int (xs 1), .int (xs 2), .int (xs 3)]) (rest := [.int r1]) (fe_plan E l hm (xs 1) (xs 2) (xs 3)) mf_X12_plan w_1555 0 rm rfl rfl rfl (Nat.le_of_ble_eq_true rfl) ⟨(Nat.le_of_ble_eq_true rfl), (Nat.le_of_ble_eq_true rfl)⟩ ⟨(Nat.le_of_ble_eq_true rfl), (Nat.le_of_ble_eq_true rfl)⟩ dL_law_645 rfl (fun r4 w5 h6 => ?_)
  refine x_icmp_eq C (tgt := 1148) dL_law_648 (by decide) rfl (fun _ => ?_) (fun h => absurd (h3.trans h6.symm) h)
  exact law_back hS _
theorem dL_law_653 : decode cL_law 653 = .ok (.aload_n 1, 1) := by decide +kernel
theorem dL_law_654 : decode cL_law 654 = .ok (.aload_n 0, 1) := by decide +kernel
theorem dL_law_655 : decode cL_law 655 = .ok (.iload_n 3, 1) := by decide +kernel
theorem dL_law_656 : decode cL_law 656 = .ok (.iconst 1, 1) := by decide +kernel
theorem dL_law_657 : decode cL_law 657 = .ok (.iadd, 1) := by decide +kernel
theorem dL_law_658 : decode cL_law 658 = .ok (.iaload, 1) := by decide +kernel
theorem dL_law_659 : decode cL_law 659 = .ok (.aload_n 0, 1) := by decide +kernel
theorem dL_law_660 : decode cL_law 660 = .ok (.iload_n 3, 1) := by decide +kernel
theorem dL_law_661 : decode cL_law 661 = .ok (.iconst 2, 1) := by decide +kernel
theorem dL_law_662 : decode cL_law 662 = .ok (.iadd, 1) := by decide +kernel
theorem dL_law_663 : decode cL_law 663 = .ok (.iaload, 1) := by decide +kernel
theorem dL_law_664 : decode cL_law 664 = .ok (.aload_n 0, 1) := by decide +kernel
theorem dL_law_665 : decode cL_law 665 = .ok (.iload_n 3, 1) := by decide +kernel
theorem dL_law_666 : decode cL_law 666 = .ok (.iconst 3, 1) := by decide +kernel
theorem dL_law_667 : decode cL_law 667 = .ok (.iadd, 1) := by decide +kernel
theorem dL_law_668 : decode cL_law 668 = .ok (.iaload, 1) := by decide +kernel
theorem dL_law_669 : decode cL_law 669 = .ok (.invokevirtual 81, 3) := by decide +kernel
theorem dL_law_672 : decode cL_law 672 = .ok (.aload_n 2, 1) := by decide +kernel
theorem dL_law_673 : decode cL_law 673 = .ok (.aload_n 0, 1) := by decide +kernel
theorem dL_law_674 : decode cL_law 674 = .ok (.iload_n 3, 1) := by decide +kernel
theorem dL_law_675 : decode cL_law 675 = .ok (.iconst 1, 1) := by decide +kernel
theorem dL_law_676 : decode cL_law 676 = .ok (.iadd, 1) := by decide +kernel
theorem dL_law_677 : decode cL_law 677 = .ok (.iaload, 1) := by decide +kernel
theorem dL_law_678 : decode cL_law 678 = .ok (.aload_n 0, 1) := by decide +kernel
theorem dL_law_679 : decode cL_law 679 = .ok (.iload_n 3, 1) := by decide +kernel
theorem dL_law_680 : decode cL_law 680 = .ok (.iconst 2, 1) := by decide +kernel
theorem dL_law_681 : decode cL_law 681 = .ok (.iadd, 1) := by decide +kernel
theorem dL_law_682 : decode cL_law 682 = .ok (.iaload, 1) := by decide +kernel
theorem dL_law_683 : decode cL_law 683 = .ok (.aload_n 0, 1) := by decide +kernel
theorem dL_law_684 : decode cL_law 684 = .ok (.iload_n 3, 1) := by decide +kernel
theorem dL_law_685 : decode cL_law 685 = .ok (.iconst 3, 1) := by decide +kernel
theorem dL_law_686 : decode cL_law 686 = .ok (.iadd, 1) := by decide +kernel
theorem dL_law_687 : decode cL_law 687 = .ok (.iaload, 1) := by decide +kernel
theorem dL_law_688 : decode cL_law 688 = .ok (.invokevirtual 84, 3) := by decide +kernel
theorem dL_law_691 : decode cL_law 691 = .ok (.if_icmp .eq 457, 3) := by decide +kernel
set_option maxRecDepth 20000 in
set_option maxHeartbeats 4000000 in
theorem law_case_15 {E : xE} {p : Program} {l : Launch} {e : Env} {s : State} {m : MethodId} {below : List Frame} {meth : Method} {c : Code} {b : Nat} {xs : Nat → Int32} {x mm : Nat} {wx wm : va_W} (hS : LC E p s m meth c b 6 xs) (hx : FX E x wx) (hm : FM E mm wm) : LX E p l e s m below meth c b (wm ++ wx) 653 [(3, .int 0), (2, .ref mm), (1, .ref x), (0, .ref b)] [] := by
  have C := hS.1
  obtain ⟨gx, rx⟩ := hx.recv
  obtain ⟨gm, rm⟩ := hm.recv
  refine x_aload_n C dL_law_653 rfl 2 rfl rfl ?_
  refine x_aload_n C dL_law_654 rfl 3 rfl rfl ?_
  refine x_iload_n C dL_law_655 rfl 0 rfl rfl ?_
  refine x_iconst C (v := 1) dL_law_656 (by decide) rfl ?_
  refine x_iadd C (v := 1) dL_law_657 (by decide) rfl ?_
  refine x_sld C hS.2.1 hS.2.2.1 hS.2.2.2.1 1 (by decide) (by decide) (by decide) dL_law_658 rfl ?_
  refine x_aload_n C dL_law_659 rfl 3 rfl rfl ?_
  refine x_iload_n C dL_law_660 rfl 0 rfl rfl ?_
  refine x_iconst C (v := 2) dL_law_661 (by decide) rfl ?_
  refine x_iadd C (v := 2) dL_law_662 (by decide) rfl ?_
  refine x_sld C hS.2.1 hS.2.2.1 hS.2.2.2.1 2 (by decide) (by decide) (by decide) dL_law_663 rfl ?_
  refine x_aload_n C dL_law_664 rfl 3 rfl rfl ?_
  refine x_iload_n C dL_law_665 rfl 0 rfl rfl ?_
  refine x_iconst C (v := 3) dL_law_666 (by decide) rfl ?_
  refine x_iadd C (v := 3) dL_law_667 (by decide) rfl ?_
  refine x_sld C hS.2.1 hS.2.2.1 hS.2.2.2.1 3 (by decide) (by decide) (by decide) dL_law_668 rfl ?_
  refine x_vf C (As := [.int (xs 1), .int (xs 2), .int (xs 3)]) (rest := []) (W0 := wm) (wc := wx) (ft_before E l hx (xs 1) (xs 2) (xs 3)) mf_X11_before w_954 rfl 0 rx rfl rfl rfl (Nat.le_of_ble_eq_true rfl) ⟨(Nat.le_of_ble_eq_true rfl), (Nat.le_of_ble_eq_true rfl)⟩ ⟨(Nat.le_of_ble_eq_true rfl), (Nat.le_of_ble_eq_true rfl)⟩ dL_law_669 rfl (fun r1 w2 h3 => ?_)
  refine x_aload_n C dL_law_672 rfl 1 rfl rfl ?_
  refine x_aload_n C dL_law_673 rfl 3 rfl rfl ?_
  refine x_iload_n C dL_law_674 rfl 0 rfl rfl ?_
  refine x_iconst C (v := 1) dL_law_675 (by decide) rfl ?_
  refine x_iadd C (v := 1) dL_law_676 (by decide) rfl ?_
  refine x_sld C hS.2.1 hS.2.2.1 hS.2.2.2.1 1 (by decide) (by decide) (by decide) dL_law_677 rfl ?_
  refine x_aload_n C dL_law_678 rfl 3 rfl rfl ?_
  refine x_iload_n C dL_law_679 rfl 0 rfl rfl ?_
  refine x_iconst C (v := 2) dL_law_680 (by decide) rfl ?_
  refine x_iadd C (v := 2) dL_law_681 (by decide) rfl ?_
  refine x_sld C hS.2.1 hS.2.2.1 hS.2.2.2.1 2 (by decide) (by decide) (by decide) dL_law_682 rfl ?_
  refine x_aload_n C dL_law_683 rfl 3 rfl rfl ?_
  refine x_iload_n C dL_law_684 rfl 0 rfl rfl ?_
  refine x_iconst C (v := 3) dL_law_685 (by decide) rfl ?_
  refine x_iadd C (v := 3) dL_law_686 (by decide) rfl ?_
  refine x_sld C hS.2.1 hS.2.2.1 hS.2.2.2.1 3 (by decide) (by decide) (by decide) dL_law_687 rfl ?_
  refine x_vi C (As := [.int (xs 1), .int (xs 2), .int (xs 3)]) (rest := [.int r1]) (fe_before E l hm (xs 1) (xs 2) (xs 3)) mf_X12_before w_1585 0 rm rfl rfl rfl (Nat.le_of_ble_eq_true rfl) ⟨(Nat.le_of_ble_eq_true rfl), (Nat.le_of_ble_eq_true rfl)⟩ ⟨(Nat.le_of_ble_eq_true rfl), (Nat.le_of_ble_eq_true rfl)⟩ dL_law_688 rfl (fun r4 w5 h6 => ?_)
  refine x_icmp_eq C (tgt := 1148) dL_law_691 (by decide) rfl (fun _ => ?_) (fun h => absurd (h3.trans h6.symm) h)
  exact law_back hS _
theorem dL_law_696 : decode cL_law 696 = .ok (.aload_n 1, 1) := by decide +kernel
theorem dL_law_697 : decode cL_law 697 = .ok (.aload_n 0, 1) := by decide +kernel
theorem dL_law_698 : decode cL_law 698 = .ok (.iload_n 3, 1) := by decide +kernel
theorem dL_law_699 : decode cL_law 699 = .ok (.iconst 1, 1) := by decide +kernel
theorem dL_law_700 : decode cL_law 700 = .ok (.iadd, 1) := by decide +kernel
theorem dL_law_701 : decode cL_law 701 = .ok (.iaload, 1) := by decide +kernel
theorem dL_law_702 : decode cL_law 702 = .ok (.aload_n 0, 1) := by decide +kernel
theorem dL_law_703 : decode cL_law 703 = .ok (.iload_n 3, 1) := by decide +kernel
theorem dL_law_704 : decode cL_law 704 = .ok (.iconst 2, 1) := by decide +kernel
theorem dL_law_705 : decode cL_law 705 = .ok (.iadd, 1) := by decide +kernel
theorem dL_law_706 : decode cL_law 706 = .ok (.iaload, 1) := by decide +kernel
theorem dL_law_707 : decode cL_law 707 = .ok (.aload_n 0, 1) := by decide +kernel
theorem dL_law_708 : decode cL_law 708 = .ok (.iload_n 3, 1) := by decide +kernel
theorem dL_law_709 : decode cL_law 709 = .ok (.iconst 3, 1) := by decide +kernel
theorem dL_law_710 : decode cL_law 710 = .ok (.iadd, 1) := by decide +kernel
theorem dL_law_711 : decode cL_law 711 = .ok (.iaload, 1) := by decide +kernel
theorem dL_law_712 : decode cL_law 712 = .ok (.invokevirtual 85, 3) := by decide +kernel
theorem dL_law_715 : decode cL_law 715 = .ok (.aload_n 2, 1) := by decide +kernel
theorem dL_law_716 : decode cL_law 716 = .ok (.aload_n 0, 1) := by decide +kernel
theorem dL_law_717 : decode cL_law 717 = .ok (.iload_n 3, 1) := by decide +kernel
theorem dL_law_718 : decode cL_law 718 = .ok (.iconst 1, 1) := by decide +kernel
theorem dL_law_719 : decode cL_law 719 = .ok (.iadd, 1) := by decide +kernel
theorem dL_law_720 : decode cL_law 720 = .ok (.iaload, 1) := by decide +kernel
theorem dL_law_721 : decode cL_law 721 = .ok (.aload_n 0, 1) := by decide +kernel
theorem dL_law_722 : decode cL_law 722 = .ok (.iload_n 3, 1) := by decide +kernel
theorem dL_law_723 : decode cL_law 723 = .ok (.iconst 2, 1) := by decide +kernel
theorem dL_law_724 : decode cL_law 724 = .ok (.iadd, 1) := by decide +kernel
theorem dL_law_725 : decode cL_law 725 = .ok (.iaload, 1) := by decide +kernel
theorem dL_law_726 : decode cL_law 726 = .ok (.aload_n 0, 1) := by decide +kernel
theorem dL_law_727 : decode cL_law 727 = .ok (.iload_n 3, 1) := by decide +kernel
theorem dL_law_728 : decode cL_law 728 = .ok (.iconst 3, 1) := by decide +kernel
theorem dL_law_729 : decode cL_law 729 = .ok (.iadd, 1) := by decide +kernel
theorem dL_law_730 : decode cL_law 730 = .ok (.iaload, 1) := by decide +kernel
theorem dL_law_731 : decode cL_law 731 = .ok (.invokevirtual 88, 3) := by decide +kernel
theorem dL_law_734 : decode cL_law 734 = .ok (.if_icmp .eq 414, 3) := by decide +kernel
set_option maxRecDepth 20000 in
set_option maxHeartbeats 4000000 in
theorem law_case_16 {E : xE} {p : Program} {l : Launch} {e : Env} {s : State} {m : MethodId} {below : List Frame} {meth : Method} {c : Code} {b : Nat} {xs : Nat → Int32} {x mm : Nat} {wx wm : va_W} (hS : LC E p s m meth c b 6 xs) (hx : FX E x wx) (hm : FM E mm wm) : LX E p l e s m below meth c b (wm ++ wx) 696 [(3, .int 0), (2, .ref mm), (1, .ref x), (0, .ref b)] [] := by
  have C := hS.1
  obtain ⟨gx, rx⟩ := hx.recv
  obtain ⟨gm, rm⟩ := hm.recv
  refine x_aload_n C dL_law_696 rfl 2 rfl rfl ?_
  refine x_aload_n C dL_law_697 rfl 3 rfl rfl ?_
  refine x_iload_n C dL_law_698 rfl 0 rfl rfl ?_
  refine x_iconst C (v := 1) dL_law_699 (by decide) rfl ?_
  refine x_iadd C (v := 1) dL_law_700 (by decide) rfl ?_
  refine x_sld C hS.2.1 hS.2.2.1 hS.2.2.2.1 1 (by decide) (by decide) (by decide) dL_law_701 rfl ?_
  refine x_aload_n C dL_law_702 rfl 3 rfl rfl ?_
  refine x_iload_n C dL_law_703 rfl 0 rfl rfl ?_
  refine x_iconst C (v := 2) dL_law_704 (by decide) rfl ?_
  refine x_iadd C (v := 2) dL_law_705 (by decide) rfl ?_
  refine x_sld C hS.2.1 hS.2.2.1 hS.2.2.2.1 2 (by decide) (by decide) (by decide) dL_law_706 rfl ?_
  refine x_aload_n C dL_law_707 rfl 3 rfl rfl ?_
  refine x_iload_n C dL_law_708 rfl 0 rfl rfl ?_
  refine x_iconst C (v := 3) dL_law_709 (by decide) rfl ?_
  refine x_iadd C (v := 3) dL_law_710 (by decide) rfl ?_
  refine x_sld C hS.2.1 hS.2.2.1 hS.2.2.2.1 3 (by decide) (by decide) (by decide) dL_law_711 rfl ?_
  refine x_vf C (As := [.int (xs 1), .int (xs 2), .int (xs 3)]) (rest := []) (W0 := wm) (wc := wx) (ft_flock E l hx (xs 1) (xs 2) (xs 3)) mf_X11_flock w_967 rfl 0 rx rfl rfl rfl (Nat.le_of_ble_eq_true rfl) ⟨(Nat.le_of_ble_eq_true rfl), (Nat.le_of_ble_eq_true rfl)⟩ ⟨(Nat.le_of_ble_eq_true rfl), (Nat.le_of_ble_eq_true rfl)⟩ dL_law_712 rfl (fun r1 w2 h3 => ?_)
  refine x_aload_n C dL_law_715 rfl 1 rfl rfl ?_
  refine x_aload_n C dL_law_716 rfl 3 rfl rfl ?_
  refine x_iload_n C dL_law_717 rfl 0 rfl rfl ?_
  refine x_iconst C (v := 1) dL_law_718 (by decide) rfl ?_
  refine x_iadd C (v := 1) dL_law_719 (by decide) rfl ?_
  refine x_sld C hS.2.1 hS.2.2.1 hS.2.2.2.1 1 (by decide) (by decide) (by decide) dL_law_720 rfl ?_
  refine x_aload_n C dL_law_721 rfl 3 rfl rfl ?_
  refine x_iload_n C dL_law_722 rfl 0 rfl rfl ?_
  refine x_iconst C (v := 2) dL_law_723 (by decide) rfl ?_
  refine x_iadd C (v := 2) dL_law_724 (by decide) rfl ?_
  refine x_sld C hS.2.1 hS.2.2.1 hS.2.2.2.1 2 (by decide) (by decide) (by decide) dL_law_725 rfl ?_
  refine x_aload_n C dL_law_726 rfl 3 rfl rfl ?_
  refine x_iload_n C dL_law_727 rfl 0 rfl rfl ?_
  refine x_iconst C (v := 3) dL_law_728 (by decide) rfl ?_
  refine x_iadd C (v := 3) dL_law_729 (by decide) rfl ?_
  refine x_sld C hS.2.1 hS.2.2.1 hS.2.2.2.1 3 (by decide) (by decide) (by decide) dL_law_730 rfl ?_
  refine x_vi C (As := [.int (xs 1), .int (xs 2), .int (xs 3)]) (rest := [.int r1]) (fe_flock E l hm (xs 1) (xs 2) (xs 3)) mf_X12_flock w_1593 0 rm rfl rfl rfl (Nat.le_of_ble_eq_true rfl) ⟨(Nat.le_of_ble_eq_true rfl), (Nat.le_of_ble_eq_true rfl)⟩ ⟨(Nat.le_of_ble_eq_true rfl), (Nat.le_of_ble_eq_true rfl)⟩ dL_law_731 rfl (fun r4 w5 h6 => ?_)
  refine x_icmp_eq C (tgt := 1148) dL_law_734 (by decide) rfl (fun _ => ?_) (fun h => absurd (h3.trans h6.symm) h)
  exact law_back hS _
theorem dL_law_739 : decode cL_law 739 = .ok (.aload_n 1, 1) := by decide +kernel
theorem dL_law_740 : decode cL_law 740 = .ok (.aload_n 0, 1) := by decide +kernel
theorem dL_law_741 : decode cL_law 741 = .ok (.iload_n 3, 1) := by decide +kernel
theorem dL_law_742 : decode cL_law 742 = .ok (.iconst 1, 1) := by decide +kernel
theorem dL_law_743 : decode cL_law 743 = .ok (.iadd, 1) := by decide +kernel
theorem dL_law_744 : decode cL_law 744 = .ok (.iaload, 1) := by decide +kernel
theorem dL_law_745 : decode cL_law 745 = .ok (.aload_n 0, 1) := by decide +kernel
theorem dL_law_746 : decode cL_law 746 = .ok (.iload_n 3, 1) := by decide +kernel
theorem dL_law_747 : decode cL_law 747 = .ok (.iconst 2, 1) := by decide +kernel
theorem dL_law_748 : decode cL_law 748 = .ok (.iadd, 1) := by decide +kernel
theorem dL_law_749 : decode cL_law 749 = .ok (.iaload, 1) := by decide +kernel
theorem dL_law_750 : decode cL_law 750 = .ok (.aload_n 0, 1) := by decide +kernel
theorem dL_law_751 : decode cL_law 751 = .ok (.iload_n 3, 1) := by decide +kernel
theorem dL_law_752 : decode cL_law 752 = .ok (.iconst 3, 1) := by decide +kernel
theorem dL_law_753 : decode cL_law 753 = .ok (.iadd, 1) := by decide +kernel
theorem dL_law_754 : decode cL_law 754 = .ok (.iaload, 1) := by decide +kernel
theorem dL_law_755 : decode cL_law 755 = .ok (.invokevirtual 89, 3) := by decide +kernel
theorem dL_law_758 : decode cL_law 758 = .ok (.aload_n 2, 1) := by decide +kernel
theorem dL_law_759 : decode cL_law 759 = .ok (.aload_n 0, 1) := by decide +kernel
theorem dL_law_760 : decode cL_law 760 = .ok (.iload_n 3, 1) := by decide +kernel
theorem dL_law_761 : decode cL_law 761 = .ok (.iconst 1, 1) := by decide +kernel
theorem dL_law_762 : decode cL_law 762 = .ok (.iadd, 1) := by decide +kernel
theorem dL_law_763 : decode cL_law 763 = .ok (.iaload, 1) := by decide +kernel
theorem dL_law_764 : decode cL_law 764 = .ok (.aload_n 0, 1) := by decide +kernel
theorem dL_law_765 : decode cL_law 765 = .ok (.iload_n 3, 1) := by decide +kernel
theorem dL_law_766 : decode cL_law 766 = .ok (.iconst 2, 1) := by decide +kernel
theorem dL_law_767 : decode cL_law 767 = .ok (.iadd, 1) := by decide +kernel
theorem dL_law_768 : decode cL_law 768 = .ok (.iaload, 1) := by decide +kernel
theorem dL_law_769 : decode cL_law 769 = .ok (.aload_n 0, 1) := by decide +kernel
theorem dL_law_770 : decode cL_law 770 = .ok (.iload_n 3, 1) := by decide +kernel
theorem dL_law_771 : decode cL_law 771 = .ok (.iconst 3, 1) := by decide +kernel
theorem dL_law_772 : decode cL_law 772 = .ok (.iadd, 1) := by decide +kernel
theorem dL_law_773 : decode cL_law 773 = .ok (.iaload, 1) := by decide +kernel
theorem dL_law_774 : decode cL_law 774 = .ok (.invokevirtual 92, 3) := by decide +kernel
theorem dL_law_777 : decode cL_law 777 = .ok (.if_icmp .eq 371, 3) := by decide +kernel
set_option maxRecDepth 20000 in
set_option maxHeartbeats 4000000 in
theorem law_case_17 {E : xE} {p : Program} {l : Launch} {e : Env} {s : State} {m : MethodId} {below : List Frame} {meth : Method} {c : Code} {b : Nat} {xs : Nat → Int32} {x mm : Nat} {wx wm : va_W} (hS : LC E p s m meth c b 6 xs) (hx : FX E x wx) (hm : FM E mm wm) : LX E p l e s m below meth c b (wm ++ wx) 739 [(3, .int 0), (2, .ref mm), (1, .ref x), (0, .ref b)] [] := by
  have C := hS.1
  obtain ⟨gx, rx⟩ := hx.recv
  obtain ⟨gm, rm⟩ := hm.recv
  refine x_aload_n C dL_law_739 rfl 2 rfl rfl ?_
  refine x_aload_n C dL_law_740 rfl 3 rfl rfl ?_
  refine x_iload_n C dL_law_741 rfl 0 rfl rfl ?_
  refine x_iconst C (v := 1) dL_law_742 (by decide) rfl ?_
  refine x_iadd C (v := 1) dL_law_743 (by decide) rfl ?_
  refine x_sld C hS.2.1 hS.2.2.1 hS.2.2.2.1 1 (by decide) (by decide) (by decide) dL_law_744 rfl ?_
  refine x_aload_n C dL_law_745 rfl 3 rfl rfl ?_
  refine x_iload_n C dL_law_746 rfl 0 rfl rfl ?_
  refine x_iconst C (v := 2) dL_law_747 (by decide) rfl ?_
  refine x_iadd C (v := 2) dL_law_748 (by decide) rfl ?_
  refine x_sld C hS.2.1 hS.2.2.1 hS.2.2.2.1 2 (by decide) (by decide) (by decide) dL_law_749 rfl ?_
  refine x_aload_n C dL_law_750 rfl 3 rfl rfl ?_
  refine x_iload_n C dL_law_751 rfl 0 rfl rfl ?_
  refine x_iconst C (v := 3) dL_law_752 (by decide) rfl ?_
  refine x_iadd C (v := 3) dL_law_753 (by decide) rfl ?_
  refine x_sld C hS.2.1 hS.2.2.1 hS.2.2.2.1 3 (by decide) (by decide) (by decide) dL_law_754 rfl ?_
  refine x_vf C (As := [.int (xs 1), .int (xs 2), .int (xs 3)]) (rest := []) (W0 := wm) (wc := wx) (ft_rations E l hx (xs 1) (xs 2) (xs 3)) mf_X11_rations w_975 rfl 0 rx rfl rfl rfl (Nat.le_of_ble_eq_true rfl) ⟨(Nat.le_of_ble_eq_true rfl), (Nat.le_of_ble_eq_true rfl)⟩ ⟨(Nat.le_of_ble_eq_true rfl), (Nat.le_of_ble_eq_true rfl)⟩ dL_law_755 rfl (fun r1 w2 h3 => ?_)
  refine x_aload_n C dL_law_758 rfl 1 rfl rfl ?_
  refine x_aload_n C dL_law_759 rfl 3 rfl rfl ?_
  refine x_iload_n C dL_law_760 rfl 0 rfl rfl ?_
  refine x_iconst C (v := 1) dL_law_761 (by decide) rfl ?_
  refine x_iadd C (v := 1) dL_law_762 (by decide) rfl ?_
  refine x_sld C hS.2.1 hS.2.2.1 hS.2.2.2.1 1 (by decide) (by decide) (by decide) dL_law_763 rfl ?_
  refine x_aload_n C dL_law_764 rfl 3 rfl rfl ?_
  refine x_iload_n C dL_law_765 rfl 0 rfl rfl ?_
  refine x_iconst C (v := 2) dL_law_766 (by decide) rfl ?_
  refine x_iadd C (v := 2) dL_law_767 (by decide) rfl ?_
  refine x_sld C hS.2.1 hS.2.2.1 hS.2.2.2.1 2 (by decide) (by decide) (by decide) dL_law_768 rfl ?_
  refine x_aload_n C dL_law_769 rfl 3 rfl rfl ?_
  refine x_iload_n C dL_law_770 rfl 0 rfl rfl ?_
  refine x_iconst C (v := 3) dL_law_771 (by decide) rfl ?_
  refine x_iadd C (v := 3) dL_law_772 (by decide) rfl ?_
  refine x_sld C hS.2.1 hS.2.2.1 hS.2.2.2.1 3 (by decide) (by decide) (by decide) dL_law_773 rfl ?_
  refine x_vi C (As := [.int (xs 1), .int (xs 2), .int (xs 3)]) (rest := [.int r1]) (fe_rations E l hm (xs 1) (xs 2) (xs 3)) mf_X12_rations w_1601 0 rm rfl rfl rfl (Nat.le_of_ble_eq_true rfl) ⟨(Nat.le_of_ble_eq_true rfl), (Nat.le_of_ble_eq_true rfl)⟩ ⟨(Nat.le_of_ble_eq_true rfl), (Nat.le_of_ble_eq_true rfl)⟩ dL_law_774 rfl (fun r4 w5 h6 => ?_)
  refine x_icmp_eq C (tgt := 1148) dL_law_777 (by decide) rfl (fun _ => ?_) (fun h => absurd (h3.trans h6.symm) h)
  exact law_back hS _
theorem dL_law_782 : decode cL_law 782 = .ok (.aload_n 1, 1) := by decide +kernel
theorem dL_law_783 : decode cL_law 783 = .ok (.aload_n 0, 1) := by decide +kernel
theorem dL_law_784 : decode cL_law 784 = .ok (.iload_n 3, 1) := by decide +kernel
theorem dL_law_785 : decode cL_law 785 = .ok (.iconst 1, 1) := by decide +kernel
theorem dL_law_786 : decode cL_law 786 = .ok (.iadd, 1) := by decide +kernel
theorem dL_law_787 : decode cL_law 787 = .ok (.iaload, 1) := by decide +kernel
theorem dL_law_788 : decode cL_law 788 = .ok (.aload_n 0, 1) := by decide +kernel
theorem dL_law_789 : decode cL_law 789 = .ok (.iload_n 3, 1) := by decide +kernel
theorem dL_law_790 : decode cL_law 790 = .ok (.iconst 2, 1) := by decide +kernel
theorem dL_law_791 : decode cL_law 791 = .ok (.iadd, 1) := by decide +kernel
theorem dL_law_792 : decode cL_law 792 = .ok (.iaload, 1) := by decide +kernel
theorem dL_law_793 : decode cL_law 793 = .ok (.invokevirtual 93, 3) := by decide +kernel
theorem dL_law_796 : decode cL_law 796 = .ok (.aload_n 2, 1) := by decide +kernel
theorem dL_law_797 : decode cL_law 797 = .ok (.aload_n 0, 1) := by decide +kernel
theorem dL_law_798 : decode cL_law 798 = .ok (.iload_n 3, 1) := by decide +kernel
theorem dL_law_799 : decode cL_law 799 = .ok (.iconst 1, 1) := by decide +kernel
theorem dL_law_800 : decode cL_law 800 = .ok (.iadd, 1) := by decide +kernel
theorem dL_law_801 : decode cL_law 801 = .ok (.iaload, 1) := by decide +kernel
theorem dL_law_802 : decode cL_law 802 = .ok (.aload_n 0, 1) := by decide +kernel
theorem dL_law_803 : decode cL_law 803 = .ok (.iload_n 3, 1) := by decide +kernel
theorem dL_law_804 : decode cL_law 804 = .ok (.iconst 2, 1) := by decide +kernel
theorem dL_law_805 : decode cL_law 805 = .ok (.iadd, 1) := by decide +kernel
theorem dL_law_806 : decode cL_law 806 = .ok (.iaload, 1) := by decide +kernel
theorem dL_law_807 : decode cL_law 807 = .ok (.invokevirtual 96, 3) := by decide +kernel
theorem dL_law_810 : decode cL_law 810 = .ok (.if_icmp .eq 338, 3) := by decide +kernel
set_option maxRecDepth 20000 in
set_option maxHeartbeats 4000000 in
theorem law_case_18 {E : xE} {p : Program} {l : Launch} {e : Env} {s : State} {m : MethodId} {below : List Frame} {meth : Method} {c : Code} {b : Nat} {xs : Nat → Int32} {x mm : Nat} {wx wm : va_W} (hS : LC E p s m meth c b 6 xs) (hx : FX E x wx) (hm : FM E mm wm) : LX E p l e s m below meth c b (wm ++ wx) 782 [(3, .int 0), (2, .ref mm), (1, .ref x), (0, .ref b)] [] := by
  have C := hS.1
  obtain ⟨gx, rx⟩ := hx.recv
  obtain ⟨gm, rm⟩ := hm.recv
  refine x_aload_n C dL_law_782 rfl 2 rfl rfl ?_
  refine x_aload_n C dL_law_783 rfl 3 rfl rfl ?_
  refine x_iload_n C dL_law_784 rfl 0 rfl rfl ?_
  refine x_iconst C (v := 1) dL_law_785 (by decide) rfl ?_
  refine x_iadd C (v := 1) dL_law_786 (by decide) rfl ?_
  refine x_sld C hS.2.1 hS.2.2.1 hS.2.2.2.1 1 (by decide) (by decide) (by decide) dL_law_787 rfl ?_
  refine x_aload_n C dL_law_788 rfl 3 rfl rfl ?_
  refine x_iload_n C dL_law_789 rfl 0 rfl rfl ?_
  refine x_iconst C (v := 2) dL_law_790 (by decide) rfl ?_
  refine x_iadd C (v := 2) dL_law_791 (by decide) rfl ?_
  refine x_sld C hS.2.1 hS.2.2.1 hS.2.2.2.1 2 (by decide) (by decide) (by decide) dL_law_792 rfl ?_
  refine x_vf C (As := [.int (xs 1), .int (xs 2)]) (rest := []) (W0 := wm) (wc := wx) (ft_hoards E l hx (xs 1) (xs 2)) mf_X11_hoards w_997 rfl 0 rx rfl rfl rfl (Nat.le_of_ble_eq_true rfl) ⟨(Nat.le_of_ble_eq_true rfl), (Nat.le_of_ble_eq_true rfl)⟩ ⟨(Nat.le_of_ble_eq_true rfl), (Nat.le_of_ble_eq_true rfl)⟩ dL_law_793 rfl (fun r1 w2 h3 => ?_)
  refine x_aload_n C dL_law_796 rfl 1 rfl rfl ?_
  refine x_aload_n C dL_law_797 rfl 3 rfl rfl ?_
  refine x_iload_n C dL_law_798 rfl 0 rfl rfl ?_
  refine x_iconst C (v := 1) dL_law_799 (by decide) rfl ?_
  refine x_iadd C (v := 1) dL_law_800 (by decide) rfl ?_
  refine x_sld C hS.2.1 hS.2.2.1 hS.2.2.2.1 1 (by decide) (by decide) (by decide) dL_law_801 rfl ?_
  refine x_aload_n C dL_law_802 rfl 3 rfl rfl ?_
  refine x_iload_n C dL_law_803 rfl 0 rfl rfl ?_
  refine x_iconst C (v := 2) dL_law_804 (by decide) rfl ?_
  refine x_iadd C (v := 2) dL_law_805 (by decide) rfl ?_
  refine x_sld C hS.2.1 hS.2.2.1 hS.2.2.2.1 2 (by decide) (by decide) (by decide) dL_law_806 rfl ?_
  refine x_vi C (As := [.int (xs 1), .int (xs 2)]) (rest := [.int r1]) (fe_hoards E l hm (xs 1) (xs 2)) mf_X12_hoards w_1613 0 rm rfl rfl rfl (Nat.le_of_ble_eq_true rfl) ⟨(Nat.le_of_ble_eq_true rfl), (Nat.le_of_ble_eq_true rfl)⟩ ⟨(Nat.le_of_ble_eq_true rfl), (Nat.le_of_ble_eq_true rfl)⟩ dL_law_807 rfl (fun r4 w5 h6 => ?_)
  refine x_icmp_eq C (tgt := 1148) dL_law_810 (by decide) rfl (fun _ => ?_) (fun h => absurd (h3.trans h6.symm) h)
  exact law_back hS _
theorem dL_law_815 : decode cL_law 815 = .ok (.aload_n 1, 1) := by decide +kernel
theorem dL_law_816 : decode cL_law 816 = .ok (.aload_n 0, 1) := by decide +kernel
theorem dL_law_817 : decode cL_law 817 = .ok (.iload_n 3, 1) := by decide +kernel
theorem dL_law_818 : decode cL_law 818 = .ok (.iconst 1, 1) := by decide +kernel
theorem dL_law_819 : decode cL_law 819 = .ok (.iadd, 1) := by decide +kernel
theorem dL_law_820 : decode cL_law 820 = .ok (.iaload, 1) := by decide +kernel
theorem dL_law_821 : decode cL_law 821 = .ok (.aload_n 0, 1) := by decide +kernel
theorem dL_law_822 : decode cL_law 822 = .ok (.iload_n 3, 1) := by decide +kernel
theorem dL_law_823 : decode cL_law 823 = .ok (.iconst 2, 1) := by decide +kernel
theorem dL_law_824 : decode cL_law 824 = .ok (.iadd, 1) := by decide +kernel
theorem dL_law_825 : decode cL_law 825 = .ok (.iaload, 1) := by decide +kernel
theorem dL_law_826 : decode cL_law 826 = .ok (.aload_n 0, 1) := by decide +kernel
theorem dL_law_827 : decode cL_law 827 = .ok (.iload_n 3, 1) := by decide +kernel
theorem dL_law_828 : decode cL_law 828 = .ok (.iconst 3, 1) := by decide +kernel
theorem dL_law_829 : decode cL_law 829 = .ok (.iadd, 1) := by decide +kernel
theorem dL_law_830 : decode cL_law 830 = .ok (.iaload, 1) := by decide +kernel
theorem dL_law_831 : decode cL_law 831 = .ok (.invokevirtual 97, 3) := by decide +kernel
theorem dL_law_834 : decode cL_law 834 = .ok (.aload_n 2, 1) := by decide +kernel
theorem dL_law_835 : decode cL_law 835 = .ok (.aload_n 0, 1) := by decide +kernel
theorem dL_law_836 : decode cL_law 836 = .ok (.iload_n 3, 1) := by decide +kernel
theorem dL_law_837 : decode cL_law 837 = .ok (.iconst 1, 1) := by decide +kernel
theorem dL_law_838 : decode cL_law 838 = .ok (.iadd, 1) := by decide +kernel
theorem dL_law_839 : decode cL_law 839 = .ok (.iaload, 1) := by decide +kernel
theorem dL_law_840 : decode cL_law 840 = .ok (.aload_n 0, 1) := by decide +kernel
theorem dL_law_841 : decode cL_law 841 = .ok (.iload_n 3, 1) := by decide +kernel
theorem dL_law_842 : decode cL_law 842 = .ok (.iconst 2, 1) := by decide +kernel
theorem dL_law_843 : decode cL_law 843 = .ok (.iadd, 1) := by decide +kernel
theorem dL_law_844 : decode cL_law 844 = .ok (.iaload, 1) := by decide +kernel
theorem dL_law_845 : decode cL_law 845 = .ok (.aload_n 0, 1) := by decide +kernel
theorem dL_law_846 : decode cL_law 846 = .ok (.iload_n 3, 1) := by decide +kernel
theorem dL_law_847 : decode cL_law 847 = .ok (.iconst 3, 1) := by decide +kernel
theorem dL_law_848 : decode cL_law 848 = .ok (.iadd, 1) := by decide +kernel
theorem dL_law_849 : decode cL_law 849 = .ok (.iaload, 1) := by decide +kernel
theorem dL_law_850 : decode cL_law 850 = .ok (.invokevirtual 100, 3) := by decide +kernel
theorem dL_law_853 : decode cL_law 853 = .ok (.if_icmp .eq 295, 3) := by decide +kernel
set_option maxRecDepth 20000 in
set_option maxHeartbeats 4000000 in
theorem law_case_19 {E : xE} {p : Program} {l : Launch} {e : Env} {s : State} {m : MethodId} {below : List Frame} {meth : Method} {c : Code} {b : Nat} {xs : Nat → Int32} {x mm : Nat} {wx wm : va_W} (hS : LC E p s m meth c b 6 xs) (hx : FX E x wx) (hm : FM E mm wm) : LX E p l e s m below meth c b (wm ++ wx) 815 [(3, .int 0), (2, .ref mm), (1, .ref x), (0, .ref b)] [] := by
  have C := hS.1
  obtain ⟨gx, rx⟩ := hx.recv
  obtain ⟨gm, rm⟩ := hm.recv
  refine x_aload_n C dL_law_815 rfl 2 rfl rfl ?_
  refine x_aload_n C dL_law_816 rfl 3 rfl rfl ?_
  refine x_iload_n C dL_law_817 rfl 0 rfl rfl ?_
  refine x_iconst C (v := 1) dL_law_818 (by decide) rfl ?_
  refine x_iadd C (v := 1) dL_law_819 (by decide) rfl ?_
  refine x_sld C hS.2.1 hS.2.2.1 hS.2.2.2.1 1 (by decide) (by decide) (by decide) dL_law_820 rfl ?_
  refine x_aload_n C dL_law_821 rfl 3 rfl rfl ?_
  refine x_iload_n C dL_law_822 rfl 0 rfl rfl ?_
  refine x_iconst C (v := 2) dL_law_823 (by decide) rfl ?_
  refine x_iadd C (v := 2) dL_law_824 (by decide) rfl ?_
  refine x_sld C hS.2.1 hS.2.2.1 hS.2.2.2.1 2 (by decide) (by decide) (by decide) dL_law_825 rfl ?_
  refine x_aload_n C dL_law_826 rfl 3 rfl rfl ?_
  refine x_iload_n C dL_law_827 rfl 0 rfl rfl ?_
  refine x_iconst C (v := 3) dL_law_828 (by decide) rfl ?_
  refine x_iadd C (v := 3) dL_law_829 (by decide) rfl ?_
  refine x_sld C hS.2.1 hS.2.2.1 hS.2.2.2.1 3 (by decide) (by decide) (by decide) dL_law_830 rfl ?_
  refine x_vf C (As := [.int (xs 1), .int (xs 2), .int (xs 3)]) (rest := []) (W0 := wm) (wc := wx) (ft_yolks E l hx (xs 1) (xs 2) (xs 3)) mf_X11_yolks w_1014 rfl 0 rx rfl rfl rfl (Nat.le_of_ble_eq_true rfl) ⟨(Nat.le_of_ble_eq_true rfl), (Nat.le_of_ble_eq_true rfl)⟩ ⟨(Nat.le_of_ble_eq_true rfl), (Nat.le_of_ble_eq_true rfl)⟩ dL_law_831 rfl (fun r1 w2 h3 => ?_)
  refine x_aload_n C dL_law_834 rfl 1 rfl rfl ?_
  refine x_aload_n C dL_law_835 rfl 3 rfl rfl ?_
  refine x_iload_n C dL_law_836 rfl 0 rfl rfl ?_
  refine x_iconst C (v := 1) dL_law_837 (by decide) rfl ?_
  refine x_iadd C (v := 1) dL_law_838 (by decide) rfl ?_
  refine x_sld C hS.2.1 hS.2.2.1 hS.2.2.2.1 1 (by decide) (by decide) (by decide) dL_law_839 rfl ?_
  refine x_aload_n C dL_law_840 rfl 3 rfl rfl ?_
  refine x_iload_n C dL_law_841 rfl 0 rfl rfl ?_
  refine x_iconst C (v := 2) dL_law_842 (by decide) rfl ?_
  refine x_iadd C (v := 2) dL_law_843 (by decide) rfl ?_
  refine x_sld C hS.2.1 hS.2.2.1 hS.2.2.2.1 2 (by decide) (by decide) (by decide) dL_law_844 rfl ?_
  refine x_aload_n C dL_law_845 rfl 3 rfl rfl ?_
  refine x_iload_n C dL_law_846 rfl 0 rfl rfl ?_
  refine x_iconst C (v := 3) dL_law_847 (by decide) rfl ?_
  refine x_iadd C (v := 3) dL_law_848 (by decide) rfl ?_
  refine x_sld C hS.2.1 hS.2.2.1 hS.2.2.2.1 3 (by decide) (by decide) (by decide) dL_law_849 rfl ?_
  refine x_vi C (As := [.int (xs 1), .int (xs 2), .int (xs 3)]) (rest := [.int r1]) (fe_yolks E l hm (xs 1) (xs 2) (xs 3)) mf_X12_yolks w_1625 0 rm rfl rfl rfl (Nat.le_of_ble_eq_true rfl) ⟨(Nat.le_of_ble_eq_true rfl), (Nat.le_of_ble_eq_true rfl)⟩ ⟨(Nat.le_of_ble_eq_true rfl), (Nat.le_of_ble_eq_true rfl)⟩ dL_law_850 rfl (fun r4 w5 h6 => ?_)
  refine x_icmp_eq C (tgt := 1148) dL_law_853 (by decide) rfl (fun _ => ?_) (fun h => absurd (h3.trans h6.symm) h)
  exact law_back hS _
theorem dL_law_858 : decode cL_law 858 = .ok (.aload_n 1, 1) := by decide +kernel
theorem dL_law_859 : decode cL_law 859 = .ok (.aload_n 0, 1) := by decide +kernel
theorem dL_law_860 : decode cL_law 860 = .ok (.iload_n 3, 1) := by decide +kernel
theorem dL_law_861 : decode cL_law 861 = .ok (.iconst 1, 1) := by decide +kernel
theorem dL_law_862 : decode cL_law 862 = .ok (.iadd, 1) := by decide +kernel
theorem dL_law_863 : decode cL_law 863 = .ok (.iaload, 1) := by decide +kernel
theorem dL_law_864 : decode cL_law 864 = .ok (.invokevirtual 101, 3) := by decide +kernel
theorem dL_law_867 : decode cL_law 867 = .ok (.aload_n 2, 1) := by decide +kernel
theorem dL_law_868 : decode cL_law 868 = .ok (.aload_n 0, 1) := by decide +kernel
theorem dL_law_869 : decode cL_law 869 = .ok (.iload_n 3, 1) := by decide +kernel
theorem dL_law_870 : decode cL_law 870 = .ok (.iconst 1, 1) := by decide +kernel
theorem dL_law_871 : decode cL_law 871 = .ok (.iadd, 1) := by decide +kernel
theorem dL_law_872 : decode cL_law 872 = .ok (.iaload, 1) := by decide +kernel
theorem dL_law_873 : decode cL_law 873 = .ok (.invokevirtual 104, 3) := by decide +kernel
theorem dL_law_876 : decode cL_law 876 = .ok (.if_icmp .eq 272, 3) := by decide +kernel
set_option maxRecDepth 20000 in
set_option maxHeartbeats 4000000 in
theorem law_case_20 {E : xE} {p : Program} {l : Launch} {e : Env} {s : State} {m : MethodId} {below : List Frame} {meth : Method} {c : Code} {b : Nat} {xs : Nat → Int32} {x mm : Nat} {wx wm : va_W} (hS : LC E p s m meth c b 6 xs) (hx : FX E x wx) (hm : FM E mm wm) : LX E p l e s m below meth c b (wm ++ wx) 858 [(3, .int 0), (2, .ref mm), (1, .ref x), (0, .ref b)] [] := by
  have C := hS.1
  obtain ⟨gx, rx⟩ := hx.recv
  obtain ⟨gm, rm⟩ := hm.recv
  refine x_aload_n C dL_law_858 rfl 2 rfl rfl ?_
  refine x_aload_n C dL_law_859 rfl 3 rfl rfl ?_
  refine x_iload_n C dL_law_860 rfl 0 rfl rfl ?_
  refine x_iconst C (v := 1) dL_law_861 (by decide) rfl ?_
  refine x_iadd C (v := 1) dL_law_862 (by decide) rfl ?_
  refine x_sld C hS.2.1 hS.2.2.1 hS.2.2.2.1 1 (by decide) (by decide) (by decide) dL_law_863 rfl ?_
  refine x_vf C (As := [.int (xs 1)]) (rest := []) (W0 := wm) (wc := wx) (ft_thefts E l hx (xs 1)) mf_X11_thefts w_1033 rfl 0 rx rfl rfl rfl (Nat.le_of_ble_eq_true rfl) ⟨(Nat.le_of_ble_eq_true rfl), (Nat.le_of_ble_eq_true rfl)⟩ ⟨(Nat.le_of_ble_eq_true rfl), (Nat.le_of_ble_eq_true rfl)⟩ dL_law_864 rfl (fun r1 w2 h3 => ?_)
  refine x_aload_n C dL_law_867 rfl 1 rfl rfl ?_
  refine x_aload_n C dL_law_868 rfl 3 rfl rfl ?_
  refine x_iload_n C dL_law_869 rfl 0 rfl rfl ?_
  refine x_iconst C (v := 1) dL_law_870 (by decide) rfl ?_
  refine x_iadd C (v := 1) dL_law_871 (by decide) rfl ?_
  refine x_sld C hS.2.1 hS.2.2.1 hS.2.2.2.1 1 (by decide) (by decide) (by decide) dL_law_872 rfl ?_
  refine x_vi C (As := [.int (xs 1)]) (rest := [.int r1]) (fe_thefts E l hm (xs 1)) mf_X12_thefts w_1629 0 rm rfl rfl rfl (Nat.le_of_ble_eq_true rfl) ⟨(Nat.le_of_ble_eq_true rfl), (Nat.le_of_ble_eq_true rfl)⟩ ⟨(Nat.le_of_ble_eq_true rfl), (Nat.le_of_ble_eq_true rfl)⟩ dL_law_873 rfl (fun r4 w5 h6 => ?_)
  refine x_icmp_eq C (tgt := 1148) dL_law_876 (by decide) rfl (fun _ => ?_) (fun h => absurd (h3.trans h6.symm) h)
  exact law_back hS _
theorem dL_law_881 : decode cL_law 881 = .ok (.aload_n 1, 1) := by decide +kernel
theorem dL_law_882 : decode cL_law 882 = .ok (.aload_n 0, 1) := by decide +kernel
theorem dL_law_883 : decode cL_law 883 = .ok (.iload_n 3, 1) := by decide +kernel
theorem dL_law_884 : decode cL_law 884 = .ok (.iconst 1, 1) := by decide +kernel
theorem dL_law_885 : decode cL_law 885 = .ok (.iadd, 1) := by decide +kernel
theorem dL_law_886 : decode cL_law 886 = .ok (.iaload, 1) := by decide +kernel
theorem dL_law_887 : decode cL_law 887 = .ok (.aload_n 0, 1) := by decide +kernel
theorem dL_law_888 : decode cL_law 888 = .ok (.iload_n 3, 1) := by decide +kernel
theorem dL_law_889 : decode cL_law 889 = .ok (.iconst 2, 1) := by decide +kernel
theorem dL_law_890 : decode cL_law 890 = .ok (.iadd, 1) := by decide +kernel
theorem dL_law_891 : decode cL_law 891 = .ok (.iaload, 1) := by decide +kernel
theorem dL_law_892 : decode cL_law 892 = .ok (.aload_n 0, 1) := by decide +kernel
theorem dL_law_893 : decode cL_law 893 = .ok (.iload_n 3, 1) := by decide +kernel
theorem dL_law_894 : decode cL_law 894 = .ok (.iconst 3, 1) := by decide +kernel
theorem dL_law_895 : decode cL_law 895 = .ok (.iadd, 1) := by decide +kernel
theorem dL_law_896 : decode cL_law 896 = .ok (.iaload, 1) := by decide +kernel
theorem dL_law_897 : decode cL_law 897 = .ok (.invokevirtual 105, 3) := by decide +kernel
theorem dL_law_900 : decode cL_law 900 = .ok (.aload_n 2, 1) := by decide +kernel
theorem dL_law_901 : decode cL_law 901 = .ok (.aload_n 0, 1) := by decide +kernel
theorem dL_law_902 : decode cL_law 902 = .ok (.iload_n 3, 1) := by decide +kernel
theorem dL_law_903 : decode cL_law 903 = .ok (.iconst 1, 1) := by decide +kernel
theorem dL_law_904 : decode cL_law 904 = .ok (.iadd, 1) := by decide +kernel
theorem dL_law_905 : decode cL_law 905 = .ok (.iaload, 1) := by decide +kernel
theorem dL_law_906 : decode cL_law 906 = .ok (.aload_n 0, 1) := by decide +kernel
theorem dL_law_907 : decode cL_law 907 = .ok (.iload_n 3, 1) := by decide +kernel
theorem dL_law_908 : decode cL_law 908 = .ok (.iconst 2, 1) := by decide +kernel
theorem dL_law_909 : decode cL_law 909 = .ok (.iadd, 1) := by decide +kernel
theorem dL_law_910 : decode cL_law 910 = .ok (.iaload, 1) := by decide +kernel
theorem dL_law_911 : decode cL_law 911 = .ok (.aload_n 0, 1) := by decide +kernel
theorem dL_law_912 : decode cL_law 912 = .ok (.iload_n 3, 1) := by decide +kernel
theorem dL_law_913 : decode cL_law 913 = .ok (.iconst 3, 1) := by decide +kernel
theorem dL_law_914 : decode cL_law 914 = .ok (.iadd, 1) := by decide +kernel
theorem dL_law_915 : decode cL_law 915 = .ok (.iaload, 1) := by decide +kernel
theorem dL_law_916 : decode cL_law 916 = .ok (.invokevirtual 108, 3) := by decide +kernel
theorem dL_law_919 : decode cL_law 919 = .ok (.if_icmp .eq 229, 3) := by decide +kernel
set_option maxRecDepth 20000 in
set_option maxHeartbeats 4000000 in
theorem law_case_21 {E : xE} {p : Program} {l : Launch} {e : Env} {s : State} {m : MethodId} {below : List Frame} {meth : Method} {c : Code} {b : Nat} {xs : Nat → Int32} {x mm : Nat} {wx wm : va_W} (hS : LC E p s m meth c b 6 xs) (hx : FX E x wx) (hm : FM E mm wm) : LX E p l e s m below meth c b (wm ++ wx) 881 [(3, .int 0), (2, .ref mm), (1, .ref x), (0, .ref b)] [] := by
  have C := hS.1
  obtain ⟨gx, rx⟩ := hx.recv
  obtain ⟨gm, rm⟩ := hm.recv
  refine x_aload_n C dL_law_881 rfl 2 rfl rfl ?_
  refine x_aload_n C dL_law_882 rfl 3 rfl rfl ?_
  refine x_iload_n C dL_law_883 rfl 0 rfl rfl ?_
  refine x_iconst C (v := 1) dL_law_884 (by decide) rfl ?_
  refine x_iadd C (v := 1) dL_law_885 (by decide) rfl ?_
  refine x_sld C hS.2.1 hS.2.2.1 hS.2.2.2.1 1 (by decide) (by decide) (by decide) dL_law_886 rfl ?_
  refine x_aload_n C dL_law_887 rfl 3 rfl rfl ?_
  refine x_iload_n C dL_law_888 rfl 0 rfl rfl ?_
  refine x_iconst C (v := 2) dL_law_889 (by decide) rfl ?_
  refine x_iadd C (v := 2) dL_law_890 (by decide) rfl ?_
  refine x_sld C hS.2.1 hS.2.2.1 hS.2.2.2.1 2 (by decide) (by decide) (by decide) dL_law_891 rfl ?_
  refine x_aload_n C dL_law_892 rfl 3 rfl rfl ?_
  refine x_iload_n C dL_law_893 rfl 0 rfl rfl ?_
  refine x_iconst C (v := 3) dL_law_894 (by decide) rfl ?_
  refine x_iadd C (v := 3) dL_law_895 (by decide) rfl ?_
  refine x_sld C hS.2.1 hS.2.2.1 hS.2.2.2.1 3 (by decide) (by decide) (by decide) dL_law_896 rfl ?_
  refine x_vf C (As := [.int (xs 1), .int (xs 2), .int (xs 3)]) (rest := []) (W0 := wm) (wc := wx) (ft_baskets E l hx (xs 1) (xs 2) (xs 3)) mf_X11_baskets w_1042 rfl 0 rx rfl rfl rfl (Nat.le_of_ble_eq_true rfl) ⟨(Nat.le_of_ble_eq_true rfl), (Nat.le_of_ble_eq_true rfl)⟩ ⟨(Nat.le_of_ble_eq_true rfl), (Nat.le_of_ble_eq_true rfl)⟩ dL_law_897 rfl (fun r1 w2 h3 => ?_)
  refine x_aload_n C dL_law_900 rfl 1 rfl rfl ?_
  refine x_aload_n C dL_law_901 rfl 3 rfl rfl ?_
  refine x_iload_n C dL_law_902 rfl 0 rfl rfl ?_
  refine x_iconst C (v := 1) dL_law_903 (by decide) rfl ?_
  refine x_iadd C (v := 1) dL_law_904 (by decide) rfl ?_
  refine x_sld C hS.2.1 hS.2.2.1 hS.2.2.2.1 1 (by decide) (by decide) (by decide) dL_law_905 rfl ?_
  refine x_aload_n C dL_law_906 rfl 3 rfl rfl ?_
  refine x_iload_n C dL_law_907 rfl 0 rfl rfl ?_
  refine x_iconst C (v := 2) dL_law_908 (by decide) rfl ?_
  refine x_iadd C (v := 2) dL_law_909 (by decide) rfl ?_
  refine x_sld C hS.2.1 hS.2.2.1 hS.2.2.2.1 2 (by decide) (by decide) (by decide) dL_law_910 rfl ?_
  refine x_aload_n C dL_law_911 rfl 3 rfl rfl ?_
  refine x_iload_n C dL_law_912 rfl 0 rfl rfl ?_
  refine x_iconst C (v := 3) dL_law_913 (by decide) rfl ?_
  refine x_iadd C (v := 3) dL_law_914 (by decide) rfl ?_
  refine x_sld C hS.2.1 hS.2.2.1 hS.2.2.2.1 3 (by decide) (by decide) (by decide) dL_law_915 rfl ?_
  refine x_vi C (As := [.int (xs 1), .int (xs 2), .int (xs 3)]) (rest := [.int r1]) (fe_baskets E l hm (xs 1) (xs 2) (xs 3)) mf_X12_baskets w_1638 0 rm rfl rfl rfl (Nat.le_of_ble_eq_true rfl) ⟨(Nat.le_of_ble_eq_true rfl), (Nat.le_of_ble_eq_true rfl)⟩ ⟨(Nat.le_of_ble_eq_true rfl), (Nat.le_of_ble_eq_true rfl)⟩ dL_law_916 rfl (fun r4 w5 h6 => ?_)
  refine x_icmp_eq C (tgt := 1148) dL_law_919 (by decide) rfl (fun _ => ?_) (fun h => absurd (h3.trans h6.symm) h)
  exact law_back hS _
theorem dL_law_924 : decode cL_law 924 = .ok (.aload_n 1, 1) := by decide +kernel
theorem dL_law_925 : decode cL_law 925 = .ok (.aload_n 0, 1) := by decide +kernel
theorem dL_law_926 : decode cL_law 926 = .ok (.iload_n 3, 1) := by decide +kernel
theorem dL_law_927 : decode cL_law 927 = .ok (.iconst 1, 1) := by decide +kernel
theorem dL_law_928 : decode cL_law 928 = .ok (.iadd, 1) := by decide +kernel
theorem dL_law_929 : decode cL_law 929 = .ok (.iaload, 1) := by decide +kernel
theorem dL_law_930 : decode cL_law 930 = .ok (.aload_n 0, 1) := by decide +kernel
theorem dL_law_931 : decode cL_law 931 = .ok (.iload_n 3, 1) := by decide +kernel
theorem dL_law_932 : decode cL_law 932 = .ok (.iconst 2, 1) := by decide +kernel
theorem dL_law_933 : decode cL_law 933 = .ok (.iadd, 1) := by decide +kernel
theorem dL_law_934 : decode cL_law 934 = .ok (.iaload, 1) := by decide +kernel
theorem dL_law_935 : decode cL_law 935 = .ok (.invokevirtual 109, 3) := by decide +kernel
theorem dL_law_938 : decode cL_law 938 = .ok (.aload_n 2, 1) := by decide +kernel
theorem dL_law_939 : decode cL_law 939 = .ok (.aload_n 0, 1) := by decide +kernel
theorem dL_law_940 : decode cL_law 940 = .ok (.iload_n 3, 1) := by decide +kernel
theorem dL_law_941 : decode cL_law 941 = .ok (.iconst 1, 1) := by decide +kernel
theorem dL_law_942 : decode cL_law 942 = .ok (.iadd, 1) := by decide +kernel
theorem dL_law_943 : decode cL_law 943 = .ok (.iaload, 1) := by decide +kernel
theorem dL_law_944 : decode cL_law 944 = .ok (.aload_n 0, 1) := by decide +kernel
theorem dL_law_945 : decode cL_law 945 = .ok (.iload_n 3, 1) := by decide +kernel
theorem dL_law_946 : decode cL_law 946 = .ok (.iconst 2, 1) := by decide +kernel
theorem dL_law_947 : decode cL_law 947 = .ok (.iadd, 1) := by decide +kernel
theorem dL_law_948 : decode cL_law 948 = .ok (.iaload, 1) := by decide +kernel
theorem dL_law_949 : decode cL_law 949 = .ok (.invokevirtual 112, 3) := by decide +kernel
theorem dL_law_952 : decode cL_law 952 = .ok (.if_icmp .eq 196, 3) := by decide +kernel
set_option maxRecDepth 20000 in
set_option maxHeartbeats 4000000 in
theorem law_case_22 {E : xE} {p : Program} {l : Launch} {e : Env} {s : State} {m : MethodId} {below : List Frame} {meth : Method} {c : Code} {b : Nat} {xs : Nat → Int32} {x mm : Nat} {wx wm : va_W} (hS : LC E p s m meth c b 6 xs) (hx : FX E x wx) (hm : FM E mm wm) : LX E p l e s m below meth c b (wm ++ wx) 924 [(3, .int 0), (2, .ref mm), (1, .ref x), (0, .ref b)] [] := by
  have C := hS.1
  obtain ⟨gx, rx⟩ := hx.recv
  obtain ⟨gm, rm⟩ := hm.recv
  refine x_aload_n C dL_law_924 rfl 2 rfl rfl ?_
  refine x_aload_n C dL_law_925 rfl 3 rfl rfl ?_
  refine x_iload_n C dL_law_926 rfl 0 rfl rfl ?_
  refine x_iconst C (v := 1) dL_law_927 (by decide) rfl ?_
  refine x_iadd C (v := 1) dL_law_928 (by decide) rfl ?_
  refine x_sld C hS.2.1 hS.2.2.1 hS.2.2.2.1 1 (by decide) (by decide) (by decide) dL_law_929 rfl ?_
  refine x_aload_n C dL_law_930 rfl 3 rfl rfl ?_
  refine x_iload_n C dL_law_931 rfl 0 rfl rfl ?_
  refine x_iconst C (v := 2) dL_law_932 (by decide) rfl ?_
  refine x_iadd C (v := 2) dL_law_933 (by decide) rfl ?_
  refine x_sld C hS.2.1 hS.2.2.1 hS.2.2.2.1 2 (by decide) (by decide) (by decide) dL_law_934 rfl ?_
  refine x_vf C (As := [.int (xs 1), .int (xs 2)]) (rest := []) (W0 := wm) (wc := wx) (ft_latest E l hx (xs 1) (xs 2)) mf_X11_latest w_1046 rfl 0 rx rfl rfl rfl (Nat.le_of_ble_eq_true rfl) ⟨(Nat.le_of_ble_eq_true rfl), (Nat.le_of_ble_eq_true rfl)⟩ ⟨(Nat.le_of_ble_eq_true rfl), (Nat.le_of_ble_eq_true rfl)⟩ dL_law_935 rfl (fun r1 w2 h3 => ?_)
  refine x_aload_n C dL_law_938 rfl 1 rfl rfl ?_
  refine x_aload_n C dL_law_939 rfl 3 rfl rfl ?_
  refine x_iload_n C dL_law_940 rfl 0 rfl rfl ?_
  refine x_iconst C (v := 1) dL_law_941 (by decide) rfl ?_
  refine x_iadd C (v := 1) dL_law_942 (by decide) rfl ?_
  refine x_sld C hS.2.1 hS.2.2.1 hS.2.2.2.1 1 (by decide) (by decide) (by decide) dL_law_943 rfl ?_
  refine x_aload_n C dL_law_944 rfl 3 rfl rfl ?_
  refine x_iload_n C dL_law_945 rfl 0 rfl rfl ?_
  refine x_iconst C (v := 2) dL_law_946 (by decide) rfl ?_
  refine x_iadd C (v := 2) dL_law_947 (by decide) rfl ?_
  refine x_sld C hS.2.1 hS.2.2.1 hS.2.2.2.1 2 (by decide) (by decide) (by decide) dL_law_948 rfl ?_
  refine x_vi C (As := [.int (xs 1), .int (xs 2)]) (rest := [.int r1]) (fe_latest E l hm (xs 1) (xs 2)) mf_X12_latest w_1642 0 rm rfl rfl rfl (Nat.le_of_ble_eq_true rfl) ⟨(Nat.le_of_ble_eq_true rfl), (Nat.le_of_ble_eq_true rfl)⟩ ⟨(Nat.le_of_ble_eq_true rfl), (Nat.le_of_ble_eq_true rfl)⟩ dL_law_949 rfl (fun r4 w5 h6 => ?_)
  refine x_icmp_eq C (tgt := 1148) dL_law_952 (by decide) rfl (fun _ => ?_) (fun h => absurd (h3.trans h6.symm) h)
  exact law_back hS _
theorem dL_law_957 : decode cL_law 957 = .ok (.aload_n 1, 1) := by decide +kernel
theorem dL_law_958 : decode cL_law 958 = .ok (.aload_n 0, 1) := by decide +kernel
theorem dL_law_959 : decode cL_law 959 = .ok (.iload_n 3, 1) := by decide +kernel
theorem dL_law_960 : decode cL_law 960 = .ok (.iconst 1, 1) := by decide +kernel
theorem dL_law_961 : decode cL_law 961 = .ok (.iadd, 1) := by decide +kernel
theorem dL_law_962 : decode cL_law 962 = .ok (.iaload, 1) := by decide +kernel
theorem dL_law_963 : decode cL_law 963 = .ok (.aload_n 0, 1) := by decide +kernel
theorem dL_law_964 : decode cL_law 964 = .ok (.iload_n 3, 1) := by decide +kernel
theorem dL_law_965 : decode cL_law 965 = .ok (.iconst 2, 1) := by decide +kernel
theorem dL_law_966 : decode cL_law 966 = .ok (.iadd, 1) := by decide +kernel
theorem dL_law_967 : decode cL_law 967 = .ok (.iaload, 1) := by decide +kernel
theorem dL_law_968 : decode cL_law 968 = .ok (.invokevirtual 113, 3) := by decide +kernel
theorem dL_law_971 : decode cL_law 971 = .ok (.aload_n 2, 1) := by decide +kernel
theorem dL_law_972 : decode cL_law 972 = .ok (.aload_n 0, 1) := by decide +kernel
theorem dL_law_973 : decode cL_law 973 = .ok (.iload_n 3, 1) := by decide +kernel
theorem dL_law_974 : decode cL_law 974 = .ok (.iconst 1, 1) := by decide +kernel
theorem dL_law_975 : decode cL_law 975 = .ok (.iadd, 1) := by decide +kernel
theorem dL_law_976 : decode cL_law 976 = .ok (.iaload, 1) := by decide +kernel
theorem dL_law_977 : decode cL_law 977 = .ok (.aload_n 0, 1) := by decide +kernel
theorem dL_law_978 : decode cL_law 978 = .ok (.iload_n 3, 1) := by decide +kernel
theorem dL_law_979 : decode cL_law 979 = .ok (.iconst 2, 1) := by decide +kernel
theorem dL_law_980 : decode cL_law 980 = .ok (.iadd, 1) := by decide +kernel
theorem dL_law_981 : decode cL_law 981 = .ok (.iaload, 1) := by decide +kernel
theorem dL_law_982 : decode cL_law 982 = .ok (.invokevirtual 116, 3) := by decide +kernel
theorem dL_law_985 : decode cL_law 985 = .ok (.if_icmp .eq 163, 3) := by decide +kernel
set_option maxRecDepth 20000 in
set_option maxHeartbeats 4000000 in
theorem law_case_23 {E : xE} {p : Program} {l : Launch} {e : Env} {s : State} {m : MethodId} {below : List Frame} {meth : Method} {c : Code} {b : Nat} {xs : Nat → Int32} {x mm : Nat} {wx wm : va_W} (hS : LC E p s m meth c b 6 xs) (hx : FX E x wx) (hm : FM E mm wm) : LX E p l e s m below meth c b (wm ++ wx) 957 [(3, .int 0), (2, .ref mm), (1, .ref x), (0, .ref b)] [] := by
  have C := hS.1
  obtain ⟨gx, rx⟩ := hx.recv
  obtain ⟨gm, rm⟩ := hm.recv
  refine x_aload_n C dL_law_957 rfl 2 rfl rfl ?_
  refine x_aload_n C dL_law_958 rfl 3 rfl rfl ?_
  refine x_iload_n C dL_law_959 rfl 0 rfl rfl ?_
  refine x_iconst C (v := 1) dL_law_960 (by decide) rfl ?_
  refine x_iadd C (v := 1) dL_law_961 (by decide) rfl ?_
  refine x_sld C hS.2.1 hS.2.2.1 hS.2.2.2.1 1 (by decide) (by decide) (by decide) dL_law_962 rfl ?_
  refine x_aload_n C dL_law_963 rfl 3 rfl rfl ?_
  refine x_iload_n C dL_law_964 rfl 0 rfl rfl ?_
  refine x_iconst C (v := 2) dL_law_965 (by decide) rfl ?_
  refine x_iadd C (v := 2) dL_law_966 (by decide) rfl ?_
  refine x_sld C hS.2.1 hS.2.2.1 hS.2.2.2.1 2 (by decide) (by decide) (by decide) dL_law_967 rfl ?_
  refine x_vf C (As := [.int (xs 1), .int (xs 2)]) (rest := []) (W0 := wm) (wc := wx) (ft_soonest E l hx (xs 1) (xs 2)) mf_X11_soonest w_1050 rfl 0 rx rfl rfl rfl (Nat.le_of_ble_eq_true rfl) ⟨(Nat.le_of_ble_eq_true rfl), (Nat.le_of_ble_eq_true rfl)⟩ ⟨(Nat.le_of_ble_eq_true rfl), (Nat.le_of_ble_eq_true rfl)⟩ dL_law_968 rfl (fun r1 w2 h3 => ?_)
  refine x_aload_n C dL_law_971 rfl 1 rfl rfl ?_
  refine x_aload_n C dL_law_972 rfl 3 rfl rfl ?_
  refine x_iload_n C dL_law_973 rfl 0 rfl rfl ?_
  refine x_iconst C (v := 1) dL_law_974 (by decide) rfl ?_
  refine x_iadd C (v := 1) dL_law_975 (by decide) rfl ?_
  refine x_sld C hS.2.1 hS.2.2.1 hS.2.2.2.1 1 (by decide) (by decide) (by decide) dL_law_976 rfl ?_
  refine x_aload_n C dL_law_977 rfl 3 rfl rfl ?_
  refine x_iload_n C dL_law_978 rfl 0 rfl rfl ?_
  refine x_iconst C (v := 2) dL_law_979 (by decide) rfl ?_
  refine x_iadd C (v := 2) dL_law_980 (by decide) rfl ?_
  refine x_sld C hS.2.1 hS.2.2.1 hS.2.2.2.1 2 (by decide) (by decide) (by decide) dL_law_981 rfl ?_
  refine x_vi C (As := [.int (xs 1), .int (xs 2)]) (rest := [.int r1]) (fe_soonest E l hm (xs 1) (xs 2)) mf_X12_soonest w_1646 0 rm rfl rfl rfl (Nat.le_of_ble_eq_true rfl) ⟨(Nat.le_of_ble_eq_true rfl), (Nat.le_of_ble_eq_true rfl)⟩ ⟨(Nat.le_of_ble_eq_true rfl), (Nat.le_of_ble_eq_true rfl)⟩ dL_law_982 rfl (fun r4 w5 h6 => ?_)
  refine x_icmp_eq C (tgt := 1148) dL_law_985 (by decide) rfl (fun _ => ?_) (fun h => absurd (h3.trans h6.symm) h)
  exact law_back hS _
theorem dL_law_990 : decode cL_law 990 = .ok (.aload_n 1, 1) := by decide +kernel
theorem dL_law_991 : decode cL_law 991 = .ok (.aload_n 0, 1) := by decide +kernel
theorem dL_law_992 : decode cL_law 992 = .ok (.iload_n 3, 1) := by decide +kernel
theorem dL_law_993 : decode cL_law 993 = .ok (.iconst 1, 1) := by decide +kernel
theorem dL_law_994 : decode cL_law 994 = .ok (.iadd, 1) := by decide +kernel
theorem dL_law_995 : decode cL_law 995 = .ok (.iaload, 1) := by decide +kernel
theorem dL_law_996 : decode cL_law 996 = .ok (.aload_n 0, 1) := by decide +kernel
theorem dL_law_997 : decode cL_law 997 = .ok (.iload_n 3, 1) := by decide +kernel
theorem dL_law_998 : decode cL_law 998 = .ok (.iconst 2, 1) := by decide +kernel
theorem dL_law_999 : decode cL_law 999 = .ok (.iadd, 1) := by decide +kernel
theorem dL_law_1000 : decode cL_law 1000 = .ok (.iaload, 1) := by decide +kernel
theorem dL_law_1001 : decode cL_law 1001 = .ok (.aload_n 0, 1) := by decide +kernel
theorem dL_law_1002 : decode cL_law 1002 = .ok (.iload_n 3, 1) := by decide +kernel
theorem dL_law_1003 : decode cL_law 1003 = .ok (.iconst 3, 1) := by decide +kernel
theorem dL_law_1004 : decode cL_law 1004 = .ok (.iadd, 1) := by decide +kernel
theorem dL_law_1005 : decode cL_law 1005 = .ok (.iaload, 1) := by decide +kernel
theorem dL_law_1006 : decode cL_law 1006 = .ok (.aload_n 0, 1) := by decide +kernel
theorem dL_law_1007 : decode cL_law 1007 = .ok (.iload_n 3, 1) := by decide +kernel
theorem dL_law_1008 : decode cL_law 1008 = .ok (.iconst 4, 1) := by decide +kernel
theorem dL_law_1009 : decode cL_law 1009 = .ok (.iadd, 1) := by decide +kernel
theorem dL_law_1010 : decode cL_law 1010 = .ok (.iaload, 1) := by decide +kernel
theorem dL_law_1011 : decode cL_law 1011 = .ok (.aload_n 0, 1) := by decide +kernel
theorem dL_law_1012 : decode cL_law 1012 = .ok (.iload_n 3, 1) := by decide +kernel
theorem dL_law_1013 : decode cL_law 1013 = .ok (.iconst 5, 1) := by decide +kernel
theorem dL_law_1014 : decode cL_law 1014 = .ok (.iadd, 1) := by decide +kernel
theorem dL_law_1015 : decode cL_law 1015 = .ok (.iaload, 1) := by decide +kernel
theorem dL_law_1016 : decode cL_law 1016 = .ok (.invokevirtual 117, 3) := by decide +kernel
theorem dL_law_1019 : decode cL_law 1019 = .ok (.aload_n 2, 1) := by decide +kernel
theorem dL_law_1020 : decode cL_law 1020 = .ok (.aload_n 0, 1) := by decide +kernel
theorem dL_law_1021 : decode cL_law 1021 = .ok (.iload_n 3, 1) := by decide +kernel
theorem dL_law_1022 : decode cL_law 1022 = .ok (.iconst 1, 1) := by decide +kernel
theorem dL_law_1023 : decode cL_law 1023 = .ok (.iadd, 1) := by decide +kernel
theorem dL_law_1024 : decode cL_law 1024 = .ok (.iaload, 1) := by decide +kernel
theorem dL_law_1025 : decode cL_law 1025 = .ok (.aload_n 0, 1) := by decide +kernel
theorem dL_law_1026 : decode cL_law 1026 = .ok (.iload_n 3, 1) := by decide +kernel
theorem dL_law_1027 : decode cL_law 1027 = .ok (.iconst 2, 1) := by decide +kernel
theorem dL_law_1028 : decode cL_law 1028 = .ok (.iadd, 1) := by decide +kernel
theorem dL_law_1029 : decode cL_law 1029 = .ok (.iaload, 1) := by decide +kernel
theorem dL_law_1030 : decode cL_law 1030 = .ok (.aload_n 0, 1) := by decide +kernel
theorem dL_law_1031 : decode cL_law 1031 = .ok (.iload_n 3, 1) := by decide +kernel
theorem dL_law_1032 : decode cL_law 1032 = .ok (.iconst 3, 1) := by decide +kernel
theorem dL_law_1033 : decode cL_law 1033 = .ok (.iadd, 1) := by decide +kernel
theorem dL_law_1034 : decode cL_law 1034 = .ok (.iaload, 1) := by decide +kernel
theorem dL_law_1035 : decode cL_law 1035 = .ok (.aload_n 0, 1) := by decide +kernel
theorem dL_law_1036 : decode cL_law 1036 = .ok (.iload_n 3, 1) := by decide +kernel
theorem dL_law_1037 : decode cL_law 1037 = .ok (.iconst 4, 1) := by decide +kernel
theorem dL_law_1038 : decode cL_law 1038 = .ok (.iadd, 1) := by decide +kernel
theorem dL_law_1039 : decode cL_law 1039 = .ok (.iaload, 1) := by decide +kernel
theorem dL_law_1040 : decode cL_law 1040 = .ok (.aload_n 0, 1) := by decide +kernel
theorem dL_law_1041 : decode cL_law 1041 = .ok (.iload_n 3, 1) := by decide +kernel
theorem dL_law_1042 : decode cL_law 1042 = .ok (.iconst 5, 1) := by decide +kernel
theorem dL_law_1043 : decode cL_law 1043 = .ok (.iadd, 1) := by decide +kernel
theorem dL_law_1044 : decode cL_law 1044 = .ok (.iaload, 1) := by decide +kernel
theorem dL_law_1045 : decode cL_law 1045 = .ok (.invokevirtual 120, 3) := by decide +kernel
theorem dL_law_1048 : decode cL_law 1048 = .ok (.if_icmp .eq 100, 3) := by decide +kernel
set_option maxRecDepth 20000 in
set_option maxHeartbeats 4000000 in
theorem law_case_24 {E : xE} {p : Program} {l : Launch} {e : Env} {s : State} {m : MethodId} {below : List Frame} {meth : Method} {c : Code} {b : Nat} {xs : Nat → Int32} {x mm : Nat} {wx wm : va_W} (hS : LC E p s m meth c b 6 xs) (hx : FX E x wx) (hm : FM E mm wm) : LX E p l e s m below meth c b (wm ++ wx) 990 [(3, .int 0), (2, .ref mm), (1, .ref x), (0, .ref b)] [] := by
  have C := hS.1
  obtain ⟨gx, rx⟩ := hx.recv
  obtain ⟨gm, rm⟩ := hm.recv
  refine x_aload_n C dL_law_990 rfl 2 rfl rfl ?_
  refine x_aload_n C dL_law_991 rfl 3 rfl rfl ?_
  refine x_iload_n C dL_law_992 rfl 0 rfl rfl ?_
  refine x_iconst C (v := 1) dL_law_993 (by decide) rfl ?_
  refine x_iadd C (v := 1) dL_law_994 (by decide) rfl ?_
  refine x_sld C hS.2.1 hS.2.2.1 hS.2.2.2.1 1 (by decide) (by decide) (by decide) dL_law_995 rfl ?_
  refine x_aload_n C dL_law_996 rfl 3 rfl rfl ?_
  refine x_iload_n C dL_law_997 rfl 0 rfl rfl ?_
  refine x_iconst C (v := 2) dL_law_998 (by decide) rfl ?_
  refine x_iadd C (v := 2) dL_law_999 (by decide) rfl ?_
  refine x_sld C hS.2.1 hS.2.2.1 hS.2.2.2.1 2 (by decide) (by decide) (by decide) dL_law_1000 rfl ?_
  refine x_aload_n C dL_law_1001 rfl 3 rfl rfl ?_
  refine x_iload_n C dL_law_1002 rfl 0 rfl rfl ?_
  refine x_iconst C (v := 3) dL_law_1003 (by decide) rfl ?_
  refine x_iadd C (v := 3) dL_law_1004 (by decide) rfl ?_
  refine x_sld C hS.2.1 hS.2.2.1 hS.2.2.2.1 3 (by decide) (by decide) (by decide) dL_law_1005 rfl ?_
  refine x_aload_n C dL_law_1006 rfl 3 rfl rfl ?_
  refine x_iload_n C dL_law_1007 rfl 0 rfl rfl ?_
  refine x_iconst C (v := 4) dL_law_1008 (by decide) rfl ?_
  refine x_iadd C (v := 4) dL_law_1009 (by decide) rfl ?_
  refine x_sld C hS.2.1 hS.2.2.1 hS.2.2.2.1 4 (by decide) (by decide) (by decide) dL_law_1010 rfl ?_
  refine x_aload_n C dL_law_1011 rfl 3 rfl rfl ?_
  refine x_iload_n C dL_law_1012 rfl 0 rfl rfl ?_
  refine x_iconst C (v := 5) dL_law_1013 (by decide) rfl ?_
  refine x_iadd C (v := 5) dL_law_1014 (by decide) rfl ?_
  refine x_sld C hS.2.1 hS.2.2.1 hS.2.2.2.1 5 (by decide) (by decide) (by decide) dL_law_1015 rfl ?_
  refine x_vf C (As := [.int (xs 1), .int (xs 2), .int (xs 3), .int (xs 4), .int (xs 5)]) (rest := []) (W0 := wm) (wc := wx) (ft_barter E l hx (xs 1) (xs 2) (xs 3) (xs 4) (xs 5)) mf_X11_barter w_1070 rfl 0 rx rfl rfl rfl (Nat.le_of_ble_eq_true rfl) ⟨(Nat.le_of_ble_eq_true rfl), (Nat.le_of_ble_eq_true rfl)⟩ ⟨(Nat.le_of_ble_eq_true rfl), (Nat.le_of_ble_eq_true rfl)⟩ dL_law_1016 rfl (fun r1 w2 h3 => ?_)
  refine x_aload_n C dL_law_1019 rfl 1 rfl rfl ?_
  refine x_aload_n C dL_law_1020 rfl 3 rfl rfl ?_
  refine x_iload_n C dL_law_1021 rfl 0 rfl rfl ?_
  refine x_iconst C (v := 1) dL_law_1022 (by decide) rfl ?_
  refine x_iadd C (v := 1) dL_law_1023 (by decide) rfl ?_
  refine x_sld C hS.2.1 hS.2.2.1 hS.2.2.2.1 1 (by decide) (by decide) (by decide) dL_law_1024 rfl ?_
  refine x_aload_n C dL_law_1025 rfl 3 rfl rfl ?_
  refine x_iload_n C dL_law_1026 rfl 0 rfl rfl ?_
  refine x_iconst C (v := 2) dL_law_1027 (by decide) rfl ?_
  refine x_iadd C (v := 2) dL_law_1028 (by decide) rfl ?_
  refine x_sld C hS.2.1 hS.2.2.1 hS.2.2.2.1 2 (by decide) (by decide) (by decide) dL_law_1029 rfl ?_
  refine x_aload_n C dL_law_1030 rfl 3 rfl rfl ?_
  refine x_iload_n C dL_law_1031 rfl 0 rfl rfl ?_
  refine x_iconst C (v := 3) dL_law_1032 (by decide) rfl ?_
  refine x_iadd C (v := 3) dL_law_1033 (by decide) rfl ?_
  refine x_sld C hS.2.1 hS.2.2.1 hS.2.2.2.1 3 (by decide) (by decide) (by decide) dL_law_1034 rfl ?_
  refine x_aload_n C dL_law_1035 rfl 3 rfl rfl ?_
  refine x_iload_n C dL_law_1036 rfl 0 rfl rfl ?_
  refine x_iconst C (v := 4) dL_law_1037 (by decide) rfl ?_
  refine x_iadd C (v := 4) dL_law_1038 (by decide) rfl ?_
  refine x_sld C hS.2.1 hS.2.2.1 hS.2.2.2.1 4 (by decide) (by decide) (by decide) dL_law_1039 rfl ?_
  refine x_aload_n C dL_law_1040 rfl 3 rfl rfl ?_
  refine x_iload_n C dL_law_1041 rfl 0 rfl rfl ?_
  refine x_iconst C (v := 5) dL_law_1042 (by decide) rfl ?_
  refine x_iadd C (v := 5) dL_law_1043 (by decide) rfl ?_
  refine x_sld C hS.2.1 hS.2.2.1 hS.2.2.2.1 5 (by decide) (by decide) (by decide) dL_law_1044 rfl ?_
  refine x_vi C (As := [.int (xs 1), .int (xs 2), .int (xs 3), .int (xs 4), .int (xs 5)]) (rest := [.int r1]) (fe_barter E l hm (xs 1) (xs 2) (xs 3) (xs 4) (xs 5)) mf_X12_barter w_1658 0 rm rfl rfl rfl (Nat.le_of_ble_eq_true rfl) ⟨(Nat.le_of_ble_eq_true rfl), (Nat.le_of_ble_eq_true rfl)⟩ ⟨(Nat.le_of_ble_eq_true rfl), (Nat.le_of_ble_eq_true rfl)⟩ dL_law_1045 rfl (fun r4 w5 h6 => ?_)
  refine x_icmp_eq C (tgt := 1148) dL_law_1048 (by decide) rfl (fun _ => ?_) (fun h => absurd (h3.trans h6.symm) h)
  exact law_back hS _
theorem dL_law_1053 : decode cL_law 1053 = .ok (.aload_n 1, 1) := by decide +kernel
theorem dL_law_1054 : decode cL_law 1054 = .ok (.aload_n 0, 1) := by decide +kernel
theorem dL_law_1055 : decode cL_law 1055 = .ok (.iload_n 3, 1) := by decide +kernel
theorem dL_law_1056 : decode cL_law 1056 = .ok (.iconst 1, 1) := by decide +kernel
theorem dL_law_1057 : decode cL_law 1057 = .ok (.iadd, 1) := by decide +kernel
theorem dL_law_1058 : decode cL_law 1058 = .ok (.iaload, 1) := by decide +kernel
theorem dL_law_1059 : decode cL_law 1059 = .ok (.invokevirtual 121, 3) := by decide +kernel
theorem dL_law_1062 : decode cL_law 1062 = .ok (.aload_n 2, 1) := by decide +kernel
theorem dL_law_1063 : decode cL_law 1063 = .ok (.aload_n 0, 1) := by decide +kernel
theorem dL_law_1064 : decode cL_law 1064 = .ok (.iload_n 3, 1) := by decide +kernel
theorem dL_law_1065 : decode cL_law 1065 = .ok (.iconst 1, 1) := by decide +kernel
theorem dL_law_1066 : decode cL_law 1066 = .ok (.iadd, 1) := by decide +kernel
theorem dL_law_1067 : decode cL_law 1067 = .ok (.iaload, 1) := by decide +kernel
theorem dL_law_1068 : decode cL_law 1068 = .ok (.invokevirtual 124, 3) := by decide +kernel
theorem dL_law_1071 : decode cL_law 1071 = .ok (.if_icmp .eq 77, 3) := by decide +kernel
set_option maxRecDepth 20000 in
set_option maxHeartbeats 4000000 in
theorem law_case_25 {E : xE} {p : Program} {l : Launch} {e : Env} {s : State} {m : MethodId} {below : List Frame} {meth : Method} {c : Code} {b : Nat} {xs : Nat → Int32} {x mm : Nat} {wx wm : va_W} (hS : LC E p s m meth c b 6 xs) (hx : FX E x wx) (hm : FM E mm wm) : LX E p l e s m below meth c b (wm ++ wx) 1053 [(3, .int 0), (2, .ref mm), (1, .ref x), (0, .ref b)] [] := by
  have C := hS.1
  obtain ⟨gx, rx⟩ := hx.recv
  obtain ⟨gm, rm⟩ := hm.recv
  refine x_aload_n C dL_law_1053 rfl 2 rfl rfl ?_
  refine x_aload_n C dL_law_1054 rfl 3 rfl rfl ?_
  refine x_iload_n C dL_law_1055 rfl 0 rfl rfl ?_
  refine x_iconst C (v := 1) dL_law_1056 (by decide) rfl ?_
  refine x_iadd C (v := 1) dL_law_1057 (by decide) rfl ?_
  refine x_sld C hS.2.1 hS.2.2.1 hS.2.2.2.1 1 (by decide) (by decide) (by decide) dL_law_1058 rfl ?_
  refine x_vf C (As := [.int (xs 1)]) (rest := []) (W0 := wm) (wc := wx) (ft_seed E l hx (xs 1)) mf_X11_seed w_1081 rfl 0 rx rfl rfl rfl (Nat.le_of_ble_eq_true rfl) ⟨(Nat.le_of_ble_eq_true rfl), (Nat.le_of_ble_eq_true rfl)⟩ ⟨(Nat.le_of_ble_eq_true rfl), (Nat.le_of_ble_eq_true rfl)⟩ dL_law_1059 rfl (fun r1 w2 h3 => ?_)
  refine x_aload_n C dL_law_1062 rfl 1 rfl rfl ?_
  refine x_aload_n C dL_law_1063 rfl 3 rfl rfl ?_
  refine x_iload_n C dL_law_1064 rfl 0 rfl rfl ?_
  refine x_iconst C (v := 1) dL_law_1065 (by decide) rfl ?_
  refine x_iadd C (v := 1) dL_law_1066 (by decide) rfl ?_
  refine x_sld C hS.2.1 hS.2.2.1 hS.2.2.2.1 1 (by decide) (by decide) (by decide) dL_law_1067 rfl ?_
  refine x_vi C (As := [.int (xs 1)]) (rest := [.int r1]) (fe_seed E l hm (xs 1)) mf_X12_seed w_1665 0 rm rfl rfl rfl (Nat.le_of_ble_eq_true rfl) ⟨(Nat.le_of_ble_eq_true rfl), (Nat.le_of_ble_eq_true rfl)⟩ ⟨(Nat.le_of_ble_eq_true rfl), (Nat.le_of_ble_eq_true rfl)⟩ dL_law_1068 rfl (fun r4 w5 h6 => ?_)
  refine x_icmp_eq C (tgt := 1148) dL_law_1071 (by decide) rfl (fun _ => ?_) (fun h => absurd (h3.trans h6.symm) h)
  exact law_back hS _
theorem dL_law_1076 : decode cL_law 1076 = .ok (.aload_n 1, 1) := by decide +kernel
theorem dL_law_1077 : decode cL_law 1077 = .ok (.invokevirtual 125, 3) := by decide +kernel
theorem dL_law_1080 : decode cL_law 1080 = .ok (.aload_n 2, 1) := by decide +kernel
theorem dL_law_1081 : decode cL_law 1081 = .ok (.invokevirtual 128, 3) := by decide +kernel
theorem dL_law_1084 : decode cL_law 1084 = .ok (.if_icmp .eq 64, 3) := by decide +kernel
set_option maxRecDepth 20000 in
set_option maxHeartbeats 4000000 in
theorem law_case_26 {E : xE} {p : Program} {l : Launch} {e : Env} {s : State} {m : MethodId} {below : List Frame} {meth : Method} {c : Code} {b : Nat} {xs : Nat → Int32} {x mm : Nat} {wx wm : va_W} (hS : LC E p s m meth c b 6 xs) (hx : FX E x wx) (hm : FM E mm wm) : LX E p l e s m below meth c b (wm ++ wx) 1076 [(3, .int 0), (2, .ref mm), (1, .ref x), (0, .ref b)] [] := by
  have C := hS.1
  obtain ⟨gx, rx⟩ := hx.recv
  obtain ⟨gm, rm⟩ := hm.recv
  refine x_aload_n C dL_law_1076 rfl 2 rfl rfl ?_
  refine x_vf C (As := []) (rest := []) (W0 := wm) (wc := wx) (ft_keep E l hx) mf_X11_keep w_1086 rfl 0 rx rfl rfl rfl (Nat.le_of_ble_eq_true rfl) ⟨(Nat.le_of_ble_eq_true rfl), (Nat.le_of_ble_eq_true rfl)⟩ ⟨(Nat.le_of_ble_eq_true rfl), (Nat.le_of_ble_eq_true rfl)⟩ dL_law_1077 rfl (fun r1 w2 h3 => ?_)
  refine x_aload_n C dL_law_1080 rfl 1 rfl rfl ?_
  refine x_vi C (As := []) (rest := [.int r1]) (fe_keep E l hm) mf_X12_keep w_1670 0 rm rfl rfl rfl (Nat.le_of_ble_eq_true rfl) ⟨(Nat.le_of_ble_eq_true rfl), (Nat.le_of_ble_eq_true rfl)⟩ ⟨(Nat.le_of_ble_eq_true rfl), (Nat.le_of_ble_eq_true rfl)⟩ dL_law_1081 rfl (fun r4 w5 h6 => ?_)
  refine x_icmp_eq C (tgt := 1148) dL_law_1084 (by decide) rfl (fun _ => ?_) (fun h => absurd (h3.trans h6.symm) h)
  exact law_back hS _
theorem dL_law_1089 : decode cL_law 1089 = .ok (.aload_n 1, 1) := by decide +kernel
theorem dL_law_1090 : decode cL_law 1090 = .ok (.invokevirtual 129, 3) := by decide +kernel
theorem dL_law_1093 : decode cL_law 1093 = .ok (.aload_n 2, 1) := by decide +kernel
theorem dL_law_1094 : decode cL_law 1094 = .ok (.invokevirtual 133, 3) := by decide +kernel
theorem dL_law_1097 : decode cL_law 1097 = .ok (.if_icmp .eq 51, 3) := by decide +kernel
set_option maxRecDepth 20000 in
set_option maxHeartbeats 4000000 in
theorem law_case_27 {E : xE} {p : Program} {l : Launch} {e : Env} {s : State} {m : MethodId} {below : List Frame} {meth : Method} {c : Code} {b : Nat} {xs : Nat → Int32} {x mm : Nat} {wx wm : va_W} (hS : LC E p s m meth c b 6 xs) (hx : FX E x wx) (hm : FM E mm wm) : LX E p l e s m below meth c b (wm ++ wx) 1089 [(3, .int 0), (2, .ref mm), (1, .ref x), (0, .ref b)] [] := by
  have C := hS.1
  obtain ⟨gx, rx⟩ := hx.recv
  obtain ⟨gm, rm⟩ := hm.recv
  refine x_aload_n C dL_law_1089 rfl 2 rfl rfl ?_
  refine x_vf C (As := []) (rest := []) (W0 := wm) (wc := wx) (ft_undo E l hx) mf_X11_undo w_1095 rfl 0 rx rfl rfl rfl (Nat.le_of_ble_eq_true rfl) ⟨(Nat.le_of_ble_eq_true rfl), (Nat.le_of_ble_eq_true rfl)⟩ ⟨(Nat.le_of_ble_eq_true rfl), (Nat.le_of_ble_eq_true rfl)⟩ dL_law_1090 rfl (fun r1 w2 h3 => ?_)
  refine x_aload_n C dL_law_1093 rfl 1 rfl rfl ?_
  refine x_vi C (As := []) (rest := [.int r1]) (fe_undo E l hm) mf_X12_undo w_1674 0 rm rfl rfl rfl (Nat.le_of_ble_eq_true rfl) ⟨(Nat.le_of_ble_eq_true rfl), (Nat.le_of_ble_eq_true rfl)⟩ ⟨(Nat.le_of_ble_eq_true rfl), (Nat.le_of_ble_eq_true rfl)⟩ dL_law_1094 rfl (fun r4 w5 h6 => ?_)
  refine x_icmp_eq C (tgt := 1148) dL_law_1097 (by decide) rfl (fun _ => ?_) (fun h => absurd (h3.trans h6.symm) h)
  exact law_back hS _
theorem dL_law_1102 : decode cL_law 1102 = .ok (.aload_n 1, 1) := by decide +kernel
theorem dL_law_1103 : decode cL_law 1103 = .ok (.aload_n 0, 1) := by decide +kernel
theorem dL_law_1104 : decode cL_law 1104 = .ok (.iload_n 3, 1) := by decide +kernel
theorem dL_law_1105 : decode cL_law 1105 = .ok (.iconst 1, 1) := by decide +kernel
theorem dL_law_1106 : decode cL_law 1106 = .ok (.iadd, 1) := by decide +kernel
theorem dL_law_1107 : decode cL_law 1107 = .ok (.iaload, 1) := by decide +kernel
theorem dL_law_1108 : decode cL_law 1108 = .ok (.invokevirtual 134, 3) := by decide +kernel
theorem dL_law_1111 : decode cL_law 1111 = .ok (.aload_n 2, 1) := by decide +kernel
theorem dL_law_1112 : decode cL_law 1112 = .ok (.aload_n 0, 1) := by decide +kernel
theorem dL_law_1113 : decode cL_law 1113 = .ok (.iload_n 3, 1) := by decide +kernel
theorem dL_law_1114 : decode cL_law 1114 = .ok (.iconst 1, 1) := by decide +kernel
theorem dL_law_1115 : decode cL_law 1115 = .ok (.iadd, 1) := by decide +kernel
theorem dL_law_1116 : decode cL_law 1116 = .ok (.iaload, 1) := by decide +kernel
theorem dL_law_1117 : decode cL_law 1117 = .ok (.invokevirtual 137, 3) := by decide +kernel
theorem dL_law_1120 : decode cL_law 1120 = .ok (.if_icmp .eq 28, 3) := by decide +kernel
set_option maxRecDepth 20000 in
set_option maxHeartbeats 4000000 in
theorem law_case_28 {E : xE} {p : Program} {l : Launch} {e : Env} {s : State} {m : MethodId} {below : List Frame} {meth : Method} {c : Code} {b : Nat} {xs : Nat → Int32} {x mm : Nat} {wx wm : va_W} (hS : LC E p s m meth c b 6 xs) (hx : FX E x wx) (hm : FM E mm wm) : LX E p l e s m below meth c b (wm ++ wx) 1102 [(3, .int 0), (2, .ref mm), (1, .ref x), (0, .ref b)] [] := by
  have C := hS.1
  obtain ⟨gx, rx⟩ := hx.recv
  obtain ⟨gm, rm⟩ := hm.recv
  refine x_aload_n C dL_law_1102 rfl 2 rfl rfl ?_
  refine x_aload_n C dL_law_1103 rfl 3 rfl rfl ?_
  refine x_iload_n C dL_law_1104 rfl 0 rfl rfl ?_
  refine x_iconst C (v := 1) dL_law_1105 (by decide) rfl ?_
  refine x_iadd C (v := 1) dL_law_1106 (by decide) rfl ?_
  refine x_sld C hS.2.1 hS.2.2.1 hS.2.2.2.1 1 (by decide) (by decide) (by decide) dL_law_1107 rfl ?_
  refine x_vf C (As := [.int (xs 1)]) (rest := []) (W0 := wm) (wc := wx) (ft_check E l hx (xs 1)) mf_X11_check w_1099 rfl 0 rx rfl rfl rfl (Nat.le_of_ble_eq_true rfl) ⟨(Nat.le_of_ble_eq_true rfl), (Nat.le_of_ble_eq_true rfl)⟩ ⟨(Nat.le_of_ble_eq_true rfl), (Nat.le_of_ble_eq_true rfl)⟩ dL_law_1108 rfl (fun r1 w2 h3 => ?_)
  refine x_aload_n C dL_law_1111 rfl 1 rfl rfl ?_
  refine x_aload_n C dL_law_1112 rfl 3 rfl rfl ?_
  refine x_iload_n C dL_law_1113 rfl 0 rfl rfl ?_
  refine x_iconst C (v := 1) dL_law_1114 (by decide) rfl ?_
  refine x_iadd C (v := 1) dL_law_1115 (by decide) rfl ?_
  refine x_sld C hS.2.1 hS.2.2.1 hS.2.2.2.1 1 (by decide) (by decide) (by decide) dL_law_1116 rfl ?_
  refine x_vi C (As := [.int (xs 1)]) (rest := [.int r1]) (fe_check E l hm (xs 1)) mf_X12_check w_1678 0 rm rfl rfl rfl (Nat.le_of_ble_eq_true rfl) ⟨(Nat.le_of_ble_eq_true rfl), (Nat.le_of_ble_eq_true rfl)⟩ ⟨(Nat.le_of_ble_eq_true rfl), (Nat.le_of_ble_eq_true rfl)⟩ dL_law_1117 rfl (fun r4 w5 h6 => ?_)
  refine x_icmp_eq C (tgt := 1148) dL_law_1120 (by decide) rfl (fun _ => ?_) (fun h => absurd (h3.trans h6.symm) h)
  exact law_back hS _
theorem dL_law_1125 : decode cL_law 1125 = .ok (.aload_n 1, 1) := by decide +kernel
theorem dL_law_1126 : decode cL_law 1126 = .ok (.aload_n 0, 1) := by decide +kernel
theorem dL_law_1127 : decode cL_law 1127 = .ok (.iload_n 3, 1) := by decide +kernel
theorem dL_law_1128 : decode cL_law 1128 = .ok (.iconst 1, 1) := by decide +kernel
theorem dL_law_1129 : decode cL_law 1129 = .ok (.iadd, 1) := by decide +kernel
theorem dL_law_1130 : decode cL_law 1130 = .ok (.iaload, 1) := by decide +kernel
theorem dL_law_1131 : decode cL_law 1131 = .ok (.invokevirtual 138, 3) := by decide +kernel
theorem dL_law_1134 : decode cL_law 1134 = .ok (.aload_n 2, 1) := by decide +kernel
theorem dL_law_1135 : decode cL_law 1135 = .ok (.aload_n 0, 1) := by decide +kernel
theorem dL_law_1136 : decode cL_law 1136 = .ok (.iload_n 3, 1) := by decide +kernel
theorem dL_law_1137 : decode cL_law 1137 = .ok (.iconst 1, 1) := by decide +kernel
theorem dL_law_1138 : decode cL_law 1138 = .ok (.iadd, 1) := by decide +kernel
theorem dL_law_1139 : decode cL_law 1139 = .ok (.iaload, 1) := by decide +kernel
theorem dL_law_1140 : decode cL_law 1140 = .ok (.invokevirtual 141, 3) := by decide +kernel
theorem dL_law_1143 : decode cL_law 1143 = .ok (.if_icmp .eq 5, 3) := by decide +kernel
set_option maxRecDepth 20000 in
set_option maxHeartbeats 4000000 in
theorem law_case_29 {E : xE} {p : Program} {l : Launch} {e : Env} {s : State} {m : MethodId} {below : List Frame} {meth : Method} {c : Code} {b : Nat} {xs : Nat → Int32} {x mm : Nat} {wx wm : va_W} (hS : LC E p s m meth c b 6 xs) (hx : FX E x wx) (hm : FM E mm wm) : LX E p l e s m below meth c b (wm ++ wx) 1125 [(3, .int 0), (2, .ref mm), (1, .ref x), (0, .ref b)] [] := by
  have C := hS.1
  obtain ⟨gx, rx⟩ := hx.recv
  obtain ⟨gm, rm⟩ := hm.recv
  refine x_aload_n C dL_law_1125 rfl 2 rfl rfl ?_
  refine x_aload_n C dL_law_1126 rfl 3 rfl rfl ?_
  refine x_iload_n C dL_law_1127 rfl 0 rfl rfl ?_
  refine x_iconst C (v := 1) dL_law_1128 (by decide) rfl ?_
  refine x_iadd C (v := 1) dL_law_1129 (by decide) rfl ?_
  refine x_sld C hS.2.1 hS.2.2.1 hS.2.2.2.1 1 (by decide) (by decide) (by decide) dL_law_1130 rfl ?_
  refine x_vf C (As := [.int (xs 1)]) (rest := []) (W0 := wm) (wc := wx) (ft_count E l hx (xs 1)) mf_X11_count w_1108 rfl 0 rx rfl rfl rfl (Nat.le_of_ble_eq_true rfl) ⟨(Nat.le_of_ble_eq_true rfl), (Nat.le_of_ble_eq_true rfl)⟩ ⟨(Nat.le_of_ble_eq_true rfl), (Nat.le_of_ble_eq_true rfl)⟩ dL_law_1131 rfl (fun r1 w2 h3 => ?_)
  refine x_aload_n C dL_law_1134 rfl 1 rfl rfl ?_
  refine x_aload_n C dL_law_1135 rfl 3 rfl rfl ?_
  refine x_iload_n C dL_law_1136 rfl 0 rfl rfl ?_
  refine x_iconst C (v := 1) dL_law_1137 (by decide) rfl ?_
  refine x_iadd C (v := 1) dL_law_1138 (by decide) rfl ?_
  refine x_sld C hS.2.1 hS.2.2.1 hS.2.2.2.1 1 (by decide) (by decide) (by decide) dL_law_1139 rfl ?_
  refine x_vi C (As := [.int (xs 1)]) (rest := [.int r1]) (fe_count E l hm (xs 1)) mf_X12_count w_1686 0 rm rfl rfl rfl (Nat.le_of_ble_eq_true rfl) ⟨(Nat.le_of_ble_eq_true rfl), (Nat.le_of_ble_eq_true rfl)⟩ ⟨(Nat.le_of_ble_eq_true rfl), (Nat.le_of_ble_eq_true rfl)⟩ dL_law_1140 rfl (fun r4 w5 h6 => ?_)
  refine x_icmp_eq C (tgt := 1148) dL_law_1143 (by decide) rfl (fun _ => ?_) (fun h => absurd (h3.trans h6.symm) h)
  exact law_back hS _
theorem dL_law_27 : decode cL_law 27 = .ok (.aload_n 0, 1) := by decide +kernel
theorem dL_law_28 : decode cL_law 28 = .ok (.iload_n 3, 1) := by decide +kernel
theorem dL_law_29 : decode cL_law 29 = .ok (.iaload, 1) := by decide +kernel
theorem dL_law_30 : decode cL_law 30 = .ok (.bipush 31, 2) := by decide +kernel
theorem dL_law_32 : decode cL_law 32 = .ok (.iand, 1) := by decide +kernel
theorem dL_law_33 : decode cL_law 33 = .ok (.tableswitch 1115 0 29 #[135, 158, 201, 224, 277, 290, 353, 376, 399, 422, 445, 478, 511, 544, 577, 620, 663, 706, 749, 782, 825, 848, 891, 924, 957, 1020, 1043, 1056, 1069, 1092], 135) := by decide +kernel
