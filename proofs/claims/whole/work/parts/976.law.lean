/-! ===== the law: a call on both sides ===== -/
abbrev zL_law : xY := (x, cL_law, 4, ret)
theorem VLD.mk2 {V V2 : xV} {rc B : Nat} {t t2 : xX} {W W2 : xW} {A A2 : List Nat} {o : Option xV} (v : VLD V rc t W A o B) (s : SOKV V2 (B + 60) rc) (hx : XOK t2) (w : TOK W2) (a : A2.length ≤ 20) : VLD V2 rc t2 W2 A2 o (B + 60) := ⟨s, hx, w, a, fun U hU => (v.2.2.2.2 U hU).mono (by omega)⟩
theorem VLD.sc {V V2 : xV} {rc B : Nat} {t : xX} {W : xW} {A : List Nat} {o : Option xV} (v : VLD V rc t W A o B) (s : SOKV V2 (B + 60) rc) : VLD V2 rc t W A o (B + 60) := v.mk2 s v.2.1 v.2.2.1 v.2.2.2.1
theorem VLD.up {V : xV} {rc B : Nat} {t : xX} {W : xW} {A : List Nat} {o : Option xV} (v : VLD V rc t W A o B) : VLD V rc t W A o (B + 60) := v.sc (v.1.mono (by omega))
theorem XOK.e0 {f : Nat → Nat} : XOK (0, f) := ⟨by show 0 ≤ 100; decide, fun i hi => absurd hi (Nat.not_lt_zero i)⟩
/-- the law goes on -/
abbrev xGO (T : xT) (CM SM : Nat) (P : xPost) (n : Nat) (sh : Nat → Nat × Nat) (ca sa i : Nat) (B : Nat) : Prop := ∀ (I : xI) (R : xR) (L : xL) (V : xV) (rc : Nat) (ars : Nat → xAR) (t : xX) (W : xW) (A : List Nat) (o : Option xV), CST sh I R L V rc ars t W A o → MST I L V rc ars t W A o → VLD V rc t W A o (B + 60) → X T zL_law 30 CM SM P 1134 [(0, .ref 1000000), (1, .ref 0), (2, .ref 137), (3, .int (nI i))] [] (n, sh, ca, sa) I R L
theorem lg_same (a : Int64) : lg_cmp a a = 0 := (lg_cmp_eq _ _).mpr rfl

set_option maxHeartbeats 4000000 in
set_option maxRecDepth 100000 in
theorem lc_beast {T : xT} {n CM SM ca sa i B : Nat} {sh : Nat → Nat × Nat} {I : xI} {R : xR} {L : xL} {P : xPost} {V : xV} {rc : Nat} {ars : Nat → xAR} {t : xX} {W : xW} {A : List Nat} {o : Option xV} (hc : ca ≤ CM ∧ sa ≤ SM) (hT : T.1 ≤ 3072) (hi : i + 6 ≤ T.1) (h : CST sh I R L V rc ars t W A o) (m : MST I L V rc ars t W A o) (v : VLD V rc t W A o B) (hB : B < 800000) (K : xGO T CM SM P n sh ca sa i B) : X T zL_law 30 CM SM P 172 [(0, .ref 1000000), (1, .ref 0), (2, .ref 137), (3, .int (nI i))] [] (n, sh, ca, sa) I R L := by
  refine x_aload_n (pc := 172) dL_law_172 rfl rfl ?_
  refine x_aload_n (pc := 173) dL_law_173 rfl rfl ?_
  refine x_iload_n (pc := 174) dL_law_174 rfl rfl ?_
  refine x_iconst (pc := 175) (v := 1) dL_law_175 (by decide) ?_
  refine x_iaddn (pc := 176) (a := i) (b := 1) dL_law_176 ?_
  refine x_sld (pc := 177) ?_ dL_law_177 ?_
  · exact vp_in_nI (by omega) (by omega)
  refine x_aload_n (pc := 178) dL_law_178 rfl rfl ?_
  refine x_iload_n (pc := 179) dL_law_179 rfl rfl ?_
  refine x_iconst (pc := 180) (v := 2) dL_law_180 (by decide) ?_
  refine x_iaddn (pc := 181) (a := i) (b := 2) dL_law_181 ?_
  refine x_sld (pc := 182) ?_ dL_law_182 ?_
  · exact vp_in_nI (by omega) (by omega)
  refine x_aload_n (pc := 183) dL_law_183 rfl rfl ?_
  refine x_iload_n (pc := 184) dL_law_184 rfl rfl ?_
  refine x_iconst (pc := 185) (v := 3) dL_law_185 (by decide) ?_
  refine x_iaddn (pc := 186) (a := i) (b := 3) dL_law_186 ?_
  refine x_sld (pc := 187) ?_ dL_law_187 ?_
  · exact vp_in_nI (by omega) (by omega)
  refine x_aload_n (pc := 188) dL_law_188 rfl rfl ?_
  refine x_iload_n (pc := 189) dL_law_189 rfl rfl ?_
  refine x_iconst (pc := 190) (v := 4) dL_law_190 (by decide) ?_
  refine x_iaddn (pc := 191) (a := i) (b := 4) dL_law_191 ?_
  refine x_sld (pc := 192) ?_ dL_law_192 ?_
  · exact vp_in_nI (by omega) (by omega)
  refine x_callV (pc := 193) (As := [.int _, .int _, .int _, .int _]) dL_law_193 km_X9_beast kv_X9_beast kl_RL_13 h.1.g_x rfl rfl (by decide) hc rfl (Nat.le_of_ble_eq_true rfl) (Nat.le_of_ble_eq_true rfl) (C_beast h v hB (fun I2 R2 L2 h2 f2 => ⟨rfl, rfl, ?_⟩))
  have m2 := m.high f2.1 f2.2
  refine x_aload_n (pc := 196) dL_law_196 rfl rfl ?_
  refine x_aload_n (pc := 197) dL_law_197 rfl rfl ?_
  refine x_iload_n (pc := 198) dL_law_198 rfl rfl ?_
  refine x_iconst (pc := 199) (v := 1) dL_law_199 (by decide) ?_
  refine x_iaddn (pc := 200) (a := i) (b := 1) dL_law_200 ?_
  refine x_sld (pc := 201) ?_ dL_law_201 ?_
  · exact vp_in_nI (by omega) (by omega)
  refine x_aload_n (pc := 202) dL_law_202 rfl rfl ?_
  refine x_iload_n (pc := 203) dL_law_203 rfl rfl ?_
  refine x_iconst (pc := 204) (v := 2) dL_law_204 (by decide) ?_
  refine x_iaddn (pc := 205) (a := i) (b := 2) dL_law_205 ?_
  refine x_sld (pc := 206) ?_ dL_law_206 ?_
  · exact vp_in_nI (by omega) (by omega)
  refine x_aload_n (pc := 207) dL_law_207 rfl rfl ?_
  refine x_iload_n (pc := 208) dL_law_208 rfl rfl ?_
  refine x_iconst (pc := 209) (v := 3) dL_law_209 (by decide) ?_
  refine x_iaddn (pc := 210) (a := i) (b := 3) dL_law_210 ?_
  refine x_sld (pc := 211) ?_ dL_law_211 ?_
  · exact vp_in_nI (by omega) (by omega)
  refine x_aload_n (pc := 212) dL_law_212 rfl rfl ?_
  refine x_iload_n (pc := 213) dL_law_213 rfl rfl ?_
  refine x_iconst (pc := 214) (v := 4) dL_law_214 (by decide) ?_
  refine x_iaddn (pc := 215) (a := i) (b := 4) dL_law_215 ?_
  refine x_sld (pc := 216) ?_ dL_law_216 ?_
  · exact vp_in_nI (by omega) (by omega)
  refine x_callV (pc := 217) (As := [.int _, .int _, .int _, .int _]) dL_law_217 km_X10_beast kv_X10_beast kl_RL_17 h.1.g_M.s rfl rfl (by decide) hc rfl (Nat.le_of_ble_eq_true rfl) (Nat.le_of_ble_eq_true rfl) (D_beast h2.1.g_M m2 v hB (fun I3 L3 m3 f3 => ⟨rfl, rfl, ?_⟩))
  have h3 := h2.low f3.1 f3.2
  refine x_icmp_eq_t (pc := 220) (tgt := 1134) dL_law_220 (by decide) (rfl) ?_
  exact K _ _ _ _ _ _ _ _ _ _ h3 m3 (v.sc (v.1.beast.mono (by omega)))

set_option maxHeartbeats 4000000 in
set_option maxRecDepth 100000 in
theorem lc_of {T : xT} {n CM SM ca sa i B : Nat} {sh : Nat → Nat × Nat} {I : xI} {R : xR} {L : xL} {P : xPost} {V : xV} {rc : Nat} {ars : Nat → xAR} {t : xX} {W : xW} {A : List Nat} {o : Option xV} (hc : ca ≤ CM ∧ sa ≤ SM) (hT : T.1 ≤ 3072) (hi : i + 6 ≤ T.1) (h : CST sh I R L V rc ars t W A o) (m : MST I L V rc ars t W A o) (v : VLD V rc t W A o B) (hB : B < 800000) (K : xGO T CM SM P n sh ca sa i B) : X T zL_law 30 CM SM P 225 [(0, .ref 1000000), (1, .ref 0), (2, .ref 137), (3, .int (nI i))] [] (n, sh, ca, sa) I R L := by
  refine x_aload_n (pc := 225) dL_law_225 rfl rfl ?_
  refine x_aload_n (pc := 226) dL_law_226 rfl rfl ?_
  refine x_iload_n (pc := 227) dL_law_227 rfl rfl ?_
  refine x_iconst (pc := 228) (v := 1) dL_law_228 (by decide) ?_
  refine x_iaddn (pc := 229) (a := i) (b := 1) dL_law_229 ?_
  refine x_sld (pc := 230) ?_ dL_law_230 ?_
  · exact vp_in_nI (by omega) (by omega)
  refine x_aload_n (pc := 231) dL_law_231 rfl rfl ?_
  refine x_iload_n (pc := 232) dL_law_232 rfl rfl ?_
  refine x_iconst (pc := 233) (v := 2) dL_law_233 (by decide) ?_
  refine x_iaddn (pc := 234) (a := i) (b := 2) dL_law_234 ?_
  refine x_sld (pc := 235) ?_ dL_law_235 ?_
  · exact vp_in_nI (by omega) (by omega)
  refine x_callV (pc := 236) (As := [.int _, .int _]) dL_law_236 km_X9_of kv_X9_of kl_RL_18 h.1.g_x rfl rfl (by decide) hc rfl (Nat.le_of_ble_eq_true rfl) (Nat.le_of_ble_eq_true rfl) (C_of h v hB (fun I2 R2 L2 h2 f2 => ⟨rfl, rfl, ?_⟩))
  have m2 := m.high f2.1 f2.2
  refine x_aload_n (pc := 239) dL_law_239 rfl rfl ?_
  refine x_aload_n (pc := 240) dL_law_240 rfl rfl ?_
  refine x_iload_n (pc := 241) dL_law_241 rfl rfl ?_
  refine x_iconst (pc := 242) (v := 1) dL_law_242 (by decide) ?_
  refine x_iaddn (pc := 243) (a := i) (b := 1) dL_law_243 ?_
  refine x_sld (pc := 244) ?_ dL_law_244 ?_
  · exact vp_in_nI (by omega) (by omega)
  refine x_aload_n (pc := 245) dL_law_245 rfl rfl ?_
  refine x_iload_n (pc := 246) dL_law_246 rfl rfl ?_
  refine x_iconst (pc := 247) (v := 2) dL_law_247 (by decide) ?_
  refine x_iaddn (pc := 248) (a := i) (b := 2) dL_law_248 ?_
  refine x_sld (pc := 249) ?_ dL_law_249 ?_
  · exact vp_in_nI (by omega) (by omega)
  refine x_callV (pc := 250) (As := [.int _, .int _]) dL_law_250 km_X10_of kv_X10_of kl_RL_22 h.1.g_M.s rfl rfl (by decide) hc rfl (Nat.le_of_ble_eq_true rfl) (Nat.le_of_ble_eq_true rfl) (D_of h2.1.g_M m2 v hB (fun I3 L3 m3 f3 => ⟨rfl, rfl, ?_⟩))
  have h3 := h2.low f3.1 f3.2
  refine x_icmp_eq_t (pc := 253) (tgt := 1134) dL_law_253 (by decide) (rfl) ?_
  exact K _ _ _ _ _ _ _ _ _ _ h3 m3 (v.up)

set_option maxHeartbeats 4000000 in
set_option maxRecDepth 100000 in
theorem lc_set {T : xT} {n CM SM ca sa i B : Nat} {sh : Nat → Nat × Nat} {I : xI} {R : xR} {L : xL} {P : xPost} {V : xV} {rc : Nat} {ars : Nat → xAR} {t : xX} {W : xW} {A : List Nat} {o : Option xV} (hc : ca ≤ CM ∧ sa ≤ SM) (hT : T.1 ≤ 3072) (hi : i + 6 ≤ T.1) (h : CST sh I R L V rc ars t W A o) (m : MST I L V rc ars t W A o) (v : VLD V rc t W A o B) (hB : B < 800000) (K : xGO T CM SM P n sh ca sa i B) : X T zL_law 30 CM SM P 258 [(0, .ref 1000000), (1, .ref 0), (2, .ref 137), (3, .int (nI i))] [] (n, sh, ca, sa) I R L := by
  refine x_aload_n (pc := 258) dL_law_258 rfl rfl ?_
  refine x_aload_n (pc := 259) dL_law_259 rfl rfl ?_
  refine x_iload_n (pc := 260) dL_law_260 rfl rfl ?_
  refine x_iconst (pc := 261) (v := 1) dL_law_261 (by decide) ?_
  refine x_iaddn (pc := 262) (a := i) (b := 1) dL_law_262 ?_
  refine x_sld (pc := 263) ?_ dL_law_263 ?_
  · exact vp_in_nI (by omega) (by omega)
  refine x_aload_n (pc := 264) dL_law_264 rfl rfl ?_
  refine x_iload_n (pc := 265) dL_law_265 rfl rfl ?_
  refine x_iconst (pc := 266) (v := 2) dL_law_266 (by decide) ?_
  refine x_iaddn (pc := 267) (a := i) (b := 2) dL_law_267 ?_
  refine x_sld (pc := 268) ?_ dL_law_268 ?_
  · exact vp_in_nI (by omega) (by omega)
  refine x_aload_n (pc := 269) dL_law_269 rfl rfl ?_
  refine x_iload_n (pc := 270) dL_law_270 rfl rfl ?_
  refine x_iconst (pc := 271) (v := 3) dL_law_271 (by decide) ?_
  refine x_iaddn (pc := 272) (a := i) (b := 3) dL_law_272 ?_
  refine x_sld (pc := 273) ?_ dL_law_273 ?_
  · exact vp_in_nI (by omega) (by omega)
  refine x_callV (pc := 274) (As := [.int _, .int _, .int _]) dL_law_274 km_X9_set kv_X9_set kl_RL_23 h.1.g_x rfl rfl (by decide) hc rfl (Nat.le_of_ble_eq_true rfl) (Nat.le_of_ble_eq_true rfl) (C_set h v hB (fun I2 R2 L2 h2 f2 => ⟨rfl, rfl, ?_⟩))
  have m2 := m.high f2.1 f2.2
  refine x_aload_n (pc := 277) dL_law_277 rfl rfl ?_
  refine x_aload_n (pc := 278) dL_law_278 rfl rfl ?_
  refine x_iload_n (pc := 279) dL_law_279 rfl rfl ?_
  refine x_iconst (pc := 280) (v := 1) dL_law_280 (by decide) ?_
  refine x_iaddn (pc := 281) (a := i) (b := 1) dL_law_281 ?_
  refine x_sld (pc := 282) ?_ dL_law_282 ?_
  · exact vp_in_nI (by omega) (by omega)
  refine x_aload_n (pc := 283) dL_law_283 rfl rfl ?_
  refine x_iload_n (pc := 284) dL_law_284 rfl rfl ?_
  refine x_iconst (pc := 285) (v := 2) dL_law_285 (by decide) ?_
  refine x_iaddn (pc := 286) (a := i) (b := 2) dL_law_286 ?_
  refine x_sld (pc := 287) ?_ dL_law_287 ?_
  · exact vp_in_nI (by omega) (by omega)
  refine x_aload_n (pc := 288) dL_law_288 rfl rfl ?_
  refine x_iload_n (pc := 289) dL_law_289 rfl rfl ?_
  refine x_iconst (pc := 290) (v := 3) dL_law_290 (by decide) ?_
  refine x_iaddn (pc := 291) (a := i) (b := 3) dL_law_291 ?_
  refine x_sld (pc := 292) ?_ dL_law_292 ?_
  · exact vp_in_nI (by omega) (by omega)
  refine x_callV (pc := 293) (As := [.int _, .int _, .int _]) dL_law_293 km_X10_set kv_X10_set kl_RL_27 h.1.g_M.s rfl rfl (by decide) hc rfl (Nat.le_of_ble_eq_true rfl) (Nat.le_of_ble_eq_true rfl) (D_set h2.1.g_M m2 v hB (fun I3 L3 m3 f3 => ⟨rfl, rfl, ?_⟩))
  have h3 := h2.low f3.1 f3.2
  refine x_icmp_eq_t (pc := 296) (tgt := 1134) dL_law_296 (by decide) (rfl) ?_
  exact K _ _ _ _ _ _ _ _ _ _ h3 m3 (v.sc (v.1.set.mono (by omega)))

set_option maxHeartbeats 4000000 in
set_option maxRecDepth 100000 in
theorem lc_enemies {T : xT} {n CM SM ca sa i B : Nat} {sh : Nat → Nat × Nat} {I : xI} {R : xR} {L : xL} {P : xPost} {V : xV} {rc : Nat} {ars : Nat → xAR} {t : xX} {W : xW} {A : List Nat} {o : Option xV} (hc : ca ≤ CM ∧ sa ≤ SM) (hT : T.1 ≤ 3072) (hi : i + 6 ≤ T.1) (h : CST sh I R L V rc ars t W A o) (m : MST I L V rc ars t W A o) (v : VLD V rc t W A o B) (hB : B < 800000) (K : xGO T CM SM P n sh ca sa i B) : X T zL_law 30 CM SM P 301 [(0, .ref 1000000), (1, .ref 0), (2, .ref 137), (3, .int (nI i))] [] (n, sh, ca, sa) I R L := by
  refine x_aload_n (pc := 301) dL_law_301 rfl rfl ?_
  refine x_aload_n (pc := 302) dL_law_302 rfl rfl ?_
  refine x_iload_n (pc := 303) dL_law_303 rfl rfl ?_
  refine x_iconst (pc := 304) (v := 1) dL_law_304 (by decide) ?_
  refine x_iaddn (pc := 305) (a := i) (b := 1) dL_law_305 ?_
  refine x_sld (pc := 306) ?_ dL_law_306 ?_
  · exact vp_in_nI (by omega) (by omega)
  refine x_aload_n (pc := 307) dL_law_307 rfl rfl ?_
  refine x_iload_n (pc := 308) dL_law_308 rfl rfl ?_
  refine x_iconst (pc := 309) (v := 2) dL_law_309 (by decide) ?_
  refine x_iaddn (pc := 310) (a := i) (b := 2) dL_law_310 ?_
  refine x_sld (pc := 311) ?_ dL_law_311 ?_
  · exact vp_in_nI (by omega) (by omega)
  refine x_aload_n (pc := 312) dL_law_312 rfl rfl ?_
  refine x_iload_n (pc := 313) dL_law_313 rfl rfl ?_
  refine x_iconst (pc := 314) (v := 3) dL_law_314 (by decide) ?_
  refine x_iaddn (pc := 315) (a := i) (b := 3) dL_law_315 ?_
  refine x_sld (pc := 316) ?_ dL_law_316 ?_
  · exact vp_in_nI (by omega) (by omega)
  refine x_if_eq (pc := 317) (tgt := 324) dL_law_317 (by decide) (fun c317 => ?_) (fun c317 => ?_)
  · skip
    refine x_iconst (pc := 324) (v := 0) dL_law_324 (by decide) ?_
    refine x_callV (pc := 325) (As := [.int _, .int _, .int _]) dL_law_325 km_X9_enemies kv_X9_enemies kl_RL_28 h.1.g_x rfl rfl (by decide) hc rfl (Nat.le_of_ble_eq_true rfl) (Nat.le_of_ble_eq_true rfl) (C_enemies0 h v hB (fun I2 R2 L2 h2 f2 => ⟨rfl, rfl, ?_⟩))
    have m2 := m.high f2.1 f2.2
    refine x_aload_n (pc := 328) dL_law_328 rfl rfl ?_
    refine x_aload_n (pc := 329) dL_law_329 rfl rfl ?_
    refine x_iload_n (pc := 330) dL_law_330 rfl rfl ?_
    refine x_iconst (pc := 331) (v := 1) dL_law_331 (by decide) ?_
    refine x_iaddn (pc := 332) (a := i) (b := 1) dL_law_332 ?_
    refine x_sld (pc := 333) ?_ dL_law_333 ?_
    · exact vp_in_nI (by omega) (by omega)
    refine x_aload_n (pc := 334) dL_law_334 rfl rfl ?_
    refine x_iload_n (pc := 335) dL_law_335 rfl rfl ?_
    refine x_iconst (pc := 336) (v := 2) dL_law_336 (by decide) ?_
    refine x_iaddn (pc := 337) (a := i) (b := 2) dL_law_337 ?_
    refine x_sld (pc := 338) ?_ dL_law_338 ?_
    · exact vp_in_nI (by omega) (by omega)
    refine x_aload_n (pc := 339) dL_law_339 rfl rfl ?_
    refine x_iload_n (pc := 340) dL_law_340 rfl rfl ?_
    refine x_iconst (pc := 341) (v := 3) dL_law_341 (by decide) ?_
    refine x_iaddn (pc := 342) (a := i) (b := 3) dL_law_342 ?_
    refine x_sld (pc := 343) ?_ dL_law_343 ?_
    · exact vp_in_nI (by omega) (by omega)
    refine x_if_eq_t (pc := 344) (tgt := 351) dL_law_344 (by decide) (c317) ?_
    refine x_iconst (pc := 351) (v := 0) dL_law_351 (by decide) ?_
    refine x_callV (pc := 352) (As := [.int _, .int _, .int _]) dL_law_352 km_X10_enemies kv_X10_enemies kl_RL_32 h.1.g_M.s rfl rfl (by decide) hc rfl (Nat.le_of_ble_eq_true rfl) (Nat.le_of_ble_eq_true rfl) (D_enemies0 h2.1.g_M m2 v hB (fun I3 L3 m3 f3 => ⟨rfl, rfl, ?_⟩))
    have h3 := h2.low f3.1 f3.2
    refine x_icmp_eq_t (pc := 355) (tgt := 1134) dL_law_355 (by decide) (rfl) ?_
    exact K _ _ _ _ _ _ _ _ _ _ h3 m3 (v.sc (v.1.enem.mono (by omega)))
  · skip
    refine x_iconst (pc := 320) (v := 1) dL_law_320 (by decide) ?_
    refine x_goto (pc := 321) (tgt := 325) dL_law_321 (by decide) ?_
    refine x_callV (pc := 325) (As := [.int _, .int _, .int _]) dL_law_325 km_X9_enemies kv_X9_enemies kl_RL_28 h.1.g_x rfl rfl (by decide) hc rfl (Nat.le_of_ble_eq_true rfl) (Nat.le_of_ble_eq_true rfl) (C_enemies1 h v hB (fun I2 R2 L2 h2 f2 => ⟨rfl, rfl, ?_⟩))
    have m2 := m.high f2.1 f2.2
    refine x_aload_n (pc := 328) dL_law_328 rfl rfl ?_
    refine x_aload_n (pc := 329) dL_law_329 rfl rfl ?_
    refine x_iload_n (pc := 330) dL_law_330 rfl rfl ?_
    refine x_iconst (pc := 331) (v := 1) dL_law_331 (by decide) ?_
    refine x_iaddn (pc := 332) (a := i) (b := 1) dL_law_332 ?_
    refine x_sld (pc := 333) ?_ dL_law_333 ?_
    · exact vp_in_nI (by omega) (by omega)
    refine x_aload_n (pc := 334) dL_law_334 rfl rfl ?_
    refine x_iload_n (pc := 335) dL_law_335 rfl rfl ?_
    refine x_iconst (pc := 336) (v := 2) dL_law_336 (by decide) ?_
    refine x_iaddn (pc := 337) (a := i) (b := 2) dL_law_337 ?_
    refine x_sld (pc := 338) ?_ dL_law_338 ?_
    · exact vp_in_nI (by omega) (by omega)
    refine x_aload_n (pc := 339) dL_law_339 rfl rfl ?_
    refine x_iload_n (pc := 340) dL_law_340 rfl rfl ?_
    refine x_iconst (pc := 341) (v := 3) dL_law_341 (by decide) ?_
    refine x_iaddn (pc := 342) (a := i) (b := 3) dL_law_342 ?_
    refine x_sld (pc := 343) ?_ dL_law_343 ?_
    · exact vp_in_nI (by omega) (by omega)
    refine x_if_eq_f (pc := 344) (tgt := 351) dL_law_344 (by decide) (c317) ?_
    refine x_iconst (pc := 347) (v := 1) dL_law_347 (by decide) ?_
    refine x_goto (pc := 348) (tgt := 352) dL_law_348 (by decide) ?_
    refine x_callV (pc := 352) (As := [.int _, .int _, .int _]) dL_law_352 km_X10_enemies kv_X10_enemies kl_RL_32 h.1.g_M.s rfl rfl (by decide) hc rfl (Nat.le_of_ble_eq_true rfl) (Nat.le_of_ble_eq_true rfl) (D_enemies1 h2.1.g_M m2 v hB (fun I3 L3 m3 f3 => ⟨rfl, rfl, ?_⟩))
    have h3 := h2.low f3.1 f3.2
    refine x_icmp_eq_t (pc := 355) (tgt := 1134) dL_law_355 (by decide) (rfl) ?_
    exact K _ _ _ _ _ _ _ _ _ _ h3 m3 (v.sc (v.1.enem.mono (by omega)))

set_option maxHeartbeats 4000000 in
set_option maxRecDepth 100000 in
theorem lc_tamer {T : xT} {n CM SM ca sa i B : Nat} {sh : Nat → Nat × Nat} {I : xI} {R : xR} {L : xL} {P : xPost} {V : xV} {rc : Nat} {ars : Nat → xAR} {t : xX} {W : xW} {A : List Nat} {o : Option xV} (hc : ca ≤ CM ∧ sa ≤ SM) (hT : T.1 ≤ 3072) (hi : i + 6 ≤ T.1) (h : CST sh I R L V rc ars t W A o) (m : MST I L V rc ars t W A o) (v : VLD V rc t W A o B) (hB : B < 800000) (K : xGO T CM SM P n sh ca sa i B) : X T zL_law 30 CM SM P 360 [(0, .ref 1000000), (1, .ref 0), (2, .ref 137), (3, .int (nI i))] [] (n, sh, ca, sa) I R L := by
  refine x_aload_n (pc := 360) dL_law_360 rfl rfl ?_
  refine x_aload_n (pc := 361) dL_law_361 rfl rfl ?_
  refine x_iload_n (pc := 362) dL_law_362 rfl rfl ?_
  refine x_iconst (pc := 363) (v := 1) dL_law_363 (by decide) ?_
  refine x_iaddn (pc := 364) (a := i) (b := 1) dL_law_364 ?_
  refine x_sld (pc := 365) ?_ dL_law_365 ?_
  · exact vp_in_nI (by omega) (by omega)
  refine x_callV (pc := 366) (As := [.int _]) dL_law_366 km_X9_tamer kv_X9_tamer kl_RL_33 h.1.g_x rfl rfl (by decide) hc rfl (Nat.le_of_ble_eq_true rfl) (Nat.le_of_ble_eq_true rfl) (C_tamer h v hB (fun I2 R2 L2 h2 f2 => ⟨rfl, rfl, ?_⟩))
  have m2 := m.high f2.1 f2.2
  refine x_aload_n (pc := 369) dL_law_369 rfl rfl ?_
  refine x_aload_n (pc := 370) dL_law_370 rfl rfl ?_
  refine x_iload_n (pc := 371) dL_law_371 rfl rfl ?_
  refine x_iconst (pc := 372) (v := 1) dL_law_372 (by decide) ?_
  refine x_iaddn (pc := 373) (a := i) (b := 1) dL_law_373 ?_
  refine x_sld (pc := 374) ?_ dL_law_374 ?_
  · exact vp_in_nI (by omega) (by omega)
  refine x_callV (pc := 375) (As := [.int _]) dL_law_375 km_X10_tamer kv_X10_tamer kl_RL_37 h.1.g_M.s rfl rfl (by decide) hc rfl (Nat.le_of_ble_eq_true rfl) (Nat.le_of_ble_eq_true rfl) (D_tamer h2.1.g_M m2 v hB (fun I3 L3 m3 f3 => ⟨rfl, rfl, ?_⟩))
  have h3 := h2.low f3.1 f3.2
  refine x_icmp_eq_t (pc := 378) (tgt := 1134) dL_law_378 (by decide) (rfl) ?_
  exact K _ _ _ _ _ _ _ _ _ _ h3 m3 (v.sc (v.1.tamer.mono (by omega)))

set_option maxHeartbeats 4000000 in
set_option maxRecDepth 100000 in
theorem lc_feed {T : xT} {n CM SM ca sa i B : Nat} {sh : Nat → Nat × Nat} {I : xI} {R : xR} {L : xL} {P : xPost} {V : xV} {rc : Nat} {ars : Nat → xAR} {t : xX} {W : xW} {A : List Nat} {o : Option xV} (hc : ca ≤ CM ∧ sa ≤ SM) (hT : T.1 ≤ 3072) (hi : i + 6 ≤ T.1) (h : CST sh I R L V rc ars t W A o) (m : MST I L V rc ars t W A o) (v : VLD V rc t W A o B) (hB : B < 800000) (K : xGO T CM SM P n sh ca sa i B) : X T zL_law 30 CM SM P 383 [(0, .ref 1000000), (1, .ref 0), (2, .ref 137), (3, .int (nI i))] [] (n, sh, ca, sa) I R L := by
  refine x_aload_n (pc := 383) dL_law_383 rfl rfl ?_
  refine x_aload_n (pc := 384) dL_law_384 rfl rfl ?_
  refine x_iload_n (pc := 385) dL_law_385 rfl rfl ?_
  refine x_iconst (pc := 386) (v := 1) dL_law_386 (by decide) ?_
  refine x_iaddn (pc := 387) (a := i) (b := 1) dL_law_387 ?_
  refine x_sld (pc := 388) ?_ dL_law_388 ?_
  · exact vp_in_nI (by omega) (by omega)
  refine x_aload_n (pc := 389) dL_law_389 rfl rfl ?_
  refine x_iload_n (pc := 390) dL_law_390 rfl rfl ?_
  refine x_iconst (pc := 391) (v := 2) dL_law_391 (by decide) ?_
  refine x_iaddn (pc := 392) (a := i) (b := 2) dL_law_392 ?_
  refine x_sld (pc := 393) ?_ dL_law_393 ?_
  · exact vp_in_nI (by omega) (by omega)
  refine x_callV (pc := 394) (As := [.int _, .int _]) dL_law_394 km_X9_feed kv_X9_feed kl_RL_38 h.1.g_x rfl rfl (by decide) hc rfl (Nat.le_of_ble_eq_true rfl) (Nat.le_of_ble_eq_true rfl) (C_feed h v hB (fun I2 R2 L2 h2 f2 => ⟨rfl, rfl, ?_⟩))
  have m2 := m.high f2.1 f2.2
  refine x_aload_n (pc := 397) dL_law_397 rfl rfl ?_
  refine x_aload_n (pc := 398) dL_law_398 rfl rfl ?_
  refine x_iload_n (pc := 399) dL_law_399 rfl rfl ?_
  refine x_iconst (pc := 400) (v := 1) dL_law_400 (by decide) ?_
  refine x_iaddn (pc := 401) (a := i) (b := 1) dL_law_401 ?_
  refine x_sld (pc := 402) ?_ dL_law_402 ?_
  · exact vp_in_nI (by omega) (by omega)
  refine x_aload_n (pc := 403) dL_law_403 rfl rfl ?_
  refine x_iload_n (pc := 404) dL_law_404 rfl rfl ?_
  refine x_iconst (pc := 405) (v := 2) dL_law_405 (by decide) ?_
  refine x_iaddn (pc := 406) (a := i) (b := 2) dL_law_406 ?_
  refine x_sld (pc := 407) ?_ dL_law_407 ?_
  · exact vp_in_nI (by omega) (by omega)
  refine x_callV (pc := 408) (As := [.int _, .int _]) dL_law_408 km_X10_feed kv_X10_feed kl_RL_41 h.1.g_M.s rfl rfl (by decide) hc rfl (Nat.le_of_ble_eq_true rfl) (Nat.le_of_ble_eq_true rfl) (D_feed h2.1.g_M m2 v hB (fun I3 L3 m3 f3 => ⟨rfl, rfl, ?_⟩))
  have h3 := h2.low f3.1 f3.2
  refine x_icmp_eq_t (pc := 411) (tgt := 1134) dL_law_411 (by decide) (rfl) ?_
  exact K _ _ _ _ _ _ _ _ _ _ h3 m3 (v.mk2 (v.1.mono (by omega)) v.2.1.feed v.2.2.1 v.2.2.2.1)

set_option maxHeartbeats 4000000 in
set_option maxRecDepth 100000 in
theorem lc_ring {T : xT} {n CM SM ca sa i B : Nat} {sh : Nat → Nat × Nat} {I : xI} {R : xR} {L : xL} {P : xPost} {V : xV} {rc : Nat} {ars : Nat → xAR} {t : xX} {W : xW} {A : List Nat} {o : Option xV} (hc : ca ≤ CM ∧ sa ≤ SM) (hT : T.1 ≤ 3072) (hi : i + 6 ≤ T.1) (h : CST sh I R L V rc ars t W A o) (m : MST I L V rc ars t W A o) (v : VLD V rc t W A o B) (hB : B < 800000) (K : xGO T CM SM P n sh ca sa i B) : X T zL_law 30 CM SM P 416 [(0, .ref 1000000), (1, .ref 0), (2, .ref 137), (3, .int (nI i))] [] (n, sh, ca, sa) I R L := by
  refine x_aload_n (pc := 416) dL_law_416 rfl rfl ?_
  refine x_callV (pc := 417) (As := []) dL_law_417 km_X9_ring kv_X9_ring kl_RL_42 h.1.g_x rfl rfl (by decide) hc rfl (Nat.le_of_ble_eq_true rfl) (Nat.le_of_ble_eq_true rfl) (C_ring h v hB (fun e6 => ⟨rfl, rfl, ?_⟩) (fun q I2 h6 hr h2 f2 => ⟨rfl, rfl, ?_⟩) (fun acc I2 R2 h6 hr h2 f2 => ⟨rfl, rfl, ?_⟩))
  · skip
    have h2 := h
    have m2 := m
    refine x_aload_n (pc := 420) dL_law_420 rfl rfl ?_
    refine x_callV (pc := 421) (As := []) dL_law_421 km_X10_ring kv_X10_ring kl_RL_46 h.1.g_M.s rfl rfl (by decide) hc rfl (Nat.le_of_ble_eq_true rfl) (Nat.le_of_ble_eq_true rfl) (D_ring (r := (0, none)) h2.1.g_M m2 v hB (fun z => absurd z (by omega)) (fun _ => ⟨rfl, rfl, ?_⟩) (fun _ _ z => absurd z (by omega)) (fun _ _ z => absurd z (by omega)))
    have h3 := h2
    have m3 := m2
    have v3 := v.up
    refine x_icmp_eq_t (pc := 424) (tgt := 1134) dL_law_424 (by decide) (rfl) ?_
    exact K _ _ _ _ _ _ _ _ _ _ h3 m3 v3
  · skip
    have m2 := m.high f2.1 f2.2
    refine x_aload_n (pc := 420) dL_law_420 rfl rfl ?_
    refine x_callV (pc := 421) (As := []) dL_law_421 km_X10_ring kv_X10_ring kl_RL_46 h.1.g_M.s rfl rfl (by decide) hc rfl (Nat.le_of_ble_eq_true rfl) (Nat.le_of_ble_eq_true rfl) (D_ring (r := (q, none)) h2.1.g_M m2 v hB (fun _ => hr) (fun z => absurd z (by omega)) (fun q2 I3 _ e3 m3 f3 => ⟨rfl, rfl, ?_⟩) (fun _ _ _ z => by cases z))
    cases e3
    have h3 := h2.low f3.1 f3.2
    have v3 := v.mk2 (v.1.mono (by omega)) (XOK.e0 (f := t.2)) v.2.2.1 v.2.2.2.1
    refine x_icmp_eq_t (pc := 424) (tgt := 1134) dL_law_424 (by decide) (rfl) ?_
    exact K _ _ _ _ _ _ _ _ _ _ h3 m3 v3
  · skip
    have m2 := m.high f2.1 f2.2
    refine x_aload_n (pc := 420) dL_law_420 rfl rfl ?_
    refine x_callV (pc := 421) (As := []) dL_law_421 km_X10_ring kv_X10_ring kl_RL_46 h.1.g_M.s rfl rfl (by decide) hc rfl (Nat.le_of_ble_eq_true rfl) (Nat.le_of_ble_eq_true rfl) (D_ring (r := (t.1, some acc)) h2.1.g_M m2 v hB (fun _ => hr) (fun z => absurd z (by omega)) (fun _ _ _ z => by cases z) (fun acc2 I3 _ e3 m3 f3 => ⟨rfl, rfl, ?_⟩))
    have ea : acc2 = acc := Option.some.inj (congrArg Prod.snd e3).symm
    subst ea
    have h3 := h2.low f3.1 f3.2
    have v3 : VLD (up2 V 8 6 (rc + 1)) (rc + 1) (0, t.2) W A o (B + 60) := ⟨(v.1.ring h6).mono (by omega), XOK.e0, v.2.2.1, v.2.2.2.1, fun U hU => ((v.2.2.2.2 U hU).mono (by omega)).rc1⟩
    refine x_icmpn_eq_t (pc := 424) (tgt := 1134) (a := rc) (b := rc) dL_law_424 (by decide) (by omega) (by omega) (rfl) ?_
    exact K _ _ _ _ _ _ _ _ _ _ h3 m3 v3

set_option maxHeartbeats 4000000 in
set_option maxRecDepth 100000 in
theorem lc_go {T : xT} {n CM SM ca sa i B : Nat} {sh : Nat → Nat × Nat} {I : xI} {R : xR} {L : xL} {P : xPost} {V : xV} {rc : Nat} {ars : Nat → xAR} {t : xX} {W : xW} {A : List Nat} {o : Option xV} (hc : ca ≤ CM ∧ sa ≤ SM) (hT : T.1 ≤ 3072) (hi : i + 6 ≤ T.1) (h : CST sh I R L V rc ars t W A o) (m : MST I L V rc ars t W A o) (v : VLD V rc t W A o B) (hB : B < 800000) (K : xGO T CM SM P n sh ca sa i B) : X T zL_law 30 CM SM P 429 [(0, .ref 1000000), (1, .ref 0), (2, .ref 137), (3, .int (nI i))] [] (n, sh, ca, sa) I R L := by
  refine x_aload_n (pc := 429) dL_law_429 rfl rfl ?_
  refine x_aload_n (pc := 430) dL_law_430 rfl rfl ?_
  refine x_iload_n (pc := 431) dL_law_431 rfl rfl ?_
  refine x_iconst (pc := 432) (v := 1) dL_law_432 (by decide) ?_
  refine x_iaddn (pc := 433) (a := i) (b := 1) dL_law_433 ?_
  refine x_sld (pc := 434) ?_ dL_law_434 ?_
  · exact vp_in_nI (by omega) (by omega)
  refine x_callV (pc := 435) (As := [.int _]) dL_law_435 km_X9_go kv_X9_go kl_RL_47 h.1.g_x rfl rfl (by decide) hc rfl (Nat.le_of_ble_eq_true rfl) (Nat.le_of_ble_eq_true rfl) (C_go h v hB (fun I2 R2 L2 h2 f2 => ⟨rfl, rfl, ?_⟩))
  have m2 := m.high f2.1 f2.2
  refine x_aload_n (pc := 438) dL_law_438 rfl rfl ?_
  refine x_aload_n (pc := 439) dL_law_439 rfl rfl ?_
  refine x_iload_n (pc := 440) dL_law_440 rfl rfl ?_
  refine x_iconst (pc := 441) (v := 1) dL_law_441 (by decide) ?_
  refine x_iaddn (pc := 442) (a := i) (b := 1) dL_law_442 ?_
  refine x_sld (pc := 443) ?_ dL_law_443 ?_
  · exact vp_in_nI (by omega) (by omega)
  refine x_callV (pc := 444) (As := [.int _]) dL_law_444 km_X10_go kv_X10_go kl_RL_50 h.1.g_M.s rfl rfl (by decide) hc rfl (Nat.le_of_ble_eq_true rfl) (Nat.le_of_ble_eq_true rfl) (D_go h2.1.g_M m2 v hB (fun I3 L3 m3 f3 => ⟨rfl, rfl, ?_⟩))
  have h3 := h2.low f3.1 f3.2
  refine x_icmp_eq_t (pc := 447) (tgt := 1134) dL_law_447 (by decide) (rfl) ?_
  exact K _ _ _ _ _ _ _ _ _ _ h3 m3 (v.sc v.1.go)

set_option maxHeartbeats 4000000 in
set_option maxRecDepth 100000 in
theorem lc_safe {T : xT} {n CM SM ca sa i B : Nat} {sh : Nat → Nat × Nat} {I : xI} {R : xR} {L : xL} {P : xPost} {V : xV} {rc : Nat} {ars : Nat → xAR} {t : xX} {W : xW} {A : List Nat} {o : Option xV} (hc : ca ≤ CM ∧ sa ≤ SM) (hT : T.1 ≤ 3072) (hi : i + 6 ≤ T.1) (h : CST sh I R L V rc ars t W A o) (m : MST I L V rc ars t W A o) (v : VLD V rc t W A o B) (hB : B < 800000) (K : xGO T CM SM P n sh ca sa i B) : X T zL_law 30 CM SM P 452 [(0, .ref 1000000), (1, .ref 0), (2, .ref 137), (3, .int (nI i))] [] (n, sh, ca, sa) I R L := by
  refine x_aload_n (pc := 452) dL_law_452 rfl rfl ?_
  refine x_callV (pc := 453) (As := []) dL_law_453 km_X9_safe kv_X9_safe kl_RL_51 h.1.g_x rfl rfl (by decide) hc rfl (Nat.le_of_ble_eq_true rfl) (Nat.le_of_ble_eq_true rfl) (C_safe h v hB (fun I2 R2 L2 h2 f2 => ⟨rfl, rfl, ?_⟩))
  have m2 := m.high f2.1 f2.2
  refine x_aload_n (pc := 456) dL_law_456 rfl rfl ?_
  refine x_callV (pc := 457) (As := []) dL_law_457 km_X10_safe kv_X10_safe kl_RL_55 h.1.g_M.s rfl rfl (by decide) hc rfl (Nat.le_of_ble_eq_true rfl) (Nat.le_of_ble_eq_true rfl) (D_safe h2.1.g_M m2 v hB (fun I3 L3 m3 f3 => ⟨rfl, rfl, ?_⟩))
  have h3 := h2.low f3.1 f3.2
  refine x_lcmp (pc := 460) dL_law_460 ?_
  refine x_if_eq_t (pc := 461) (tgt := 1134) dL_law_461 (by decide) (lg_same _) ?_
  exact K _ _ _ _ _ _ _ _ _ _ h3 m3 (v.up)

set_option maxHeartbeats 4000000 in
set_option maxRecDepth 100000 in
theorem lc_from {T : xT} {n CM SM ca sa i B : Nat} {sh : Nat → Nat × Nat} {I : xI} {R : xR} {L : xL} {P : xPost} {V : xV} {rc : Nat} {ars : Nat → xAR} {t : xX} {W : xW} {A : List Nat} {o : Option xV} (hc : ca ≤ CM ∧ sa ≤ SM) (hT : T.1 ≤ 3072) (hi : i + 6 ≤ T.1) (h : CST sh I R L V rc ars t W A o) (m : MST I L V rc ars t W A o) (v : VLD V rc t W A o B) (hB : B < 800000) (K : xGO T CM SM P n sh ca sa i B) : X T zL_law 30 CM SM P 466 [(0, .ref 1000000), (1, .ref 0), (2, .ref 137), (3, .int (nI i))] [] (n, sh, ca, sa) I R L := by
  refine x_aload_n (pc := 466) dL_law_466 rfl rfl ?_
  refine x_aload_n (pc := 467) dL_law_467 rfl rfl ?_
  refine x_iload_n (pc := 468) dL_law_468 rfl rfl ?_
  refine x_iconst (pc := 469) (v := 1) dL_law_469 (by decide) ?_
  refine x_iaddn (pc := 470) (a := i) (b := 1) dL_law_470 ?_
  refine x_sld (pc := 471) ?_ dL_law_471 ?_
  · exact vp_in_nI (by omega) (by omega)
  refine x_callV (pc := 472) (As := [.int _]) dL_law_472 km_X9_from kv_X9_from kl_RL_56 h.1.g_x rfl rfl (by decide) hc rfl (Nat.le_of_ble_eq_true rfl) (Nat.le_of_ble_eq_true rfl) (C_from h v hB (fun I2 R2 L2 h2 f2 => ⟨rfl, rfl, ?_⟩))
  have m2 := m.high f2.1 f2.2
  refine x_aload_n (pc := 475) dL_law_475 rfl rfl ?_
  refine x_aload_n (pc := 476) dL_law_476 rfl rfl ?_
  refine x_iload_n (pc := 477) dL_law_477 rfl rfl ?_
  refine x_iconst (pc := 478) (v := 1) dL_law_478 (by decide) ?_
  refine x_iaddn (pc := 479) (a := i) (b := 1) dL_law_479 ?_
  refine x_sld (pc := 480) ?_ dL_law_480 ?_
  · exact vp_in_nI (by omega) (by omega)
  refine x_callV (pc := 481) (As := [.int _]) dL_law_481 km_X10_from kv_X10_from kl_RL_59 h.1.g_M.s rfl rfl (by decide) hc rfl (Nat.le_of_ble_eq_true rfl) (Nat.le_of_ble_eq_true rfl) (D_from h2.1.g_M m2 v hB (fun I3 L3 m3 f3 => ⟨rfl, rfl, ?_⟩))
  have h3 := h2.low f3.1 f3.2
  refine x_icmp_eq_t (pc := 484) (tgt := 1134) dL_law_484 (by decide) (rfl) ?_
  exact K _ _ _ _ _ _ _ _ _ _ h3 m3 (v.up)

set_option maxHeartbeats 4000000 in
set_option maxRecDepth 100000 in
theorem lc_walk {T : xT} {n CM SM ca sa i B : Nat} {sh : Nat → Nat × Nat} {I : xI} {R : xR} {L : xL} {P : xPost} {V : xV} {rc : Nat} {ars : Nat → xAR} {t : xX} {W : xW} {A : List Nat} {o : Option xV} (hc : ca ≤ CM ∧ sa ≤ SM) (hT : T.1 ≤ 3072) (hi : i + 6 ≤ T.1) (h : CST sh I R L V rc ars t W A o) (m : MST I L V rc ars t W A o) (v : VLD V rc t W A o B) (hB : B < 800000) (K : xGO T CM SM P n sh ca sa i B) : X T zL_law 30 CM SM P 489 [(0, .ref 1000000), (1, .ref 0), (2, .ref 137), (3, .int (nI i))] [] (n, sh, ca, sa) I R L := by
  refine x_aload_n (pc := 489) dL_law_489 rfl rfl ?_
  refine x_aload_n (pc := 490) dL_law_490 rfl rfl ?_
  refine x_iload_n (pc := 491) dL_law_491 rfl rfl ?_
  refine x_iconst (pc := 492) (v := 1) dL_law_492 (by decide) ?_
  refine x_iaddn (pc := 493) (a := i) (b := 1) dL_law_493 ?_
  refine x_sld (pc := 494) ?_ dL_law_494 ?_
  · exact vp_in_nI (by omega) (by omega)
  refine x_callV (pc := 495) (As := [.int _]) dL_law_495 km_X9_walk kv_X9_walk kl_RL_60 h.1.g_x rfl rfl (by decide) hc rfl (Nat.le_of_ble_eq_true rfl) (Nat.le_of_ble_eq_true rfl) (C_walk h v hB (fun I2 R2 L2 h2 f2 => ⟨rfl, rfl, ?_⟩))
  have m2 := m.high f2.1 f2.2
  refine x_aload_n (pc := 498) dL_law_498 rfl rfl ?_
  refine x_aload_n (pc := 499) dL_law_499 rfl rfl ?_
  refine x_iload_n (pc := 500) dL_law_500 rfl rfl ?_
  refine x_iconst (pc := 501) (v := 1) dL_law_501 (by decide) ?_
  refine x_iaddn (pc := 502) (a := i) (b := 1) dL_law_502 ?_
  refine x_sld (pc := 503) ?_ dL_law_503 ?_
  · exact vp_in_nI (by omega) (by omega)
  refine x_callV (pc := 504) (As := [.int _]) dL_law_504 km_X10_walk kv_X10_walk kl_RL_63 h.1.g_M.s rfl rfl (by decide) hc rfl (Nat.le_of_ble_eq_true rfl) (Nat.le_of_ble_eq_true rfl) (D_walk h2.1.g_M m2 v hB (fun I3 L3 m3 f3 => ⟨rfl, rfl, ?_⟩))
  have h3 := h2.low f3.1 f3.2
  refine x_icmp_eq_t (pc := 507) (tgt := 1134) dL_law_507 (by decide) (rfl) ?_
  exact K _ _ _ _ _ _ _ _ _ _ h3 m3 (v.sc (v.1.walk.mono (by omega)))

set_option maxHeartbeats 4000000 in
set_option maxRecDepth 100000 in
theorem lc_gone {T : xT} {n CM SM ca sa i B : Nat} {sh : Nat → Nat × Nat} {I : xI} {R : xR} {L : xL} {P : xPost} {V : xV} {rc : Nat} {ars : Nat → xAR} {t : xX} {W : xW} {A : List Nat} {o : Option xV} (hc : ca ≤ CM ∧ sa ≤ SM) (hT : T.1 ≤ 3072) (hi : i + 6 ≤ T.1) (h : CST sh I R L V rc ars t W A o) (m : MST I L V rc ars t W A o) (v : VLD V rc t W A o B) (hB : B < 800000) (K : xGO T CM SM P n sh ca sa i B) : X T zL_law 30 CM SM P 512 [(0, .ref 1000000), (1, .ref 0), (2, .ref 137), (3, .int (nI i))] [] (n, sh, ca, sa) I R L := by
  refine x_aload_n (pc := 512) dL_law_512 rfl rfl ?_
  refine x_aload_n (pc := 513) dL_law_513 rfl rfl ?_
  refine x_iload_n (pc := 514) dL_law_514 rfl rfl ?_
  refine x_iconst (pc := 515) (v := 1) dL_law_515 (by decide) ?_
  refine x_iaddn (pc := 516) (a := i) (b := 1) dL_law_516 ?_
  refine x_sld (pc := 517) ?_ dL_law_517 ?_
  · exact vp_in_nI (by omega) (by omega)
  refine x_callV (pc := 518) (As := [.int _]) dL_law_518 km_X9_gone kv_X9_gone kl_RL_64 h.1.g_x rfl rfl (by decide) hc rfl (Nat.le_of_ble_eq_true rfl) (Nat.le_of_ble_eq_true rfl) (C_gone h v hB (fun I2 R2 L2 h2 f2 => ⟨rfl, rfl, ?_⟩))
  have m2 := m.high f2.1 f2.2
  refine x_aload_n (pc := 521) dL_law_521 rfl rfl ?_
  refine x_aload_n (pc := 522) dL_law_522 rfl rfl ?_
  refine x_iload_n (pc := 523) dL_law_523 rfl rfl ?_
  refine x_iconst (pc := 524) (v := 1) dL_law_524 (by decide) ?_
  refine x_iaddn (pc := 525) (a := i) (b := 1) dL_law_525 ?_
  refine x_sld (pc := 526) ?_ dL_law_526 ?_
  · exact vp_in_nI (by omega) (by omega)
  refine x_callV (pc := 527) (As := [.int _]) dL_law_527 km_X10_gone kv_X10_gone kl_RL_67 h.1.g_M.s rfl rfl (by decide) hc rfl (Nat.le_of_ble_eq_true rfl) (Nat.le_of_ble_eq_true rfl) (D_gone h2.1.g_M m2 v hB (fun I3 L3 m3 f3 => ⟨rfl, rfl, ?_⟩))
  have h3 := h2.low f3.1 f3.2
  refine x_icmp_eq_t (pc := 530) (tgt := 1134) dL_law_530 (by decide) (rfl) ?_
  exact K _ _ _ _ _ _ _ _ _ _ h3 m3 (v.up)

set_option maxHeartbeats 4000000 in
set_option maxRecDepth 100000 in
theorem lc_shortest {T : xT} {n CM SM ca sa i B : Nat} {sh : Nat → Nat × Nat} {I : xI} {R : xR} {L : xL} {P : xPost} {V : xV} {rc : Nat} {ars : Nat → xAR} {t : xX} {W : xW} {A : List Nat} {o : Option xV} (hc : ca ≤ CM ∧ sa ≤ SM) (hT : T.1 ≤ 3072) (hi : i + 6 ≤ T.1) (h : CST sh I R L V rc ars t W A o) (m : MST I L V rc ars t W A o) (v : VLD V rc t W A o B) (hB : B < 800000) (K : xGO T CM SM P n sh ca sa i B) : X T zL_law 30 CM SM P 535 [(0, .ref 1000000), (1, .ref 0), (2, .ref 137), (3, .int (nI i))] [] (n, sh, ca, sa) I R L := by
  refine x_aload_n (pc := 535) dL_law_535 rfl rfl ?_
  refine x_aload_n (pc := 536) dL_law_536 rfl rfl ?_
  refine x_iload_n (pc := 537) dL_law_537 rfl rfl ?_
  refine x_iconst (pc := 538) (v := 1) dL_law_538 (by decide) ?_
  refine x_iaddn (pc := 539) (a := i) (b := 1) dL_law_539 ?_
  refine x_sld (pc := 540) ?_ dL_law_540 ?_
  · exact vp_in_nI (by omega) (by omega)
  refine x_aload_n (pc := 541) dL_law_541 rfl rfl ?_
  refine x_iload_n (pc := 542) dL_law_542 rfl rfl ?_
  refine x_iconst (pc := 543) (v := 2) dL_law_543 (by decide) ?_
  refine x_iaddn (pc := 544) (a := i) (b := 2) dL_law_544 ?_
  refine x_sld (pc := 545) ?_ dL_law_545 ?_
  · exact vp_in_nI (by omega) (by omega)
  refine x_callV (pc := 546) (As := [.int _, .int _]) dL_law_546 km_X9_shortest kv_X9_shortest kl_RL_68 h.1.g_x rfl rfl (by decide) hc rfl (Nat.le_of_ble_eq_true rfl) (Nat.le_of_ble_eq_true rfl) (C_shortest h v hB (fun I2 R2 L2 h2 f2 => ⟨rfl, rfl, ?_⟩))
  have m2 := m.high f2.1 f2.2
  refine x_aload_n (pc := 549) dL_law_549 rfl rfl ?_
  refine x_aload_n (pc := 550) dL_law_550 rfl rfl ?_
  refine x_iload_n (pc := 551) dL_law_551 rfl rfl ?_
  refine x_iconst (pc := 552) (v := 1) dL_law_552 (by decide) ?_
  refine x_iaddn (pc := 553) (a := i) (b := 1) dL_law_553 ?_
  refine x_sld (pc := 554) ?_ dL_law_554 ?_
  · exact vp_in_nI (by omega) (by omega)
  refine x_aload_n (pc := 555) dL_law_555 rfl rfl ?_
  refine x_iload_n (pc := 556) dL_law_556 rfl rfl ?_
  refine x_iconst (pc := 557) (v := 2) dL_law_557 (by decide) ?_
  refine x_iaddn (pc := 558) (a := i) (b := 2) dL_law_558 ?_
  refine x_sld (pc := 559) ?_ dL_law_559 ?_
  · exact vp_in_nI (by omega) (by omega)
  refine x_callV (pc := 560) (As := [.int _, .int _]) dL_law_560 km_X10_shortest kv_X10_shortest kl_RL_71 h.1.g_M.s rfl rfl (by decide) hc rfl (Nat.le_of_ble_eq_true rfl) (Nat.le_of_ble_eq_true rfl) (D_shortest h2.1.g_M m2 v hB (fun I3 L3 m3 f3 => ⟨rfl, rfl, ?_⟩))
  have h3 := h2.low f3.1 f3.2
  refine x_icmp_eq_t (pc := 563) (tgt := 1134) dL_law_563 (by decide) (rfl) ?_
  exact K _ _ _ _ _ _ _ _ _ _ h3 m3 (v.up)

set_option maxHeartbeats 4000000 in
set_option maxRecDepth 100000 in
theorem lc_seats {T : xT} {n CM SM ca sa i B : Nat} {sh : Nat → Nat × Nat} {I : xI} {R : xR} {L : xL} {P : xPost} {V : xV} {rc : Nat} {ars : Nat → xAR} {t : xX} {W : xW} {A : List Nat} {o : Option xV} (hc : ca ≤ CM ∧ sa ≤ SM) (hT : T.1 ≤ 3072) (hi : i + 6 ≤ T.1) (h : CST sh I R L V rc ars t W A o) (m : MST I L V rc ars t W A o) (v : VLD V rc t W A o B) (hB : B < 800000) (K : xGO T CM SM P n sh ca sa i B) : X T zL_law 30 CM SM P 568 [(0, .ref 1000000), (1, .ref 0), (2, .ref 137), (3, .int (nI i))] [] (n, sh, ca, sa) I R L := by
  refine x_aload_n (pc := 568) dL_law_568 rfl rfl ?_
  refine x_aload_n (pc := 569) dL_law_569 rfl rfl ?_
  refine x_iload_n (pc := 570) dL_law_570 rfl rfl ?_
  refine x_iconst (pc := 571) (v := 1) dL_law_571 (by decide) ?_
  refine x_iaddn (pc := 572) (a := i) (b := 1) dL_law_572 ?_
  refine x_sld (pc := 573) ?_ dL_law_573 ?_
  · exact vp_in_nI (by omega) (by omega)
  refine x_callV (pc := 574) (As := [.int _]) dL_law_574 km_X9_seats kv_X9_seats kl_RL_72 h.1.g_x rfl rfl (by decide) hc rfl (Nat.le_of_ble_eq_true rfl) (Nat.le_of_ble_eq_true rfl) (C_seats h v hB (fun I2 R2 L2 h2 f2 => ⟨rfl, rfl, ?_⟩))
  have m2 := m.high f2.1 f2.2
  refine x_aload_n (pc := 577) dL_law_577 rfl rfl ?_
  refine x_aload_n (pc := 578) dL_law_578 rfl rfl ?_
  refine x_iload_n (pc := 579) dL_law_579 rfl rfl ?_
  refine x_iconst (pc := 580) (v := 1) dL_law_580 (by decide) ?_
  refine x_iaddn (pc := 581) (a := i) (b := 1) dL_law_581 ?_
  refine x_sld (pc := 582) ?_ dL_law_582 ?_
  · exact vp_in_nI (by omega) (by omega)
  refine x_callV (pc := 583) (As := [.int _]) dL_law_583 km_X10_seats kv_X10_seats kl_RL_75 h.1.g_M.s rfl rfl (by decide) hc rfl (Nat.le_of_ble_eq_true rfl) (Nat.le_of_ble_eq_true rfl) (D_seats h2.1.g_M m2 v hB (fun I3 L3 m3 f3 => ⟨rfl, rfl, ?_⟩))
  have h3 := h2.low f3.1 f3.2
  refine x_icmp_eq_t (pc := 586) (tgt := 1134) dL_law_586 (by decide) (rfl) ?_
  exact K _ _ _ _ _ _ _ _ _ _ h3 m3 (v.up)

set_option maxHeartbeats 4000000 in
set_option maxRecDepth 100000 in
theorem lc_sit {T : xT} {n CM SM ca sa i B : Nat} {sh : Nat → Nat × Nat} {I : xI} {R : xR} {L : xL} {P : xPost} {V : xV} {rc : Nat} {ars : Nat → xAR} {t : xX} {W : xW} {A : List Nat} {o : Option xV} (hc : ca ≤ CM ∧ sa ≤ SM) (hT : T.1 ≤ 3072) (hi : i + 6 ≤ T.1) (h : CST sh I R L V rc ars t W A o) (m : MST I L V rc ars t W A o) (v : VLD V rc t W A o B) (hB : B < 800000) (K : xGO T CM SM P n sh ca sa i B) : X T zL_law 30 CM SM P 591 [(0, .ref 1000000), (1, .ref 0), (2, .ref 137), (3, .int (nI i))] [] (n, sh, ca, sa) I R L := by
  refine x_aload_n (pc := 591) dL_law_591 rfl rfl ?_
  refine x_callV (pc := 592) (As := []) dL_law_592 km_X9_sit kv_X9_sit kl_RL_76 h.1.g_x rfl rfl (by decide) hc rfl (Nat.le_of_ble_eq_true rfl) (Nat.le_of_ble_eq_true rfl) (C_sit h v hB (fun I2 R2 L2 h2 f2 => ⟨rfl, rfl, ?_⟩))
  have m2 := m.high f2.1 f2.2
  refine x_aload_n (pc := 595) dL_law_595 rfl rfl ?_
  refine x_callV (pc := 596) (As := []) dL_law_596 km_X10_sit kv_X10_sit kl_RL_79 h.1.g_M.s rfl rfl (by decide) hc rfl (Nat.le_of_ble_eq_true rfl) (Nat.le_of_ble_eq_true rfl) (D_sit h2.1.g_M m2 v hB (fun I3 L3 m3 f3 => ⟨rfl, rfl, ?_⟩))
  have h3 := h2.low f3.1 f3.2
  refine x_icmp_eq_t (pc := 599) (tgt := 1134) dL_law_599 (by decide) (rfl) ?_
  exact K _ _ _ _ _ _ _ _ _ _ h3 m3 (v.up)

set_option maxHeartbeats 4000000 in
set_option maxRecDepth 100000 in
theorem lc_line {T : xT} {n CM SM ca sa i B : Nat} {sh : Nat → Nat × Nat} {I : xI} {R : xR} {L : xL} {P : xPost} {V : xV} {rc : Nat} {ars : Nat → xAR} {t : xX} {W : xW} {A : List Nat} {o : Option xV} (hc : ca ≤ CM ∧ sa ≤ SM) (hT : T.1 ≤ 3072) (hi : i + 6 ≤ T.1) (h : CST sh I R L V rc ars t W A o) (m : MST I L V rc ars t W A o) (v : VLD V rc t W A o B) (hB : B < 800000) (K : xGO T CM SM P n sh ca sa i B) : X T zL_law 30 CM SM P 604 [(0, .ref 1000000), (1, .ref 0), (2, .ref 137), (3, .int (nI i))] [] (n, sh, ca, sa) I R L := by
  refine x_aload_n (pc := 604) dL_law_604 rfl rfl ?_
  refine x_aload_n (pc := 605) dL_law_605 rfl rfl ?_
  refine x_iload_n (pc := 606) dL_law_606 rfl rfl ?_
  refine x_iconst (pc := 607) (v := 1) dL_law_607 (by decide) ?_
  refine x_iaddn (pc := 608) (a := i) (b := 1) dL_law_608 ?_
  refine x_sld (pc := 609) ?_ dL_law_609 ?_
  · exact vp_in_nI (by omega) (by omega)
  refine x_callV (pc := 610) (As := [.int _]) dL_law_610 km_X9_line kv_X9_line kl_RL_80 h.1.g_x rfl rfl (by decide) hc rfl (Nat.le_of_ble_eq_true rfl) (Nat.le_of_ble_eq_true rfl) (C_line h v hB (fun I2 R2 L2 h2 f2 => ⟨rfl, rfl, ?_⟩))
  have m2 := m.high f2.1 f2.2
  refine x_aload_n (pc := 613) dL_law_613 rfl rfl ?_
  refine x_aload_n (pc := 614) dL_law_614 rfl rfl ?_
  refine x_iload_n (pc := 615) dL_law_615 rfl rfl ?_
  refine x_iconst (pc := 616) (v := 1) dL_law_616 (by decide) ?_
  refine x_iaddn (pc := 617) (a := i) (b := 1) dL_law_617 ?_
  refine x_sld (pc := 618) ?_ dL_law_618 ?_
  · exact vp_in_nI (by omega) (by omega)
  refine x_callV (pc := 619) (As := [.int _]) dL_law_619 km_X10_line kv_X10_line kl_RL_83 h.1.g_M.s rfl rfl (by decide) hc rfl (Nat.le_of_ble_eq_true rfl) (Nat.le_of_ble_eq_true rfl) (D_line h2.1.g_M m2 v hB (fun I3 L3 m3 f3 => ⟨rfl, rfl, ?_⟩))
  have h3 := h2.low f3.1 f3.2
  refine x_icmp_eq_t (pc := 622) (tgt := 1134) dL_law_622 (by decide) (rfl) ?_
  exact K _ _ _ _ _ _ _ _ _ _ h3 m3 (v.up)

set_option maxHeartbeats 4000000 in
set_option maxRecDepth 100000 in
theorem lc_thunder {T : xT} {n CM SM ca sa i B : Nat} {sh : Nat → Nat × Nat} {I : xI} {R : xR} {L : xL} {P : xPost} {V : xV} {rc : Nat} {ars : Nat → xAR} {t : xX} {W : xW} {A : List Nat} {o : Option xV} (hc : ca ≤ CM ∧ sa ≤ SM) (hT : T.1 ≤ 3072) (hi : i + 6 ≤ T.1) (h : CST sh I R L V rc ars t W A o) (m : MST I L V rc ars t W A o) (v : VLD V rc t W A o B) (hB : B < 800000) (K : xGO T CM SM P n sh ca sa i B) : X T zL_law 30 CM SM P 627 [(0, .ref 1000000), (1, .ref 0), (2, .ref 137), (3, .int (nI i))] [] (n, sh, ca, sa) I R L := by
  refine x_aload_n (pc := 627) dL_law_627 rfl rfl ?_
  refine x_aload_n (pc := 628) dL_law_628 rfl rfl ?_
  refine x_iload_n (pc := 629) dL_law_629 rfl rfl ?_
  refine x_iconst (pc := 630) (v := 1) dL_law_630 (by decide) ?_
  refine x_iaddn (pc := 631) (a := i) (b := 1) dL_law_631 ?_
  refine x_sld (pc := 632) ?_ dL_law_632 ?_
  · exact vp_in_nI (by omega) (by omega)
  refine x_callV (pc := 633) (As := [.int _]) dL_law_633 km_X9_thunder kv_X9_thunder kl_RL_84 h.1.g_x rfl rfl (by decide) hc rfl (Nat.le_of_ble_eq_true rfl) (Nat.le_of_ble_eq_true rfl) (C_thunder h v hB (fun I2 R2 L2 h2 f2 => ⟨rfl, rfl, ?_⟩))
  have m2 := m.high f2.1 f2.2
  refine x_aload_n (pc := 636) dL_law_636 rfl rfl ?_
  refine x_aload_n (pc := 637) dL_law_637 rfl rfl ?_
  refine x_iload_n (pc := 638) dL_law_638 rfl rfl ?_
  refine x_iconst (pc := 639) (v := 1) dL_law_639 (by decide) ?_
  refine x_iaddn (pc := 640) (a := i) (b := 1) dL_law_640 ?_
  refine x_sld (pc := 641) ?_ dL_law_641 ?_
  · exact vp_in_nI (by omega) (by omega)
  refine x_callV (pc := 642) (As := [.int _]) dL_law_642 km_X10_thunder kv_X10_thunder kl_RL_87 h.1.g_M.s rfl rfl (by decide) hc rfl (Nat.le_of_ble_eq_true rfl) (Nat.le_of_ble_eq_true rfl) (D_thunder h2.1.g_M m2 v hB (fun I3 L3 m3 f3 => ⟨rfl, rfl, ?_⟩))
  have h3 := h2.low f3.1 f3.2
  refine x_icmp_eq_t (pc := 645) (tgt := 1134) dL_law_645 (by decide) (rfl) ?_
  exact K _ _ _ _ _ _ _ _ _ _ h3 m3 (v.sc (v.1.thunder.mono (by omega)))

set_option maxHeartbeats 4000000 in
set_option maxRecDepth 100000 in
theorem lc_calm {T : xT} {n CM SM ca sa i B : Nat} {sh : Nat → Nat × Nat} {I : xI} {R : xR} {L : xL} {P : xPost} {V : xV} {rc : Nat} {ars : Nat → xAR} {t : xX} {W : xW} {A : List Nat} {o : Option xV} (hc : ca ≤ CM ∧ sa ≤ SM) (hT : T.1 ≤ 3072) (hi : i + 6 ≤ T.1) (h : CST sh I R L V rc ars t W A o) (m : MST I L V rc ars t W A o) (v : VLD V rc t W A o B) (hB : B < 800000) (K : xGO T CM SM P n sh ca sa i B) : X T zL_law 30 CM SM P 650 [(0, .ref 1000000), (1, .ref 0), (2, .ref 137), (3, .int (nI i))] [] (n, sh, ca, sa) I R L := by
  refine x_aload_n (pc := 650) dL_law_650 rfl rfl ?_
  refine x_aload_n (pc := 651) dL_law_651 rfl rfl ?_
  refine x_iload_n (pc := 652) dL_law_652 rfl rfl ?_
  refine x_iconst (pc := 653) (v := 1) dL_law_653 (by decide) ?_
  refine x_iaddn (pc := 654) (a := i) (b := 1) dL_law_654 ?_
  refine x_sld (pc := 655) ?_ dL_law_655 ?_
  · exact vp_in_nI (by omega) (by omega)
  refine x_aload_n (pc := 656) dL_law_656 rfl rfl ?_
  refine x_iload_n (pc := 657) dL_law_657 rfl rfl ?_
  refine x_iconst (pc := 658) (v := 2) dL_law_658 (by decide) ?_
  refine x_iaddn (pc := 659) (a := i) (b := 2) dL_law_659 ?_
  refine x_sld (pc := 660) ?_ dL_law_660 ?_
  · exact vp_in_nI (by omega) (by omega)
  refine x_callV (pc := 661) (As := [.int _, .int _]) dL_law_661 km_X9_calm kv_X9_calm kl_RL_88 h.1.g_x rfl rfl (by decide) hc rfl (Nat.le_of_ble_eq_true rfl) (Nat.le_of_ble_eq_true rfl) (C_calm h v hB (fun I2 R2 L2 h2 f2 => ⟨rfl, rfl, ?_⟩))
  have m2 := m.high f2.1 f2.2
  refine x_aload_n (pc := 664) dL_law_664 rfl rfl ?_
  refine x_aload_n (pc := 665) dL_law_665 rfl rfl ?_
  refine x_iload_n (pc := 666) dL_law_666 rfl rfl ?_
  refine x_iconst (pc := 667) (v := 1) dL_law_667 (by decide) ?_
  refine x_iaddn (pc := 668) (a := i) (b := 1) dL_law_668 ?_
  refine x_sld (pc := 669) ?_ dL_law_669 ?_
  · exact vp_in_nI (by omega) (by omega)
  refine x_aload_n (pc := 670) dL_law_670 rfl rfl ?_
  refine x_iload_n (pc := 671) dL_law_671 rfl rfl ?_
  refine x_iconst (pc := 672) (v := 2) dL_law_672 (by decide) ?_
  refine x_iaddn (pc := 673) (a := i) (b := 2) dL_law_673 ?_
  refine x_sld (pc := 674) ?_ dL_law_674 ?_
  · exact vp_in_nI (by omega) (by omega)
  refine x_callV (pc := 675) (As := [.int _, .int _]) dL_law_675 km_X10_calm kv_X10_calm kl_RL_92 h.1.g_M.s rfl rfl (by decide) hc rfl (Nat.le_of_ble_eq_true rfl) (Nat.le_of_ble_eq_true rfl) (D_calm h2.1.g_M m2 v hB (fun I3 L3 m3 f3 => ⟨rfl, rfl, ?_⟩))
  have h3 := h2.low f3.1 f3.2
  refine x_lcmp (pc := 678) dL_law_678 ?_
  refine x_if_eq_t (pc := 679) (tgt := 1134) dL_law_679 (by decide) (lg_same _) ?_
  exact K _ _ _ _ _ _ _ _ _ _ h3 m3 (v.up)

set_option maxHeartbeats 4000000 in
set_option maxRecDepth 100000 in
theorem lc_film {T : xT} {n CM SM ca sa i B : Nat} {sh : Nat → Nat × Nat} {I : xI} {R : xR} {L : xL} {P : xPost} {V : xV} {rc : Nat} {ars : Nat → xAR} {t : xX} {W : xW} {A : List Nat} {o : Option xV} (hc : ca ≤ CM ∧ sa ≤ SM) (hT : T.1 ≤ 3072) (hi : i + 6 ≤ T.1) (h : CST sh I R L V rc ars t W A o) (m : MST I L V rc ars t W A o) (v : VLD V rc t W A o B) (hB : B < 800000) (K : xGO T CM SM P n sh ca sa i B) : X T zL_law 30 CM SM P 684 [(0, .ref 1000000), (1, .ref 0), (2, .ref 137), (3, .int (nI i))] [] (n, sh, ca, sa) I R L := by
  refine x_aload_n (pc := 684) dL_law_684 rfl rfl ?_
  refine x_aload_n (pc := 685) dL_law_685 rfl rfl ?_
  refine x_iload_n (pc := 686) dL_law_686 rfl rfl ?_
  refine x_iconst (pc := 687) (v := 1) dL_law_687 (by decide) ?_
  refine x_iaddn (pc := 688) (a := i) (b := 1) dL_law_688 ?_
  refine x_sld (pc := 689) ?_ dL_law_689 ?_
  · exact vp_in_nI (by omega) (by omega)
  refine x_callV (pc := 690) (As := [.int _]) dL_law_690 km_X9_film kv_X9_film kl_RL_93 h.1.g_x rfl rfl (by decide) hc rfl (Nat.le_of_ble_eq_true rfl) (Nat.le_of_ble_eq_true rfl) (C_film h v hB (fun I2 R2 L2 h2 f2 => ⟨rfl, rfl, ?_⟩))
  have m2 := m.high f2.1 f2.2
  refine x_aload_n (pc := 693) dL_law_693 rfl rfl ?_
  refine x_aload_n (pc := 694) dL_law_694 rfl rfl ?_
  refine x_iload_n (pc := 695) dL_law_695 rfl rfl ?_
  refine x_iconst (pc := 696) (v := 1) dL_law_696 (by decide) ?_
  refine x_iaddn (pc := 697) (a := i) (b := 1) dL_law_697 ?_
  refine x_sld (pc := 698) ?_ dL_law_698 ?_
  · exact vp_in_nI (by omega) (by omega)
  refine x_callV (pc := 699) (As := [.int _]) dL_law_699 km_X10_film kv_X10_film kl_RL_96 h.1.g_M.s rfl rfl (by decide) hc rfl (Nat.le_of_ble_eq_true rfl) (Nat.le_of_ble_eq_true rfl) (D_film h2.1.g_M m2 v hB (fun I3 L3 m3 f3 => ⟨rfl, rfl, ?_⟩))
  have h3 := h2.low f3.1 f3.2
  refine x_icmp_eq_t (pc := 702) (tgt := 1134) dL_law_702 (by decide) (rfl) ?_
  exact K _ _ _ _ _ _ _ _ _ _ h3 m3 (v.sc (v.1.film.mono (by omega)))

set_option maxHeartbeats 4000000 in
set_option maxRecDepth 100000 in
theorem lc_kinds {T : xT} {n CM SM ca sa i B : Nat} {sh : Nat → Nat × Nat} {I : xI} {R : xR} {L : xL} {P : xPost} {V : xV} {rc : Nat} {ars : Nat → xAR} {t : xX} {W : xW} {A : List Nat} {o : Option xV} (hc : ca ≤ CM ∧ sa ≤ SM) (hT : T.1 ≤ 3072) (hi : i + 6 ≤ T.1) (h : CST sh I R L V rc ars t W A o) (m : MST I L V rc ars t W A o) (v : VLD V rc t W A o B) (hB : B < 800000) (K : xGO T CM SM P n sh ca sa i B) : X T zL_law 30 CM SM P 707 [(0, .ref 1000000), (1, .ref 0), (2, .ref 137), (3, .int (nI i))] [] (n, sh, ca, sa) I R L := by
  refine x_aload_n (pc := 707) dL_law_707 rfl rfl ?_
  refine x_aload_n (pc := 708) dL_law_708 rfl rfl ?_
  refine x_iload_n (pc := 709) dL_law_709 rfl rfl ?_
  refine x_iconst (pc := 710) (v := 1) dL_law_710 (by decide) ?_
  refine x_iaddn (pc := 711) (a := i) (b := 1) dL_law_711 ?_
  refine x_sld (pc := 712) ?_ dL_law_712 ?_
  · exact vp_in_nI (by omega) (by omega)
  refine x_callV (pc := 713) (As := [.int _]) dL_law_713 km_X9_kinds kv_X9_kinds kl_RL_97 h.1.g_x rfl rfl (by decide) hc rfl (Nat.le_of_ble_eq_true rfl) (Nat.le_of_ble_eq_true rfl) (C_kinds h v hB (fun I2 R2 L2 h2 f2 => ⟨rfl, rfl, ?_⟩))
  have m2 := m.high f2.1 f2.2
  refine x_aload_n (pc := 716) dL_law_716 rfl rfl ?_
  refine x_aload_n (pc := 717) dL_law_717 rfl rfl ?_
  refine x_iload_n (pc := 718) dL_law_718 rfl rfl ?_
  refine x_iconst (pc := 719) (v := 1) dL_law_719 (by decide) ?_
  refine x_iaddn (pc := 720) (a := i) (b := 1) dL_law_720 ?_
  refine x_sld (pc := 721) ?_ dL_law_721 ?_
  · exact vp_in_nI (by omega) (by omega)
  refine x_callV (pc := 722) (As := [.int _]) dL_law_722 km_X10_kinds kv_X10_kinds kl_RL_100 h.1.g_M.s rfl rfl (by decide) hc rfl (Nat.le_of_ble_eq_true rfl) (Nat.le_of_ble_eq_true rfl) (D_kinds h2.1.g_M m2 v hB (fun I3 L3 m3 f3 => ⟨rfl, rfl, ?_⟩))
  have h3 := h2.low f3.1 f3.2
  refine x_icmp_eq_t (pc := 725) (tgt := 1134) dL_law_725 (by decide) (rfl) ?_
  exact K _ _ _ _ _ _ _ _ _ _ h3 m3 (v.up)

set_option maxHeartbeats 4000000 in
set_option maxRecDepth 100000 in
theorem lc_judge {T : xT} {n CM SM ca sa i B : Nat} {sh : Nat → Nat × Nat} {I : xI} {R : xR} {L : xL} {P : xPost} {V : xV} {rc : Nat} {ars : Nat → xAR} {t : xX} {W : xW} {A : List Nat} {o : Option xV} (hc : ca ≤ CM ∧ sa ≤ SM) (hT : T.1 ≤ 3072) (hi : i + 6 ≤ T.1) (h : CST sh I R L V rc ars t W A o) (m : MST I L V rc ars t W A o) (v : VLD V rc t W A o B) (hB : B < 800000) (K : xGO T CM SM P n sh ca sa i B) : X T zL_law 30 CM SM P 730 [(0, .ref 1000000), (1, .ref 0), (2, .ref 137), (3, .int (nI i))] [] (n, sh, ca, sa) I R L := by
  refine x_aload_n (pc := 730) dL_law_730 rfl rfl ?_
  refine x_aload_n (pc := 731) dL_law_731 rfl rfl ?_
  refine x_iload_n (pc := 732) dL_law_732 rfl rfl ?_
  refine x_iconst (pc := 733) (v := 1) dL_law_733 (by decide) ?_
  refine x_iaddn (pc := 734) (a := i) (b := 1) dL_law_734 ?_
  refine x_sld (pc := 735) ?_ dL_law_735 ?_
  · exact vp_in_nI (by omega) (by omega)
  refine x_aload_n (pc := 736) dL_law_736 rfl rfl ?_
  refine x_iload_n (pc := 737) dL_law_737 rfl rfl ?_
  refine x_iconst (pc := 738) (v := 2) dL_law_738 (by decide) ?_
  refine x_iaddn (pc := 739) (a := i) (b := 2) dL_law_739 ?_
  refine x_sld (pc := 740) ?_ dL_law_740 ?_
  · exact vp_in_nI (by omega) (by omega)
  refine x_aload_n (pc := 741) dL_law_741 rfl rfl ?_
  refine x_iload_n (pc := 742) dL_law_742 rfl rfl ?_
  refine x_iconst (pc := 743) (v := 3) dL_law_743 (by decide) ?_
  refine x_iaddn (pc := 744) (a := i) (b := 3) dL_law_744 ?_
  refine x_sld (pc := 745) ?_ dL_law_745 ?_
  · exact vp_in_nI (by omega) (by omega)
  refine x_callV (pc := 746) (As := [.int _, .int _, .int _]) dL_law_746 km_X9_judge kv_X9_judge kl_RL_101 h.1.g_x rfl rfl (by decide) hc rfl (Nat.le_of_ble_eq_true rfl) (Nat.le_of_ble_eq_true rfl) (C_judge h v hB (fun I2 R2 L2 h2 f2 => ⟨rfl, rfl, ?_⟩))
  have m2 := m.high f2.1 f2.2
  refine x_aload_n (pc := 749) dL_law_749 rfl rfl ?_
  refine x_aload_n (pc := 750) dL_law_750 rfl rfl ?_
  refine x_iload_n (pc := 751) dL_law_751 rfl rfl ?_
  refine x_iconst (pc := 752) (v := 1) dL_law_752 (by decide) ?_
  refine x_iaddn (pc := 753) (a := i) (b := 1) dL_law_753 ?_
  refine x_sld (pc := 754) ?_ dL_law_754 ?_
  · exact vp_in_nI (by omega) (by omega)
  refine x_aload_n (pc := 755) dL_law_755 rfl rfl ?_
  refine x_iload_n (pc := 756) dL_law_756 rfl rfl ?_
  refine x_iconst (pc := 757) (v := 2) dL_law_757 (by decide) ?_
  refine x_iaddn (pc := 758) (a := i) (b := 2) dL_law_758 ?_
  refine x_sld (pc := 759) ?_ dL_law_759 ?_
  · exact vp_in_nI (by omega) (by omega)
  refine x_aload_n (pc := 760) dL_law_760 rfl rfl ?_
  refine x_iload_n (pc := 761) dL_law_761 rfl rfl ?_
  refine x_iconst (pc := 762) (v := 3) dL_law_762 (by decide) ?_
  refine x_iaddn (pc := 763) (a := i) (b := 3) dL_law_763 ?_
  refine x_sld (pc := 764) ?_ dL_law_764 ?_
  · exact vp_in_nI (by omega) (by omega)
  refine x_callV (pc := 765) (As := [.int _, .int _, .int _]) dL_law_765 km_X10_judge kv_X10_judge kl_RL_104 h.1.g_M.s rfl rfl (by decide) hc rfl (Nat.le_of_ble_eq_true rfl) (Nat.le_of_ble_eq_true rfl) (D_judge h2.1.g_M m2 v hB (fun I3 L3 m3 f3 => ⟨rfl, rfl, ?_⟩))
  have h3 := h2.low f3.1 f3.2
  refine x_icmp_eq_t (pc := 768) (tgt := 1134) dL_law_768 (by decide) (rfl) ?_
  exact K _ _ _ _ _ _ _ _ _ _ h3 m3 (v.up)

set_option maxHeartbeats 4000000 in
set_option maxRecDepth 100000 in
theorem lc_image {T : xT} {n CM SM ca sa i B : Nat} {sh : Nat → Nat × Nat} {I : xI} {R : xR} {L : xL} {P : xPost} {V : xV} {rc : Nat} {ars : Nat → xAR} {t : xX} {W : xW} {A : List Nat} {o : Option xV} (hc : ca ≤ CM ∧ sa ≤ SM) (hT : T.1 ≤ 3072) (hi : i + 6 ≤ T.1) (h : CST sh I R L V rc ars t W A o) (m : MST I L V rc ars t W A o) (v : VLD V rc t W A o B) (hB : B < 800000) (K : xGO T CM SM P n sh ca sa i B) : X T zL_law 30 CM SM P 773 [(0, .ref 1000000), (1, .ref 0), (2, .ref 137), (3, .int (nI i))] [] (n, sh, ca, sa) I R L := by
  refine x_aload_n (pc := 773) dL_law_773 rfl rfl ?_
  refine x_callV (pc := 774) (As := []) dL_law_774 km_X9_image kv_X9_image kl_RL_105 h.1.g_x rfl rfl (by decide) hc rfl (Nat.le_of_ble_eq_true rfl) (Nat.le_of_ble_eq_true rfl) (C_image h v hB (fun I2 R2 L2 h2 f2 => ⟨rfl, rfl, ?_⟩))
  have m2 := m.high f2.1 f2.2
  refine x_aload_n (pc := 777) dL_law_777 rfl rfl ?_
  refine x_callV (pc := 778) (As := []) dL_law_778 km_X10_image kv_X10_image kl_RL_108 h.1.g_M.s rfl rfl (by decide) hc rfl (Nat.le_of_ble_eq_true rfl) (Nat.le_of_ble_eq_true rfl) (D_image h2.1.g_M m2 v hB (fun I3 L3 m3 f3 => ⟨rfl, rfl, ?_⟩))
  have h3 := h2.low f3.1 f3.2
  refine x_icmp_eq_t (pc := 781) (tgt := 1134) dL_law_781 (by decide) (rfl) ?_
  exact K _ _ _ _ _ _ _ _ _ _ h3 m3 (⟨v.1.mono (by omega), v.2.1, v.2.2.1, v.2.2.2.1, fun U hU => by cases hU; exact v.1.mono (by omega)⟩)

set_option maxHeartbeats 4000000 in
set_option maxRecDepth 100000 in
theorem lc_undo {T : xT} {n CM SM ca sa i B : Nat} {sh : Nat → Nat × Nat} {I : xI} {R : xR} {L : xL} {P : xPost} {V : xV} {rc : Nat} {ars : Nat → xAR} {t : xX} {W : xW} {A : List Nat} {o : Option xV} (hc : ca ≤ CM ∧ sa ≤ SM) (hT : T.1 ≤ 3072) (hi : i + 6 ≤ T.1) (h : CST sh I R L V rc ars t W A o) (m : MST I L V rc ars t W A o) (v : VLD V rc t W A o B) (hB : B < 800000) (K : xGO T CM SM P n sh ca sa i B) : X T zL_law 30 CM SM P 786 [(0, .ref 1000000), (1, .ref 0), (2, .ref 137), (3, .int (nI i))] [] (n, sh, ca, sa) I R L := by
  refine x_aload_n (pc := 786) dL_law_786 rfl rfl ?_
  refine x_callV (pc := 787) (As := []) dL_law_787 km_X9_undo kv_X9_undo kl_RL_109 h.1.g_x rfl rfl (by decide) hc rfl (Nat.le_of_ble_eq_true rfl) (Nat.le_of_ble_eq_true rfl) (C_undo h v hB (fun e2 => ⟨rfl, rfl, ?_⟩) (fun U I2 R2 e2 h2 f2 => ⟨rfl, rfl, ?_⟩))
  · skip
    have f2 : CFR I I L L := ⟨fun _ _ => rfl, fun _ _ => rfl⟩
    have h2 := h
    have m2 := m
    refine x_aload_n (pc := 790) dL_law_790 rfl rfl ?_
    refine x_callV (pc := 791) (As := []) dL_law_791 km_X10_undo kv_X10_undo kl_RL_112 h.1.g_M.s rfl rfl (by decide) hc rfl (Nat.le_of_ble_eq_true rfl) (Nat.le_of_ble_eq_true rfl) (D_undo h2.1.g_M m2 v hB (fun _ => ⟨rfl, rfl, ?_⟩) (fun U I3 e3 _ _ => by rw [e2] at e3; cases e3))
    have h3 := h2
    have m3 := m2
    have v3 := v.up
    refine x_icmp_eq_t (pc := 794) (tgt := 1134) dL_law_794 (by decide) (rfl) ?_
    exact K _ _ _ _ _ _ _ _ _ _ h3 m3 v3
  · skip
    have m2 := m.high f2.1 f2.2
    refine x_aload_n (pc := 790) dL_law_790 rfl rfl ?_
    refine x_callV (pc := 791) (As := []) dL_law_791 km_X10_undo kv_X10_undo kl_RL_112 h.1.g_M.s rfl rfl (by decide) hc rfl (Nat.le_of_ble_eq_true rfl) (Nat.le_of_ble_eq_true rfl) (D_undo h2.1.g_M m2 v hB (fun e3 => by rw [e2] at e3; cases e3) (fun U2 I3 e3 m3 f3 => ⟨rfl, rfl, ?_⟩))
    have eU : U2 = U := Option.some.inj (e3.symm.trans e2)
    subst eU
    have h3 := h2.low f3.1 f3.2
    have v3 := v.sc ((v.2.2.2.2 _ e2).mono (by omega))
    have hU6 := (v.2.2.2.2 _ e2).1.1
    refine x_icmpn_eq_t (pc := 794) (tgt := 1134) (a := (U2 8 0)) (b := (U2 8 0)) dL_law_794 (by decide) (by omega) (by omega) (rfl) ?_
    exact K _ _ _ _ _ _ _ _ _ _ h3 m3 v3

set_option maxHeartbeats 4000000 in
set_option maxRecDepth 100000 in
theorem lc_act {T : xT} {n CM SM ca sa i B : Nat} {sh : Nat → Nat × Nat} {I : xI} {R : xR} {L : xL} {P : xPost} {V : xV} {rc : Nat} {ars : Nat → xAR} {t : xX} {W : xW} {A : List Nat} {o : Option xV} (hc : ca ≤ CM ∧ sa ≤ SM) (hT : T.1 ≤ 3072) (hi : i + 6 ≤ T.1) (h : CST sh I R L V rc ars t W A o) (m : MST I L V rc ars t W A o) (v : VLD V rc t W A o B) (hB : B < 800000) (K : xGO T CM SM P n sh ca sa i B) : X T zL_law 30 CM SM P 799 [(0, .ref 1000000), (1, .ref 0), (2, .ref 137), (3, .int (nI i))] [] (n, sh, ca, sa) I R L := by
  refine x_aload_n (pc := 799) dL_law_799 rfl rfl ?_
  refine x_aload_n (pc := 800) dL_law_800 rfl rfl ?_
  refine x_iload_n (pc := 801) dL_law_801 rfl rfl ?_
  refine x_iconst (pc := 802) (v := 1) dL_law_802 (by decide) ?_
  refine x_iaddn (pc := 803) (a := i) (b := 1) dL_law_803 ?_
  refine x_sld (pc := 804) ?_ dL_law_804 ?_
  · exact vp_in_nI (by omega) (by omega)
  refine x_aload_n (pc := 805) dL_law_805 rfl rfl ?_
  refine x_iload_n (pc := 806) dL_law_806 rfl rfl ?_
  refine x_iconst (pc := 807) (v := 2) dL_law_807 (by decide) ?_
  refine x_iaddn (pc := 808) (a := i) (b := 2) dL_law_808 ?_
  refine x_sld (pc := 809) ?_ dL_law_809 ?_
  · exact vp_in_nI (by omega) (by omega)
  refine x_aload_n (pc := 810) dL_law_810 rfl rfl ?_
  refine x_iload_n (pc := 811) dL_law_811 rfl rfl ?_
  refine x_iconst (pc := 812) (v := 3) dL_law_812 (by decide) ?_
  refine x_iaddn (pc := 813) (a := i) (b := 3) dL_law_813 ?_
  refine x_sld (pc := 814) ?_ dL_law_814 ?_
  · exact vp_in_nI (by omega) (by omega)
  refine x_callV (pc := 815) (As := [.int _, .int _, .int _]) dL_law_815 km_X9_act kv_X9_act kl_RL_113 h.1.g_x rfl rfl (by decide) hc rfl (Nat.le_of_ble_eq_true rfl) (Nat.le_of_ble_eq_true rfl) (C_act h v hB (fun I2 R2 L2 h2 f2 => ⟨rfl, rfl, ?_⟩))
  have m2 := m.high f2.1 f2.2
  refine x_aload_n (pc := 818) dL_law_818 rfl rfl ?_
  refine x_aload_n (pc := 819) dL_law_819 rfl rfl ?_
  refine x_iload_n (pc := 820) dL_law_820 rfl rfl ?_
  refine x_iconst (pc := 821) (v := 1) dL_law_821 (by decide) ?_
  refine x_iaddn (pc := 822) (a := i) (b := 1) dL_law_822 ?_
  refine x_sld (pc := 823) ?_ dL_law_823 ?_
  · exact vp_in_nI (by omega) (by omega)
  refine x_aload_n (pc := 824) dL_law_824 rfl rfl ?_
  refine x_iload_n (pc := 825) dL_law_825 rfl rfl ?_
  refine x_iconst (pc := 826) (v := 2) dL_law_826 (by decide) ?_
  refine x_iaddn (pc := 827) (a := i) (b := 2) dL_law_827 ?_
  refine x_sld (pc := 828) ?_ dL_law_828 ?_
  · exact vp_in_nI (by omega) (by omega)
  refine x_aload_n (pc := 829) dL_law_829 rfl rfl ?_
  refine x_iload_n (pc := 830) dL_law_830 rfl rfl ?_
  refine x_iconst (pc := 831) (v := 3) dL_law_831 (by decide) ?_
  refine x_iaddn (pc := 832) (a := i) (b := 3) dL_law_832 ?_
  refine x_sld (pc := 833) ?_ dL_law_833 ?_
  · exact vp_in_nI (by omega) (by omega)
  refine x_callV (pc := 834) (As := [.int _, .int _, .int _]) dL_law_834 km_X10_act kv_X10_act kl_RL_116 h.1.g_M.s rfl rfl (by decide) hc rfl (Nat.le_of_ble_eq_true rfl) (Nat.le_of_ble_eq_true rfl) (D_act h2.1.g_M m2 v hB (fun I3 L3 m3 f3 => ⟨rfl, rfl, ?_⟩))
  have h3 := h2.low f3.1 f3.2
  refine x_icmp_eq_t (pc := 837) (tgt := 1134) dL_law_837 (by decide) (rfl) ?_
  exact K _ _ _ _ _ _ _ _ _ _ h3 m3 (v.mk2 (v.1.mono (by omega)) v.2.1 v.2.2.1 (spAct_le v.1.1))

set_option maxHeartbeats 4000000 in
set_option maxRecDepth 100000 in
theorem lc_trace {T : xT} {n CM SM ca sa i B : Nat} {sh : Nat → Nat × Nat} {I : xI} {R : xR} {L : xL} {P : xPost} {V : xV} {rc : Nat} {ars : Nat → xAR} {t : xX} {W : xW} {A : List Nat} {o : Option xV} (hc : ca ≤ CM ∧ sa ≤ SM) (hT : T.1 ≤ 3072) (hi : i + 6 ≤ T.1) (h : CST sh I R L V rc ars t W A o) (m : MST I L V rc ars t W A o) (v : VLD V rc t W A o B) (hB : B < 800000) (K : xGO T CM SM P n sh ca sa i B) : X T zL_law 30 CM SM P 842 [(0, .ref 1000000), (1, .ref 0), (2, .ref 137), (3, .int (nI i))] [] (n, sh, ca, sa) I R L := by
  refine x_aload_n (pc := 842) dL_law_842 rfl rfl ?_
  refine x_aload_n (pc := 843) dL_law_843 rfl rfl ?_
  refine x_iload_n (pc := 844) dL_law_844 rfl rfl ?_
  refine x_iconst (pc := 845) (v := 1) dL_law_845 (by decide) ?_
  refine x_iaddn (pc := 846) (a := i) (b := 1) dL_law_846 ?_
  refine x_sld (pc := 847) ?_ dL_law_847 ?_
  · exact vp_in_nI (by omega) (by omega)
  refine x_callV (pc := 848) (As := [.int _]) dL_law_848 km_X9_trace kv_X9_trace kl_RL_117 h.1.g_x rfl rfl (by decide) hc rfl (Nat.le_of_ble_eq_true rfl) (Nat.le_of_ble_eq_true rfl) (C_trace h v hB (fun I2 R2 L2 h2 f2 => ⟨rfl, rfl, ?_⟩))
  have m2 := m.high f2.1 f2.2
  refine x_aload_n (pc := 851) dL_law_851 rfl rfl ?_
  refine x_aload_n (pc := 852) dL_law_852 rfl rfl ?_
  refine x_iload_n (pc := 853) dL_law_853 rfl rfl ?_
  refine x_iconst (pc := 854) (v := 1) dL_law_854 (by decide) ?_
  refine x_iaddn (pc := 855) (a := i) (b := 1) dL_law_855 ?_
  refine x_sld (pc := 856) ?_ dL_law_856 ?_
  · exact vp_in_nI (by omega) (by omega)
  refine x_callV (pc := 857) (As := [.int _]) dL_law_857 km_X10_trace kv_X10_trace kl_RL_120 h.1.g_M.s rfl rfl (by decide) hc rfl (Nat.le_of_ble_eq_true rfl) (Nat.le_of_ble_eq_true rfl) (D_trace h2.1.g_M m2 v hB (fun I3 L3 m3 f3 => ⟨rfl, rfl, ?_⟩))
  have h3 := h2.low f3.1 f3.2
  refine x_icmp_eq_t (pc := 860) (tgt := 1134) dL_law_860 (by decide) (rfl) ?_
  exact K _ _ _ _ _ _ _ _ _ _ h3 m3 (v.up)

set_option maxHeartbeats 4000000 in
set_option maxRecDepth 100000 in
theorem lc_taken {T : xT} {n CM SM ca sa i B : Nat} {sh : Nat → Nat × Nat} {I : xI} {R : xR} {L : xL} {P : xPost} {V : xV} {rc : Nat} {ars : Nat → xAR} {t : xX} {W : xW} {A : List Nat} {o : Option xV} (hc : ca ≤ CM ∧ sa ≤ SM) (hT : T.1 ≤ 3072) (hi : i + 6 ≤ T.1) (h : CST sh I R L V rc ars t W A o) (m : MST I L V rc ars t W A o) (v : VLD V rc t W A o B) (hB : B < 800000) (K : xGO T CM SM P n sh ca sa i B) : X T zL_law 30 CM SM P 865 [(0, .ref 1000000), (1, .ref 0), (2, .ref 137), (3, .int (nI i))] [] (n, sh, ca, sa) I R L := by
  refine x_aload_n (pc := 865) dL_law_865 rfl rfl ?_
  refine x_aload_n (pc := 866) dL_law_866 rfl rfl ?_
  refine x_iload_n (pc := 867) dL_law_867 rfl rfl ?_
  refine x_iconst (pc := 868) (v := 1) dL_law_868 (by decide) ?_
  refine x_iaddn (pc := 869) (a := i) (b := 1) dL_law_869 ?_
  refine x_sld (pc := 870) ?_ dL_law_870 ?_
  · exact vp_in_nI (by omega) (by omega)
  refine x_aload_n (pc := 871) dL_law_871 rfl rfl ?_
  refine x_iload_n (pc := 872) dL_law_872 rfl rfl ?_
  refine x_iconst (pc := 873) (v := 2) dL_law_873 (by decide) ?_
  refine x_iaddn (pc := 874) (a := i) (b := 2) dL_law_874 ?_
  refine x_sld (pc := 875) ?_ dL_law_875 ?_
  · exact vp_in_nI (by omega) (by omega)
  refine x_callV (pc := 876) (As := [.int _, .int _]) dL_law_876 km_X9_taken kv_X9_taken kl_RL_121 h.1.g_x rfl rfl (by decide) hc rfl (Nat.le_of_ble_eq_true rfl) (Nat.le_of_ble_eq_true rfl) (C_taken h v hB (fun I2 R2 L2 h2 f2 => ⟨rfl, rfl, ?_⟩))
  have m2 := m.high f2.1 f2.2
  refine x_aload_n (pc := 879) dL_law_879 rfl rfl ?_
  refine x_aload_n (pc := 880) dL_law_880 rfl rfl ?_
  refine x_iload_n (pc := 881) dL_law_881 rfl rfl ?_
  refine x_iconst (pc := 882) (v := 1) dL_law_882 (by decide) ?_
  refine x_iaddn (pc := 883) (a := i) (b := 1) dL_law_883 ?_
  refine x_sld (pc := 884) ?_ dL_law_884 ?_
  · exact vp_in_nI (by omega) (by omega)
  refine x_aload_n (pc := 885) dL_law_885 rfl rfl ?_
  refine x_iload_n (pc := 886) dL_law_886 rfl rfl ?_
  refine x_iconst (pc := 887) (v := 2) dL_law_887 (by decide) ?_
  refine x_iaddn (pc := 888) (a := i) (b := 2) dL_law_888 ?_
  refine x_sld (pc := 889) ?_ dL_law_889 ?_
  · exact vp_in_nI (by omega) (by omega)
  refine x_callV (pc := 890) (As := [.int _, .int _]) dL_law_890 km_X10_taken kv_X10_taken kl_RL_124 h.1.g_M.s rfl rfl (by decide) hc rfl (Nat.le_of_ble_eq_true rfl) (Nat.le_of_ble_eq_true rfl) (D_taken h2.1.g_M m2 v hB (fun I3 L3 m3 f3 => ⟨rfl, rfl, ?_⟩))
  have h3 := h2.low f3.1 f3.2
  refine x_icmp_eq_t (pc := 893) (tgt := 1134) dL_law_893 (by decide) (rfl) ?_
  exact K _ _ _ _ _ _ _ _ _ _ h3 m3 (v.up)

set_option maxHeartbeats 4000000 in
set_option maxRecDepth 100000 in
theorem lc_count {T : xT} {n CM SM ca sa i B : Nat} {sh : Nat → Nat × Nat} {I : xI} {R : xR} {L : xL} {P : xPost} {V : xV} {rc : Nat} {ars : Nat → xAR} {t : xX} {W : xW} {A : List Nat} {o : Option xV} (hc : ca ≤ CM ∧ sa ≤ SM) (hT : T.1 ≤ 3072) (hi : i + 6 ≤ T.1) (h : CST sh I R L V rc ars t W A o) (m : MST I L V rc ars t W A o) (v : VLD V rc t W A o B) (hB : B < 800000) (K : xGO T CM SM P n sh ca sa i B) : X T zL_law 30 CM SM P 898 [(0, .ref 1000000), (1, .ref 0), (2, .ref 137), (3, .int (nI i))] [] (n, sh, ca, sa) I R L := by
  refine x_aload_n (pc := 898) dL_law_898 rfl rfl ?_
  refine x_aload_n (pc := 899) dL_law_899 rfl rfl ?_
  refine x_iload_n (pc := 900) dL_law_900 rfl rfl ?_
  refine x_iconst (pc := 901) (v := 1) dL_law_901 (by decide) ?_
  refine x_iaddn (pc := 902) (a := i) (b := 1) dL_law_902 ?_
  refine x_sld (pc := 903) ?_ dL_law_903 ?_
  · exact vp_in_nI (by omega) (by omega)
  refine x_callV (pc := 904) (As := [.int _]) dL_law_904 km_X9_count kv_X9_count kl_RL_125 h.1.g_x rfl rfl (by decide) hc rfl (Nat.le_of_ble_eq_true rfl) (Nat.le_of_ble_eq_true rfl) (C_count h v hB (fun I2 R2 L2 h2 f2 => ⟨rfl, rfl, ?_⟩))
  have m2 := m.high f2.1 f2.2
  refine x_aload_n (pc := 907) dL_law_907 rfl rfl ?_
  refine x_aload_n (pc := 908) dL_law_908 rfl rfl ?_
  refine x_iload_n (pc := 909) dL_law_909 rfl rfl ?_
  refine x_iconst (pc := 910) (v := 1) dL_law_910 (by decide) ?_
  refine x_iaddn (pc := 911) (a := i) (b := 1) dL_law_911 ?_
  refine x_sld (pc := 912) ?_ dL_law_912 ?_
  · exact vp_in_nI (by omega) (by omega)
  refine x_callV (pc := 913) (As := [.int _]) dL_law_913 km_X10_count kv_X10_count kl_RL_128 h.1.g_M.s rfl rfl (by decide) hc rfl (Nat.le_of_ble_eq_true rfl) (Nat.le_of_ble_eq_true rfl) (D_count h2.1.g_M m2 v hB (fun I3 L3 m3 f3 => ⟨rfl, rfl, ?_⟩))
  have h3 := h2.low f3.1 f3.2
  refine x_icmp_eq_t (pc := 916) (tgt := 1134) dL_law_916 (by decide) (rfl) ?_
  exact K _ _ _ _ _ _ _ _ _ _ h3 m3 (v.up)

set_option maxHeartbeats 4000000 in
set_option maxRecDepth 100000 in
theorem lc_tape {T : xT} {n CM SM ca sa i B : Nat} {sh : Nat → Nat × Nat} {I : xI} {R : xR} {L : xL} {P : xPost} {V : xV} {rc : Nat} {ars : Nat → xAR} {t : xX} {W : xW} {A : List Nat} {o : Option xV} (hc : ca ≤ CM ∧ sa ≤ SM) (hT : T.1 ≤ 3072) (hi : i + 6 ≤ T.1) (h : CST sh I R L V rc ars t W A o) (m : MST I L V rc ars t W A o) (v : VLD V rc t W A o B) (hB : B < 800000) (K : xGO T CM SM P n sh ca sa i B) : X T zL_law 30 CM SM P 921 [(0, .ref 1000000), (1, .ref 0), (2, .ref 137), (3, .int (nI i))] [] (n, sh, ca, sa) I R L := by
  refine x_aload_n (pc := 921) dL_law_921 rfl rfl ?_
  refine x_aload_n (pc := 922) dL_law_922 rfl rfl ?_
  refine x_iload_n (pc := 923) dL_law_923 rfl rfl ?_
  refine x_iconst (pc := 924) (v := 1) dL_law_924 (by decide) ?_
  refine x_iaddn (pc := 925) (a := i) (b := 1) dL_law_925 ?_
  refine x_sld (pc := 926) ?_ dL_law_926 ?_
  · exact vp_in_nI (by omega) (by omega)
  refine x_aload_n (pc := 927) dL_law_927 rfl rfl ?_
  refine x_iload_n (pc := 928) dL_law_928 rfl rfl ?_
  refine x_iconst (pc := 929) (v := 2) dL_law_929 (by decide) ?_
  refine x_iaddn (pc := 930) (a := i) (b := 2) dL_law_930 ?_
  refine x_sld (pc := 931) ?_ dL_law_931 ?_
  · exact vp_in_nI (by omega) (by omega)
  refine x_aload_n (pc := 932) dL_law_932 rfl rfl ?_
  refine x_iload_n (pc := 933) dL_law_933 rfl rfl ?_
  refine x_iconst (pc := 934) (v := 3) dL_law_934 (by decide) ?_
  refine x_iaddn (pc := 935) (a := i) (b := 3) dL_law_935 ?_
  refine x_sld (pc := 936) ?_ dL_law_936 ?_
  · exact vp_in_nI (by omega) (by omega)
  refine x_callV (pc := 937) (As := [.int _, .int _, .int _]) dL_law_937 km_X9_tape kv_X9_tape kl_RL_129 h.1.g_x rfl rfl (by decide) hc rfl (Nat.le_of_ble_eq_true rfl) (Nat.le_of_ble_eq_true rfl) (C_tape h v hB (fun I2 R2 L2 h2 f2 => ⟨rfl, rfl, ?_⟩))
  have m2 := m.high f2.1 f2.2
  refine x_aload_n (pc := 940) dL_law_940 rfl rfl ?_
  refine x_aload_n (pc := 941) dL_law_941 rfl rfl ?_
  refine x_iload_n (pc := 942) dL_law_942 rfl rfl ?_
  refine x_iconst (pc := 943) (v := 1) dL_law_943 (by decide) ?_
  refine x_iaddn (pc := 944) (a := i) (b := 1) dL_law_944 ?_
  refine x_sld (pc := 945) ?_ dL_law_945 ?_
  · exact vp_in_nI (by omega) (by omega)
  refine x_aload_n (pc := 946) dL_law_946 rfl rfl ?_
  refine x_iload_n (pc := 947) dL_law_947 rfl rfl ?_
  refine x_iconst (pc := 948) (v := 2) dL_law_948 (by decide) ?_
  refine x_iaddn (pc := 949) (a := i) (b := 2) dL_law_949 ?_
  refine x_sld (pc := 950) ?_ dL_law_950 ?_
  · exact vp_in_nI (by omega) (by omega)
  refine x_aload_n (pc := 951) dL_law_951 rfl rfl ?_
  refine x_iload_n (pc := 952) dL_law_952 rfl rfl ?_
  refine x_iconst (pc := 953) (v := 3) dL_law_953 (by decide) ?_
  refine x_iaddn (pc := 954) (a := i) (b := 3) dL_law_954 ?_
  refine x_sld (pc := 955) ?_ dL_law_955 ?_
  · exact vp_in_nI (by omega) (by omega)
  refine x_callV (pc := 956) (As := [.int _, .int _, .int _]) dL_law_956 km_X10_tape kv_X10_tape kl_RL_132 h.1.g_M.s rfl rfl (by decide) hc rfl (Nat.le_of_ble_eq_true rfl) (Nat.le_of_ble_eq_true rfl) (D_tape h2.1.g_M m2 v hB (fun I3 L3 m3 f3 => ⟨rfl, rfl, ?_⟩))
  have h3 := h2.low f3.1 f3.2
  refine x_icmp_eq_t (pc := 959) (tgt := 1134) dL_law_959 (by decide) (rfl) ?_
  exact K _ _ _ _ _ _ _ _ _ _ h3 m3 (v.mk2 (v.1.mono (by omega)) v.2.1 v.2.2.1.tape v.2.2.2.1)

set_option maxHeartbeats 4000000 in
set_option maxRecDepth 100000 in
theorem lc_item {T : xT} {n CM SM ca sa i B : Nat} {sh : Nat → Nat × Nat} {I : xI} {R : xR} {L : xL} {P : xPost} {V : xV} {rc : Nat} {ars : Nat → xAR} {t : xX} {W : xW} {A : List Nat} {o : Option xV} (hc : ca ≤ CM ∧ sa ≤ SM) (hT : T.1 ≤ 3072) (hi : i + 6 ≤ T.1) (h : CST sh I R L V rc ars t W A o) (m : MST I L V rc ars t W A o) (v : VLD V rc t W A o B) (hB : B < 800000) (K : xGO T CM SM P n sh ca sa i B) : X T zL_law 30 CM SM P 964 [(0, .ref 1000000), (1, .ref 0), (2, .ref 137), (3, .int (nI i))] [] (n, sh, ca, sa) I R L := by
  refine x_aload_n (pc := 964) dL_law_964 rfl rfl ?_
  refine x_aload_n (pc := 965) dL_law_965 rfl rfl ?_
  refine x_iload_n (pc := 966) dL_law_966 rfl rfl ?_
  refine x_iconst (pc := 967) (v := 1) dL_law_967 (by decide) ?_
  refine x_iaddn (pc := 968) (a := i) (b := 1) dL_law_968 ?_
  refine x_sld (pc := 969) ?_ dL_law_969 ?_
  · exact vp_in_nI (by omega) (by omega)
  refine x_aload_n (pc := 970) dL_law_970 rfl rfl ?_
  refine x_iload_n (pc := 971) dL_law_971 rfl rfl ?_
  refine x_iconst (pc := 972) (v := 2) dL_law_972 (by decide) ?_
  refine x_iaddn (pc := 973) (a := i) (b := 2) dL_law_973 ?_
  refine x_sld (pc := 974) ?_ dL_law_974 ?_
  · exact vp_in_nI (by omega) (by omega)
  refine x_aload_n (pc := 975) dL_law_975 rfl rfl ?_
  refine x_iload_n (pc := 976) dL_law_976 rfl rfl ?_
  refine x_iconst (pc := 977) (v := 3) dL_law_977 (by decide) ?_
  refine x_iaddn (pc := 978) (a := i) (b := 3) dL_law_978 ?_
  refine x_sld (pc := 979) ?_ dL_law_979 ?_
  · exact vp_in_nI (by omega) (by omega)
  refine x_i2l (pc := 980) dL_law_980 ?_
  refine x_bipush (pc := 981) (v := 32) dL_law_981 (by decide) ?_
  refine x_lshl (pc := 983) dL_law_983 ?_
  refine x_aload_n (pc := 984) dL_law_984 rfl rfl ?_
  refine x_iload_n (pc := 985) dL_law_985 rfl rfl ?_
  refine x_iconst (pc := 986) (v := 4) dL_law_986 (by decide) ?_
  refine x_iaddn (pc := 987) (a := i) (b := 4) dL_law_987 ?_
  refine x_sld (pc := 988) ?_ dL_law_988 ?_
  · exact vp_in_nI (by omega) (by omega)
  refine x_i2l (pc := 989) dL_law_989 ?_
  refine x_ldc2 (pc := 990) (v := 4294967295) dL_law_990 kk_RL_133 ?_
  refine x_land (pc := 993) dL_law_993 ?_
  refine x_lor (pc := 994) dL_law_994 ?_
  refine x_callV (pc := 995) (As := [.int _, .int _, .long _]) dL_law_995 km_X9_item kv_X9_item kl_RL_135 h.1.g_x rfl rfl (by decide) hc rfl (Nat.le_of_ble_eq_true rfl) (Nat.le_of_ble_eq_true rfl) (C_item h v hB (fun I2 R2 L2 h2 f2 => ⟨rfl, rfl, ?_⟩))
  have m2 := m.high f2.1 f2.2
  refine x_aload_n (pc := 998) dL_law_998 rfl rfl ?_
  refine x_aload_n (pc := 999) dL_law_999 rfl rfl ?_
  refine x_iload_n (pc := 1000) dL_law_1000 rfl rfl ?_
  refine x_iconst (pc := 1001) (v := 1) dL_law_1001 (by decide) ?_
  refine x_iaddn (pc := 1002) (a := i) (b := 1) dL_law_1002 ?_
  refine x_sld (pc := 1003) ?_ dL_law_1003 ?_
  · exact vp_in_nI (by omega) (by omega)
  refine x_aload_n (pc := 1004) dL_law_1004 rfl rfl ?_
  refine x_iload_n (pc := 1005) dL_law_1005 rfl rfl ?_
  refine x_iconst (pc := 1006) (v := 2) dL_law_1006 (by decide) ?_
  refine x_iaddn (pc := 1007) (a := i) (b := 2) dL_law_1007 ?_
  refine x_sld (pc := 1008) ?_ dL_law_1008 ?_
  · exact vp_in_nI (by omega) (by omega)
  refine x_aload_n (pc := 1009) dL_law_1009 rfl rfl ?_
  refine x_iload_n (pc := 1010) dL_law_1010 rfl rfl ?_
  refine x_iconst (pc := 1011) (v := 3) dL_law_1011 (by decide) ?_
  refine x_iaddn (pc := 1012) (a := i) (b := 3) dL_law_1012 ?_
  refine x_sld (pc := 1013) ?_ dL_law_1013 ?_
  · exact vp_in_nI (by omega) (by omega)
  refine x_i2l (pc := 1014) dL_law_1014 ?_
  refine x_bipush (pc := 1015) (v := 32) dL_law_1015 (by decide) ?_
  refine x_lshl (pc := 1017) dL_law_1017 ?_
  refine x_aload_n (pc := 1018) dL_law_1018 rfl rfl ?_
  refine x_iload_n (pc := 1019) dL_law_1019 rfl rfl ?_
  refine x_iconst (pc := 1020) (v := 4) dL_law_1020 (by decide) ?_
  refine x_iaddn (pc := 1021) (a := i) (b := 4) dL_law_1021 ?_
  refine x_sld (pc := 1022) ?_ dL_law_1022 ?_
  · exact vp_in_nI (by omega) (by omega)
  refine x_i2l (pc := 1023) dL_law_1023 ?_
  refine x_ldc2 (pc := 1024) (v := 4294967295) dL_law_1024 kk_RL_133 ?_
  refine x_land (pc := 1027) dL_law_1027 ?_
  refine x_lor (pc := 1028) dL_law_1028 ?_
  refine x_callV (pc := 1029) (As := [.int _, .int _, .long _]) dL_law_1029 km_X10_item kv_X10_item kl_RL_139 h.1.g_M.s rfl rfl (by decide) hc rfl (Nat.le_of_ble_eq_true rfl) (Nat.le_of_ble_eq_true rfl) (D_item h2.1.g_M m2 v hB (fun I3 L3 m3 f3 => ⟨rfl, rfl, ?_⟩))
  have h3 := h2.low f3.1 f3.2
  refine x_icmp_eq_t (pc := 1032) (tgt := 1134) dL_law_1032 (by decide) (rfl) ?_
  exact K _ _ _ _ _ _ _ _ _ _ h3 m3 (v.mk2 (v.1.mono (by omega)) v.2.1 v.2.2.1.item v.2.2.2.1)

set_option maxHeartbeats 4000000 in
set_option maxRecDepth 100000 in
theorem lc_read {T : xT} {n CM SM ca sa i B : Nat} {sh : Nat → Nat × Nat} {I : xI} {R : xR} {L : xL} {P : xPost} {V : xV} {rc : Nat} {ars : Nat → xAR} {t : xX} {W : xW} {A : List Nat} {o : Option xV} (hc : ca ≤ CM ∧ sa ≤ SM) (hT : T.1 ≤ 3072) (hi : i + 6 ≤ T.1) (h : CST sh I R L V rc ars t W A o) (m : MST I L V rc ars t W A o) (v : VLD V rc t W A o B) (hB : B < 800000) (K : xGO T CM SM P n sh ca sa i B) : X T zL_law 30 CM SM P 1037 [(0, .ref 1000000), (1, .ref 0), (2, .ref 137), (3, .int (nI i))] [] (n, sh, ca, sa) I R L := by
  refine x_aload_n (pc := 1037) dL_law_1037 rfl rfl ?_
  refine x_aload_n (pc := 1038) dL_law_1038 rfl rfl ?_
  refine x_iload_n (pc := 1039) dL_law_1039 rfl rfl ?_
  refine x_iconst (pc := 1040) (v := 1) dL_law_1040 (by decide) ?_
  refine x_iaddn (pc := 1041) (a := i) (b := 1) dL_law_1041 ?_
  refine x_sld (pc := 1042) ?_ dL_law_1042 ?_
  · exact vp_in_nI (by omega) (by omega)
  refine x_aload_n (pc := 1043) dL_law_1043 rfl rfl ?_
  refine x_iload_n (pc := 1044) dL_law_1044 rfl rfl ?_
  refine x_iconst (pc := 1045) (v := 2) dL_law_1045 (by decide) ?_
  refine x_iaddn (pc := 1046) (a := i) (b := 2) dL_law_1046 ?_
  refine x_sld (pc := 1047) ?_ dL_law_1047 ?_
  · exact vp_in_nI (by omega) (by omega)
  refine x_callV (pc := 1048) (As := [.int _, .int _]) dL_law_1048 km_X9_read kv_X9_read kl_RL_140 h.1.g_x rfl rfl (by decide) hc rfl (Nat.le_of_ble_eq_true rfl) (Nat.le_of_ble_eq_true rfl) (C_read h v hB (fun I2 R2 L2 h2 f2 => ⟨rfl, rfl, ?_⟩))
  have m2 := m.high f2.1 f2.2
  refine x_aload_n (pc := 1051) dL_law_1051 rfl rfl ?_
  refine x_aload_n (pc := 1052) dL_law_1052 rfl rfl ?_
  refine x_iload_n (pc := 1053) dL_law_1053 rfl rfl ?_
  refine x_iconst (pc := 1054) (v := 1) dL_law_1054 (by decide) ?_
  refine x_iaddn (pc := 1055) (a := i) (b := 1) dL_law_1055 ?_
  refine x_sld (pc := 1056) ?_ dL_law_1056 ?_
  · exact vp_in_nI (by omega) (by omega)
  refine x_aload_n (pc := 1057) dL_law_1057 rfl rfl ?_
  refine x_iload_n (pc := 1058) dL_law_1058 rfl rfl ?_
  refine x_iconst (pc := 1059) (v := 2) dL_law_1059 (by decide) ?_
  refine x_iaddn (pc := 1060) (a := i) (b := 2) dL_law_1060 ?_
  refine x_sld (pc := 1061) ?_ dL_law_1061 ?_
  · exact vp_in_nI (by omega) (by omega)
  refine x_callV (pc := 1062) (As := [.int _, .int _]) dL_law_1062 km_X10_read kv_X10_read kl_RL_143 h.1.g_M.s rfl rfl (by decide) hc rfl (Nat.le_of_ble_eq_true rfl) (Nat.le_of_ble_eq_true rfl) (D_read h2.1.g_M m2 v hB (fun I3 L3 m3 f3 => ⟨rfl, rfl, ?_⟩))
  have h3 := h2.low f3.1 f3.2
  refine x_lcmp (pc := 1065) dL_law_1065 ?_
  refine x_if_eq_t (pc := 1066) (tgt := 1134) dL_law_1066 (by decide) (lg_same _) ?_
  exact K _ _ _ _ _ _ _ _ _ _ h3 m3 (v.up)

set_option maxHeartbeats 4000000 in
set_option maxRecDepth 100000 in
theorem lc_shift {T : xT} {n CM SM ca sa i B : Nat} {sh : Nat → Nat × Nat} {I : xI} {R : xR} {L : xL} {P : xPost} {V : xV} {rc : Nat} {ars : Nat → xAR} {t : xX} {W : xW} {A : List Nat} {o : Option xV} (hc : ca ≤ CM ∧ sa ≤ SM) (hT : T.1 ≤ 3072) (hi : i + 6 ≤ T.1) (h : CST sh I R L V rc ars t W A o) (m : MST I L V rc ars t W A o) (v : VLD V rc t W A o B) (hB : B < 800000) (K : xGO T CM SM P n sh ca sa i B) : X T zL_law 30 CM SM P 1071 [(0, .ref 1000000), (1, .ref 0), (2, .ref 137), (3, .int (nI i))] [] (n, sh, ca, sa) I R L := by
  refine x_aload_n (pc := 1071) dL_law_1071 rfl rfl ?_
  refine x_aload_n (pc := 1072) dL_law_1072 rfl rfl ?_
  refine x_iload_n (pc := 1073) dL_law_1073 rfl rfl ?_
  refine x_iconst (pc := 1074) (v := 1) dL_law_1074 (by decide) ?_
  refine x_iaddn (pc := 1075) (a := i) (b := 1) dL_law_1075 ?_
  refine x_sld (pc := 1076) ?_ dL_law_1076 ?_
  · exact vp_in_nI (by omega) (by omega)
  refine x_aload_n (pc := 1077) dL_law_1077 rfl rfl ?_
  refine x_iload_n (pc := 1078) dL_law_1078 rfl rfl ?_
  refine x_iconst (pc := 1079) (v := 2) dL_law_1079 (by decide) ?_
  refine x_iaddn (pc := 1080) (a := i) (b := 2) dL_law_1080 ?_
  refine x_sld (pc := 1081) ?_ dL_law_1081 ?_
  · exact vp_in_nI (by omega) (by omega)
  refine x_aload_n (pc := 1082) dL_law_1082 rfl rfl ?_
  refine x_iload_n (pc := 1083) dL_law_1083 rfl rfl ?_
  refine x_iconst (pc := 1084) (v := 3) dL_law_1084 (by decide) ?_
  refine x_iaddn (pc := 1085) (a := i) (b := 3) dL_law_1085 ?_
  refine x_sld (pc := 1086) ?_ dL_law_1086 ?_
  · exact vp_in_nI (by omega) (by omega)
  refine x_aload_n (pc := 1087) dL_law_1087 rfl rfl ?_
  refine x_iload_n (pc := 1088) dL_law_1088 rfl rfl ?_
  refine x_iconst (pc := 1089) (v := 4) dL_law_1089 (by decide) ?_
  refine x_iaddn (pc := 1090) (a := i) (b := 4) dL_law_1090 ?_
  refine x_sld (pc := 1091) ?_ dL_law_1091 ?_
  · exact vp_in_nI (by omega) (by omega)
  refine x_aload_n (pc := 1092) dL_law_1092 rfl rfl ?_
  refine x_iload_n (pc := 1093) dL_law_1093 rfl rfl ?_
  refine x_iconst (pc := 1094) (v := 5) dL_law_1094 (by decide) ?_
  refine x_iaddn (pc := 1095) (a := i) (b := 5) dL_law_1095 ?_
  refine x_sld (pc := 1096) ?_ dL_law_1096 ?_
  · exact vp_in_nI (by omega) (by omega)
  refine x_callV (pc := 1097) (As := [.int _, .int _, .int _, .int _, .int _]) dL_law_1097 km_X9_shift kv_X9_shift kl_RL_144 h.1.g_x rfl rfl (by decide) hc rfl (Nat.le_of_ble_eq_true rfl) (Nat.le_of_ble_eq_true rfl) (C_shift h v hB (fun I2 R2 L2 h2 f2 => ⟨rfl, rfl, ?_⟩))
  have m2 := m.high f2.1 f2.2
  refine x_aload_n (pc := 1100) dL_law_1100 rfl rfl ?_
  refine x_aload_n (pc := 1101) dL_law_1101 rfl rfl ?_
  refine x_iload_n (pc := 1102) dL_law_1102 rfl rfl ?_
  refine x_iconst (pc := 1103) (v := 1) dL_law_1103 (by decide) ?_
  refine x_iaddn (pc := 1104) (a := i) (b := 1) dL_law_1104 ?_
  refine x_sld (pc := 1105) ?_ dL_law_1105 ?_
  · exact vp_in_nI (by omega) (by omega)
  refine x_aload_n (pc := 1106) dL_law_1106 rfl rfl ?_
  refine x_iload_n (pc := 1107) dL_law_1107 rfl rfl ?_
  refine x_iconst (pc := 1108) (v := 2) dL_law_1108 (by decide) ?_
  refine x_iaddn (pc := 1109) (a := i) (b := 2) dL_law_1109 ?_
  refine x_sld (pc := 1110) ?_ dL_law_1110 ?_
  · exact vp_in_nI (by omega) (by omega)
  refine x_aload_n (pc := 1111) dL_law_1111 rfl rfl ?_
  refine x_iload_n (pc := 1112) dL_law_1112 rfl rfl ?_
  refine x_iconst (pc := 1113) (v := 3) dL_law_1113 (by decide) ?_
  refine x_iaddn (pc := 1114) (a := i) (b := 3) dL_law_1114 ?_
  refine x_sld (pc := 1115) ?_ dL_law_1115 ?_
  · exact vp_in_nI (by omega) (by omega)
  refine x_aload_n (pc := 1116) dL_law_1116 rfl rfl ?_
  refine x_iload_n (pc := 1117) dL_law_1117 rfl rfl ?_
  refine x_iconst (pc := 1118) (v := 4) dL_law_1118 (by decide) ?_
  refine x_iaddn (pc := 1119) (a := i) (b := 4) dL_law_1119 ?_
  refine x_sld (pc := 1120) ?_ dL_law_1120 ?_
  · exact vp_in_nI (by omega) (by omega)
  refine x_aload_n (pc := 1121) dL_law_1121 rfl rfl ?_
  refine x_iload_n (pc := 1122) dL_law_1122 rfl rfl ?_
  refine x_iconst (pc := 1123) (v := 5) dL_law_1123 (by decide) ?_
  refine x_iaddn (pc := 1124) (a := i) (b := 5) dL_law_1124 ?_
  refine x_sld (pc := 1125) ?_ dL_law_1125 ?_
  · exact vp_in_nI (by omega) (by omega)
  refine x_callV (pc := 1126) (As := [.int _, .int _, .int _, .int _, .int _]) dL_law_1126 km_X10_shift kv_X10_shift kl_RL_148 h.1.g_M.s rfl rfl (by decide) hc rfl (Nat.le_of_ble_eq_true rfl) (Nat.le_of_ble_eq_true rfl) (D_shift h2.1.g_M m2 v hB (fun I3 L3 m3 f3 => ⟨rfl, rfl, ?_⟩))
  have h3 := h2.low f3.1 f3.2
  refine x_icmp_eq_t (pc := 1129) (tgt := 1134) dL_law_1129 (by decide) (rfl) ?_
  exact K _ _ _ _ _ _ _ _ _ _ h3 m3 (v.mk2 (v.1.mono (by omega)) v.2.1 v.2.2.1.shift v.2.2.2.1)

