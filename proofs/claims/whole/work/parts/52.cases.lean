set_option maxHeartbeats 4000000 in
set_option maxRecDepth 100000 in
theorem ld_q_street {l : Launch} {K : ld_St → List (Nat × Value) → List Value → Nat → Prop} {ad : Nat → Nat} {b L : Nat} {xs : Nat → Int32} (O : ld_Ok l K ad cL_law 4 RL room_1) (Z : ld_Scr K cL_law b L xs) {σ : ld_St} {T j : Nat} (J : ld_J T σ) (hT : T ≤ 8000) (hj : j + 5 < L) (k : ∀ σ2, ld_J (T + 60) σ2 → K σ2 [(3, .int (nI j)), (2, .ref (ad 8)), (1, .ref (ad 0)), (0, .ref b)] [] 1063) : K σ [(3, .int (nI j)), (2, .ref (ad 8)), (1, .ref (ad 0)), (0, .ref b)] [] 164 := by
  obtain ⟨P, hP, hk⟩ := ld_p_street (l := l) (ad := ad) J hT (xs (j + 1)) (xs (j + 2)) (xs (j + 3)) (xs (j + 4))
  refine ld_aload_n O 2 dL_law_164 rfl rfl ?_
  refine ld_aload_n O 3 dL_law_165 rfl rfl ?_
  refine ld_iload_n O 0 dL_law_166 rfl rfl ?_
  refine ld_iconst O (v := nI 1) dL_law_167 (by decide) ?_
  refine ld_iaddN O dL_law_168 ?_
  refine Z.1 _ _ _ _ (j + 1) (by omega) dL_law_169 ?_
  refine ld_aload_n O 3 dL_law_170 rfl rfl ?_
  refine ld_iload_n O 0 dL_law_171 rfl rfl ?_
  refine ld_iconst O (v := nI 2) dL_law_172 (by decide) ?_
  refine ld_iaddN O dL_law_173 ?_
  refine Z.1 _ _ _ _ (j + 2) (by omega) dL_law_174 ?_
  refine ld_aload_n O 3 dL_law_175 rfl rfl ?_
  refine ld_iload_n O 0 dL_law_176 rfl rfl ?_
  refine ld_iconst O (v := nI 3) dL_law_177 (by decide) ?_
  refine ld_iaddN O dL_law_178 ?_
  refine Z.1 _ _ _ _ (j + 3) (by omega) dL_law_179 ?_
  refine ld_aload_n O 3 dL_law_180 rfl rfl ?_
  refine ld_iload_n O 0 dL_law_181 rfl rfl ?_
  refine ld_iconst O (v := nI 4) dL_law_182 (by decide) ?_
  refine ld_iaddN O dL_law_183 ?_
  refine Z.1 _ _ _ _ (j + 4) (by omega) dL_law_184 ?_
  refine ld_callVi O (pc := 185) (As := [.int (xs (j + 1)), .int (xs (j + 2)), .int (xs (j + 3)), .int (xs (j + 4))]) (st := []) ld_recv0 hP ld_mw_X2_street ld_w69 rfl rfl ⟨by decide, by decide⟩ (Nat.le_of_ble_eq_true rfl) dL_law_185 (fun r σ1 h1 => ?_)
  obtain ⟨P2, hP2, hk2⟩ := hk r σ1 h1
  refine ld_aload_n O 1 dL_law_188 rfl rfl ?_
  refine ld_aload_n O 3 dL_law_189 rfl rfl ?_
  refine ld_iload_n O 0 dL_law_190 rfl rfl ?_
  refine ld_iconst O (v := nI 1) dL_law_191 (by decide) ?_
  refine ld_iaddN O dL_law_192 ?_
  refine Z.1 _ _ _ _ (j + 1) (by omega) dL_law_193 ?_
  refine ld_aload_n O 3 dL_law_194 rfl rfl ?_
  refine ld_iload_n O 0 dL_law_195 rfl rfl ?_
  refine ld_iconst O (v := nI 2) dL_law_196 (by decide) ?_
  refine ld_iaddN O dL_law_197 ?_
  refine Z.1 _ _ _ _ (j + 2) (by omega) dL_law_198 ?_
  refine ld_aload_n O 3 dL_law_199 rfl rfl ?_
  refine ld_iload_n O 0 dL_law_200 rfl rfl ?_
  refine ld_iconst O (v := nI 3) dL_law_201 (by decide) ?_
  refine ld_iaddN O dL_law_202 ?_
  refine Z.1 _ _ _ _ (j + 3) (by omega) dL_law_203 ?_
  refine ld_aload_n O 3 dL_law_204 rfl rfl ?_
  refine ld_iload_n O 0 dL_law_205 rfl rfl ?_
  refine ld_iconst O (v := nI 4) dL_law_206 (by decide) ?_
  refine ld_iaddN O dL_law_207 ?_
  refine Z.1 _ _ _ _ (j + 4) (by omega) dL_law_208 ?_
  refine ld_callVi O (pc := 209) (As := [.int (xs (j + 1)), .int (xs (j + 2)), .int (xs (j + 3)), .int (xs (j + 4))]) (st := [.int r]) ld_recv8 hP2 ld_mw_X3_street ld_w112 rfl rfl ⟨by decide, by decide⟩ (Nat.le_of_ble_eq_true rfl) dL_law_209 (fun r2 σ2 h2 => ?_)
  obtain ⟨rfl, hJ⟩ := hk2 r2 σ2 h2
  exact ld_icmp_eq O r.toInt r.toInt rfl rfl 1063 dL_law_212 (by decide) (fun _ => k σ2 hJ) (fun z => absurd rfl z)
set_option maxHeartbeats 4000000 in
set_option maxRecDepth 100000 in
theorem ld_q_ofHouse {l : Launch} {K : ld_St → List (Nat × Value) → List Value → Nat → Prop} {ad : Nat → Nat} {b L : Nat} {xs : Nat → Int32} (O : ld_Ok l K ad cL_law 4 RL room_1) (Z : ld_Scr K cL_law b L xs) {σ : ld_St} {T j : Nat} (J : ld_J T σ) (hT : T ≤ 8000) (hj : j + 5 < L) (k : ∀ σ2, ld_J (T + 60) σ2 → K σ2 [(3, .int (nI j)), (2, .ref (ad 8)), (1, .ref (ad 0)), (0, .ref b)] [] 1063) : K σ [(3, .int (nI j)), (2, .ref (ad 8)), (1, .ref (ad 0)), (0, .ref b)] [] 217 := by
  obtain ⟨P, hP, hk⟩ := ld_p_ofHouse (l := l) (ad := ad) J hT (xs (j + 1)) (xs (j + 2))
  refine ld_aload_n O 2 dL_law_217 rfl rfl ?_
  refine ld_aload_n O 3 dL_law_218 rfl rfl ?_
  refine ld_iload_n O 0 dL_law_219 rfl rfl ?_
  refine ld_iconst O (v := nI 1) dL_law_220 (by decide) ?_
  refine ld_iaddN O dL_law_221 ?_
  refine Z.1 _ _ _ _ (j + 1) (by omega) dL_law_222 ?_
  refine ld_aload_n O 3 dL_law_223 rfl rfl ?_
  refine ld_iload_n O 0 dL_law_224 rfl rfl ?_
  refine ld_iconst O (v := nI 2) dL_law_225 (by decide) ?_
  refine ld_iaddN O dL_law_226 ?_
  refine Z.1 _ _ _ _ (j + 2) (by omega) dL_law_227 ?_
  refine ld_callVi O (pc := 228) (As := [.int (xs (j + 1)), .int (xs (j + 2))]) (st := []) ld_recv0 hP ld_mw_X2_ofHouse ld_w164 rfl rfl ⟨by decide, by decide⟩ (Nat.le_of_ble_eq_true rfl) dL_law_228 (fun r σ1 h1 => ?_)
  obtain ⟨P2, hP2, hk2⟩ := hk r σ1 h1
  refine ld_aload_n O 1 dL_law_231 rfl rfl ?_
  refine ld_aload_n O 3 dL_law_232 rfl rfl ?_
  refine ld_iload_n O 0 dL_law_233 rfl rfl ?_
  refine ld_iconst O (v := nI 1) dL_law_234 (by decide) ?_
  refine ld_iaddN O dL_law_235 ?_
  refine Z.1 _ _ _ _ (j + 1) (by omega) dL_law_236 ?_
  refine ld_aload_n O 3 dL_law_237 rfl rfl ?_
  refine ld_iload_n O 0 dL_law_238 rfl rfl ?_
  refine ld_iconst O (v := nI 2) dL_law_239 (by decide) ?_
  refine ld_iaddN O dL_law_240 ?_
  refine Z.1 _ _ _ _ (j + 2) (by omega) dL_law_241 ?_
  refine ld_callVi O (pc := 242) (As := [.int (xs (j + 1)), .int (xs (j + 2))]) (st := [.int r]) ld_recv8 hP2 ld_mw_X3_ofHouse ld_w190 rfl rfl ⟨by decide, by decide⟩ (Nat.le_of_ble_eq_true rfl) dL_law_242 (fun r2 σ2 h2 => ?_)
  obtain ⟨rfl, hJ⟩ := hk2 r2 σ2 h2
  exact ld_icmp_eq O r.toInt r.toInt rfl rfl 1063 dL_law_245 (by decide) (fun _ => k σ2 hJ) (fun z => absurd rfl z)
set_option maxHeartbeats 4000000 in
set_option maxRecDepth 100000 in
theorem ld_q_anger {l : Launch} {K : ld_St → List (Nat × Value) → List Value → Nat → Prop} {ad : Nat → Nat} {b L : Nat} {xs : Nat → Int32} (O : ld_Ok l K ad cL_law 4 RL room_1) (Z : ld_Scr K cL_law b L xs) {σ : ld_St} {T j : Nat} (J : ld_J T σ) (hT : T ≤ 8000) (hj : j + 5 < L) (k : ∀ σ2, ld_J (T + 60) σ2 → K σ2 [(3, .int (nI j)), (2, .ref (ad 8)), (1, .ref (ad 0)), (0, .ref b)] [] 1063) : K σ [(3, .int (nI j)), (2, .ref (ad 8)), (1, .ref (ad 0)), (0, .ref b)] [] 250 := by
  obtain ⟨P, hP, hk⟩ := ld_p_anger (l := l) (ad := ad) J hT (xs (j + 1)) (xs (j + 2))
  refine ld_aload_n O 2 dL_law_250 rfl rfl ?_
  refine ld_aload_n O 3 dL_law_251 rfl rfl ?_
  refine ld_iload_n O 0 dL_law_252 rfl rfl ?_
  refine ld_iconst O (v := nI 1) dL_law_253 (by decide) ?_
  refine ld_iaddN O dL_law_254 ?_
  refine Z.1 _ _ _ _ (j + 1) (by omega) dL_law_255 ?_
  refine ld_aload_n O 3 dL_law_256 rfl rfl ?_
  refine ld_iload_n O 0 dL_law_257 rfl rfl ?_
  refine ld_iconst O (v := nI 2) dL_law_258 (by decide) ?_
  refine ld_iaddN O dL_law_259 ?_
  refine Z.1 _ _ _ _ (j + 2) (by omega) dL_law_260 ?_
  refine ld_callVi O (pc := 261) (As := [.int (xs (j + 1)), .int (xs (j + 2))]) (st := []) ld_recv0 hP ld_mw_X2_anger ld_w214 rfl rfl ⟨by decide, by decide⟩ (Nat.le_of_ble_eq_true rfl) dL_law_261 (fun r σ1 h1 => ?_)
  obtain ⟨P2, hP2, hk2⟩ := hk r σ1 h1
  refine ld_aload_n O 1 dL_law_264 rfl rfl ?_
  refine ld_aload_n O 3 dL_law_265 rfl rfl ?_
  refine ld_iload_n O 0 dL_law_266 rfl rfl ?_
  refine ld_iconst O (v := nI 1) dL_law_267 (by decide) ?_
  refine ld_iaddN O dL_law_268 ?_
  refine Z.1 _ _ _ _ (j + 1) (by omega) dL_law_269 ?_
  refine ld_aload_n O 3 dL_law_270 rfl rfl ?_
  refine ld_iload_n O 0 dL_law_271 rfl rfl ?_
  refine ld_iconst O (v := nI 2) dL_law_272 (by decide) ?_
  refine ld_iaddN O dL_law_273 ?_
  refine Z.1 _ _ _ _ (j + 2) (by omega) dL_law_274 ?_
  refine ld_callVi O (pc := 275) (As := [.int (xs (j + 1)), .int (xs (j + 2))]) (st := [.int r]) ld_recv8 hP2 ld_mw_X3_anger ld_w221 rfl rfl ⟨by decide, by decide⟩ (Nat.le_of_ble_eq_true rfl) dL_law_275 (fun r2 σ2 h2 => ?_)
  obtain ⟨rfl, hJ⟩ := hk2 r2 σ2 h2
  exact ld_icmp_eq O r.toInt r.toInt rfl rfl 1063 dL_law_278 (by decide) (fun _ => k σ2 hJ) (fun z => absurd rfl z)
set_option maxHeartbeats 4000000 in
set_option maxRecDepth 100000 in
theorem ld_q_crate {l : Launch} {K : ld_St → List (Nat × Value) → List Value → Nat → Prop} {ad : Nat → Nat} {b L : Nat} {xs : Nat → Int32} (O : ld_Ok l K ad cL_law 4 RL room_1) (Z : ld_Scr K cL_law b L xs) {σ : ld_St} {T j : Nat} (J : ld_J T σ) (hT : T ≤ 8000) (hj : j + 5 < L) (k : ∀ σ2, ld_J (T + 60) σ2 → K σ2 [(3, .int (nI j)), (2, .ref (ad 8)), (1, .ref (ad 0)), (0, .ref b)] [] 1063) : K σ [(3, .int (nI j)), (2, .ref (ad 8)), (1, .ref (ad 0)), (0, .ref b)] [] 283 := by
  obtain ⟨P, hP, hk⟩ := ld_p_crate (l := l) (ad := ad) J hT (xs (j + 1))
  refine ld_aload_n O 2 dL_law_283 rfl rfl ?_
  refine ld_aload_n O 3 dL_law_284 rfl rfl ?_
  refine ld_iload_n O 0 dL_law_285 rfl rfl ?_
  refine ld_iconst O (v := nI 1) dL_law_286 (by decide) ?_
  refine ld_iaddN O dL_law_287 ?_
  refine Z.1 _ _ _ _ (j + 1) (by omega) dL_law_288 ?_
  refine ld_callVi O (pc := 289) (As := [.int (xs (j + 1))]) (st := []) ld_recv0 hP ld_mw_X2_crate ld_w225 rfl rfl ⟨by decide, by decide⟩ (Nat.le_of_ble_eq_true rfl) dL_law_289 (fun r σ1 h1 => ?_)
  obtain ⟨P2, hP2, hk2⟩ := hk r σ1 h1
  refine ld_aload_n O 1 dL_law_292 rfl rfl ?_
  refine ld_aload_n O 3 dL_law_293 rfl rfl ?_
  refine ld_iload_n O 0 dL_law_294 rfl rfl ?_
  refine ld_iconst O (v := nI 1) dL_law_295 (by decide) ?_
  refine ld_iaddN O dL_law_296 ?_
  refine Z.1 _ _ _ _ (j + 1) (by omega) dL_law_297 ?_
  refine ld_callVi O (pc := 298) (As := [.int (xs (j + 1))]) (st := [.int r]) ld_recv8 hP2 ld_mw_X3_crate ld_w236 rfl rfl ⟨by decide, by decide⟩ (Nat.le_of_ble_eq_true rfl) dL_law_298 (fun r2 σ2 h2 => ?_)
  obtain ⟨rfl, hJ⟩ := hk2 r2 σ2 h2
  exact ld_icmp_eq O r.toInt r.toInt rfl rfl 1063 dL_law_301 (by decide) (fun _ => k σ2 hJ) (fun z => absurd rfl z)
set_option maxHeartbeats 4000000 in
set_option maxRecDepth 100000 in
theorem ld_q_deal {l : Launch} {K : ld_St → List (Nat × Value) → List Value → Nat → Prop} {ad : Nat → Nat} {b L : Nat} {xs : Nat → Int32} (O : ld_Ok l K ad cL_law 4 RL room_1) (Z : ld_Scr K cL_law b L xs) {σ : ld_St} {T j : Nat} (J : ld_J T σ) (hT : T ≤ 8000) (hj : j + 5 < L) (k : ∀ σ2, ld_J (T + 60) σ2 → K σ2 [(3, .int (nI j)), (2, .ref (ad 8)), (1, .ref (ad 0)), (0, .ref b)] [] 1063) : K σ [(3, .int (nI j)), (2, .ref (ad 8)), (1, .ref (ad 0)), (0, .ref b)] [] 306 := by
  obtain ⟨P, hP, hk⟩ := ld_p_deal (l := l) (ad := ad) J hT (xs (j + 1)) (xs (j + 2))
  refine ld_aload_n O 2 dL_law_306 rfl rfl ?_
  refine ld_aload_n O 3 dL_law_307 rfl rfl ?_
  refine ld_iload_n O 0 dL_law_308 rfl rfl ?_
  refine ld_iconst O (v := nI 1) dL_law_309 (by decide) ?_
  refine ld_iaddN O dL_law_310 ?_
  refine Z.1 _ _ _ _ (j + 1) (by omega) dL_law_311 ?_
  refine ld_aload_n O 3 dL_law_312 rfl rfl ?_
  refine ld_iload_n O 0 dL_law_313 rfl rfl ?_
  refine ld_iconst O (v := nI 2) dL_law_314 (by decide) ?_
  refine ld_iaddN O dL_law_315 ?_
  refine Z.1 _ _ _ _ (j + 2) (by omega) dL_law_316 ?_
  refine ld_callVi O (pc := 317) (As := [.int (xs (j + 1)), .int (xs (j + 2))]) (st := []) ld_recv0 hP ld_mw_X2_deal ld_w244 rfl rfl ⟨by decide, by decide⟩ (Nat.le_of_ble_eq_true rfl) dL_law_317 (fun r σ1 h1 => ?_)
  obtain ⟨P2, hP2, hk2⟩ := hk r σ1 h1
  refine ld_aload_n O 1 dL_law_320 rfl rfl ?_
  refine ld_aload_n O 3 dL_law_321 rfl rfl ?_
  refine ld_iload_n O 0 dL_law_322 rfl rfl ?_
  refine ld_iconst O (v := nI 1) dL_law_323 (by decide) ?_
  refine ld_iaddN O dL_law_324 ?_
  refine Z.1 _ _ _ _ (j + 1) (by omega) dL_law_325 ?_
  refine ld_aload_n O 3 dL_law_326 rfl rfl ?_
  refine ld_iload_n O 0 dL_law_327 rfl rfl ?_
  refine ld_iconst O (v := nI 2) dL_law_328 (by decide) ?_
  refine ld_iaddN O dL_law_329 ?_
  refine Z.1 _ _ _ _ (j + 2) (by omega) dL_law_330 ?_
  refine ld_callVi O (pc := 331) (As := [.int (xs (j + 1)), .int (xs (j + 2))]) (st := [.int r]) ld_recv8 hP2 ld_mw_X3_deal ld_w248 rfl rfl ⟨by decide, by decide⟩ (Nat.le_of_ble_eq_true rfl) dL_law_331 (fun r2 σ2 h2 => ?_)
  obtain ⟨rfl, hJ⟩ := hk2 r2 σ2 h2
  exact ld_icmp_eq O r.toInt r.toInt rfl rfl 1063 dL_law_334 (by decide) (fun _ => k σ2 hJ) (fun z => absurd rfl z)
set_option maxHeartbeats 4000000 in
set_option maxRecDepth 100000 in
theorem ld_q_weeks {l : Launch} {K : ld_St → List (Nat × Value) → List Value → Nat → Prop} {ad : Nat → Nat} {b L : Nat} {xs : Nat → Int32} (O : ld_Ok l K ad cL_law 4 RL room_1) (Z : ld_Scr K cL_law b L xs) {σ : ld_St} {T j : Nat} (J : ld_J T σ) (hT : T ≤ 8000) (hj : j + 5 < L) (k : ∀ σ2, ld_J (T + 60) σ2 → K σ2 [(3, .int (nI j)), (2, .ref (ad 8)), (1, .ref (ad 0)), (0, .ref b)] [] 1063) : K σ [(3, .int (nI j)), (2, .ref (ad 8)), (1, .ref (ad 0)), (0, .ref b)] [] 339 := by
  obtain ⟨P, hP, hk⟩ := ld_p_weeks (l := l) (ad := ad) J hT (xs (j + 1))
  refine ld_aload_n O 2 dL_law_339 rfl rfl ?_
  refine ld_aload_n O 3 dL_law_340 rfl rfl ?_
  refine ld_iload_n O 0 dL_law_341 rfl rfl ?_
  refine ld_iconst O (v := nI 1) dL_law_342 (by decide) ?_
  refine ld_iaddN O dL_law_343 ?_
  refine Z.1 _ _ _ _ (j + 1) (by omega) dL_law_344 ?_
  refine ld_callVi O (pc := 345) (As := [.int (xs (j + 1))]) (st := []) ld_recv0 hP ld_mw_X2_weeks ld_w252 rfl rfl ⟨by decide, by decide⟩ (Nat.le_of_ble_eq_true rfl) dL_law_345 (fun r σ1 h1 => ?_)
  obtain ⟨P2, hP2, hk2⟩ := hk r σ1 h1
  refine ld_aload_n O 1 dL_law_348 rfl rfl ?_
  refine ld_aload_n O 3 dL_law_349 rfl rfl ?_
  refine ld_iload_n O 0 dL_law_350 rfl rfl ?_
  refine ld_iconst O (v := nI 1) dL_law_351 (by decide) ?_
  refine ld_iaddN O dL_law_352 ?_
  refine Z.1 _ _ _ _ (j + 1) (by omega) dL_law_353 ?_
  refine ld_callVi O (pc := 354) (As := [.int (xs (j + 1))]) (st := [.int r]) ld_recv8 hP2 ld_mw_X3_weeks ld_w275 rfl rfl ⟨by decide, by decide⟩ (Nat.le_of_ble_eq_true rfl) dL_law_354 (fun r2 σ2 h2 => ?_)
  obtain ⟨rfl, hJ⟩ := hk2 r2 σ2 h2
  exact ld_icmp_eq O r.toInt r.toInt rfl rfl 1063 dL_law_357 (by decide) (fun _ => k σ2 hJ) (fun z => absurd rfl z)
set_option maxHeartbeats 4000000 in
set_option maxRecDepth 100000 in
theorem ld_q_gift {l : Launch} {K : ld_St → List (Nat × Value) → List Value → Nat → Prop} {ad : Nat → Nat} {b L : Nat} {xs : Nat → Int32} (O : ld_Ok l K ad cL_law 4 RL room_1) (Z : ld_Scr K cL_law b L xs) {σ : ld_St} {T j : Nat} (J : ld_J T σ) (hT : T ≤ 8000) (hj : j + 5 < L) (k : ∀ σ2, ld_J (T + 60) σ2 → K σ2 [(3, .int (nI j)), (2, .ref (ad 8)), (1, .ref (ad 0)), (0, .ref b)] [] 1063) : K σ [(3, .int (nI j)), (2, .ref (ad 8)), (1, .ref (ad 0)), (0, .ref b)] [] 362 := by
  obtain ⟨P, hP, hk⟩ := ld_p_gift (l := l) (ad := ad) J hT (xs (j + 1))
  refine ld_aload_n O 2 dL_law_362 rfl rfl ?_
  refine ld_aload_n O 3 dL_law_363 rfl rfl ?_
  refine ld_iload_n O 0 dL_law_364 rfl rfl ?_
  refine ld_iconst O (v := nI 1) dL_law_365 (by decide) ?_
  refine ld_iaddN O dL_law_366 ?_
  refine Z.1 _ _ _ _ (j + 1) (by omega) dL_law_367 ?_
  refine ld_callVi O (pc := 368) (As := [.int (xs (j + 1))]) (st := []) ld_recv0 hP ld_mw_X2_gift ld_w288 rfl rfl ⟨by decide, by decide⟩ (Nat.le_of_ble_eq_true rfl) dL_law_368 (fun r σ1 h1 => ?_)
  obtain ⟨P2, hP2, hk2⟩ := hk r σ1 h1
  refine ld_aload_n O 1 dL_law_371 rfl rfl ?_
  refine ld_aload_n O 3 dL_law_372 rfl rfl ?_
  refine ld_iload_n O 0 dL_law_373 rfl rfl ?_
  refine ld_iconst O (v := nI 1) dL_law_374 (by decide) ?_
  refine ld_iaddN O dL_law_375 ?_
  refine Z.1 _ _ _ _ (j + 1) (by omega) dL_law_376 ?_
  refine ld_callVi O (pc := 377) (As := [.int (xs (j + 1))]) (st := [.int r]) ld_recv8 hP2 ld_mw_X3_gift ld_w295 rfl rfl ⟨by decide, by decide⟩ (Nat.le_of_ble_eq_true rfl) dL_law_377 (fun r2 σ2 h2 => ?_)
  obtain ⟨rfl, hJ⟩ := hk2 r2 σ2 h2
  exact ld_icmp_eq O r.toInt r.toInt rfl rfl 1063 dL_law_380 (by decide) (fun _ => k σ2 hJ) (fun z => absurd rfl z)
set_option maxHeartbeats 4000000 in
set_option maxRecDepth 100000 in
theorem ld_q_season {l : Launch} {K : ld_St → List (Nat × Value) → List Value → Nat → Prop} {ad : Nat → Nat} {b L : Nat} {xs : Nat → Int32} (O : ld_Ok l K ad cL_law 4 RL room_1) (Z : ld_Scr K cL_law b L xs) {σ : ld_St} {T j : Nat} (J : ld_J T σ) (hT : T ≤ 8000) (hj : j + 5 < L) (k : ∀ σ2, ld_J (T + 60) σ2 → K σ2 [(3, .int (nI j)), (2, .ref (ad 8)), (1, .ref (ad 0)), (0, .ref b)] [] 1063) : K σ [(3, .int (nI j)), (2, .ref (ad 8)), (1, .ref (ad 0)), (0, .ref b)] [] 385 := by
  obtain ⟨P, hP, hk⟩ := ld_p_season (l := l) (ad := ad) J hT (xs (j + 1)) (xs (j + 2)) (xs (j + 3)) (xs (j + 4)) (xs (j + 5))
  refine ld_aload_n O 2 dL_law_385 rfl rfl ?_
  refine ld_aload_n O 3 dL_law_386 rfl rfl ?_
  refine ld_iload_n O 0 dL_law_387 rfl rfl ?_
  refine ld_iconst O (v := nI 1) dL_law_388 (by decide) ?_
  refine ld_iaddN O dL_law_389 ?_
  refine Z.1 _ _ _ _ (j + 1) (by omega) dL_law_390 ?_
  refine ld_aload_n O 3 dL_law_391 rfl rfl ?_
  refine ld_iload_n O 0 dL_law_392 rfl rfl ?_
  refine ld_iconst O (v := nI 2) dL_law_393 (by decide) ?_
  refine ld_iaddN O dL_law_394 ?_
  refine Z.1 _ _ _ _ (j + 2) (by omega) dL_law_395 ?_
  refine ld_aload_n O 3 dL_law_396 rfl rfl ?_
  refine ld_iload_n O 0 dL_law_397 rfl rfl ?_
  refine ld_iconst O (v := nI 3) dL_law_398 (by decide) ?_
  refine ld_iaddN O dL_law_399 ?_
  refine Z.1 _ _ _ _ (j + 3) (by omega) dL_law_400 ?_
  refine ld_aload_n O 3 dL_law_401 rfl rfl ?_
  refine ld_iload_n O 0 dL_law_402 rfl rfl ?_
  refine ld_iconst O (v := nI 4) dL_law_403 (by decide) ?_
  refine ld_iaddN O dL_law_404 ?_
  refine Z.1 _ _ _ _ (j + 4) (by omega) dL_law_405 ?_
  refine ld_aload_n O 3 dL_law_406 rfl rfl ?_
  refine ld_iload_n O 0 dL_law_407 rfl rfl ?_
  refine ld_iconst O (v := nI 5) dL_law_408 (by decide) ?_
  refine ld_iaddN O dL_law_409 ?_
  refine Z.1 _ _ _ _ (j + 5) (by omega) dL_law_410 ?_
  refine ld_callVi O (pc := 411) (As := [.int (xs (j + 1)), .int (xs (j + 2)), .int (xs (j + 3)), .int (xs (j + 4)), .int (xs (j + 5))]) (st := []) ld_recv0 hP ld_mw_X2_season ld_w303 rfl rfl ⟨by decide, by decide⟩ (Nat.le_of_ble_eq_true rfl) dL_law_411 (fun r σ1 h1 => ?_)
  obtain ⟨P2, hP2, hk2⟩ := hk r σ1 h1
  refine ld_aload_n O 1 dL_law_414 rfl rfl ?_
  refine ld_aload_n O 3 dL_law_415 rfl rfl ?_
  refine ld_iload_n O 0 dL_law_416 rfl rfl ?_
  refine ld_iconst O (v := nI 1) dL_law_417 (by decide) ?_
  refine ld_iaddN O dL_law_418 ?_
  refine Z.1 _ _ _ _ (j + 1) (by omega) dL_law_419 ?_
  refine ld_aload_n O 3 dL_law_420 rfl rfl ?_
  refine ld_iload_n O 0 dL_law_421 rfl rfl ?_
  refine ld_iconst O (v := nI 2) dL_law_422 (by decide) ?_
  refine ld_iaddN O dL_law_423 ?_
  refine Z.1 _ _ _ _ (j + 2) (by omega) dL_law_424 ?_
  refine ld_aload_n O 3 dL_law_425 rfl rfl ?_
  refine ld_iload_n O 0 dL_law_426 rfl rfl ?_
  refine ld_iconst O (v := nI 3) dL_law_427 (by decide) ?_
  refine ld_iaddN O dL_law_428 ?_
  refine Z.1 _ _ _ _ (j + 3) (by omega) dL_law_429 ?_
  refine ld_aload_n O 3 dL_law_430 rfl rfl ?_
  refine ld_iload_n O 0 dL_law_431 rfl rfl ?_
  refine ld_iconst O (v := nI 4) dL_law_432 (by decide) ?_
  refine ld_iaddN O dL_law_433 ?_
  refine Z.1 _ _ _ _ (j + 4) (by omega) dL_law_434 ?_
  refine ld_aload_n O 3 dL_law_435 rfl rfl ?_
  refine ld_iload_n O 0 dL_law_436 rfl rfl ?_
  refine ld_iconst O (v := nI 5) dL_law_437 (by decide) ?_
  refine ld_iaddN O dL_law_438 ?_
  refine Z.1 _ _ _ _ (j + 5) (by omega) dL_law_439 ?_
  refine ld_callVi O (pc := 440) (As := [.int (xs (j + 1)), .int (xs (j + 2)), .int (xs (j + 3)), .int (xs (j + 4)), .int (xs (j + 5))]) (st := [.int r]) ld_recv8 hP2 ld_mw_X3_season ld_w336 rfl rfl ⟨by decide, by decide⟩ (Nat.le_of_ble_eq_true rfl) dL_law_440 (fun r2 σ2 h2 => ?_)
  obtain ⟨rfl, hJ⟩ := hk2 r2 σ2 h2
  exact ld_icmp_eq O r.toInt r.toInt rfl rfl 1063 dL_law_443 (by decide) (fun _ => k σ2 hJ) (fun z => absurd rfl z)
set_option maxHeartbeats 4000000 in
set_option maxRecDepth 100000 in
theorem ld_q_calm {l : Launch} {K : ld_St → List (Nat × Value) → List Value → Nat → Prop} {ad : Nat → Nat} {b L : Nat} {xs : Nat → Int32} (O : ld_Ok l K ad cL_law 4 RL room_1) (Z : ld_Scr K cL_law b L xs) {σ : ld_St} {T j : Nat} (J : ld_J T σ) (hT : T ≤ 8000) (hj : j + 5 < L) (k : ∀ σ2, ld_J (T + 60) σ2 → K σ2 [(3, .int (nI j)), (2, .ref (ad 8)), (1, .ref (ad 0)), (0, .ref b)] [] 1063) : K σ [(3, .int (nI j)), (2, .ref (ad 8)), (1, .ref (ad 0)), (0, .ref b)] [] 448 := by
  obtain ⟨P, hP, hk⟩ := ld_p_calm (l := l) (ad := ad) J hT (xs (j + 1)) (xs (j + 2))
  refine ld_aload_n O 2 dL_law_448 rfl rfl ?_
  refine ld_aload_n O 3 dL_law_449 rfl rfl ?_
  refine ld_iload_n O 0 dL_law_450 rfl rfl ?_
  refine ld_iconst O (v := nI 1) dL_law_451 (by decide) ?_
  refine ld_iaddN O dL_law_452 ?_
  refine Z.1 _ _ _ _ (j + 1) (by omega) dL_law_453 ?_
  refine ld_aload_n O 3 dL_law_454 rfl rfl ?_
  refine ld_iload_n O 0 dL_law_455 rfl rfl ?_
  refine ld_iconst O (v := nI 2) dL_law_456 (by decide) ?_
  refine ld_iaddN O dL_law_457 ?_
  refine Z.1 _ _ _ _ (j + 2) (by omega) dL_law_458 ?_
  refine ld_callVi O (pc := 459) (As := [.int (xs (j + 1)), .int (xs (j + 2))]) (st := []) ld_recv0 hP ld_mw_X2_calm ld_w367 rfl rfl ⟨by decide, by decide⟩ (Nat.le_of_ble_eq_true rfl) dL_law_459 (fun r σ1 h1 => ?_)
  obtain ⟨P2, hP2, hk2⟩ := hk r σ1 h1
  refine ld_aload_n O 1 dL_law_462 rfl rfl ?_
  refine ld_aload_n O 3 dL_law_463 rfl rfl ?_
  refine ld_iload_n O 0 dL_law_464 rfl rfl ?_
  refine ld_iconst O (v := nI 1) dL_law_465 (by decide) ?_
  refine ld_iaddN O dL_law_466 ?_
  refine Z.1 _ _ _ _ (j + 1) (by omega) dL_law_467 ?_
  refine ld_aload_n O 3 dL_law_468 rfl rfl ?_
  refine ld_iload_n O 0 dL_law_469 rfl rfl ?_
  refine ld_iconst O (v := nI 2) dL_law_470 (by decide) ?_
  refine ld_iaddN O dL_law_471 ?_
  refine Z.1 _ _ _ _ (j + 2) (by omega) dL_law_472 ?_
  refine ld_callVi O (pc := 473) (As := [.int (xs (j + 1)), .int (xs (j + 2))]) (st := [.int r]) ld_recv8 hP2 ld_mw_X3_calm ld_w374 rfl rfl ⟨by decide, by decide⟩ (Nat.le_of_ble_eq_true rfl) dL_law_473 (fun r2 σ2 h2 => ?_)
  obtain ⟨rfl, hJ⟩ := hk2 r2 σ2 h2
  exact ld_icmp_eq O r.toInt r.toInt rfl rfl 1063 dL_law_476 (by decide) (fun _ => k σ2 hJ) (fun z => absurd rfl z)
set_option maxHeartbeats 4000000 in
set_option maxRecDepth 100000 in
theorem ld_q_wonder {l : Launch} {K : ld_St → List (Nat × Value) → List Value → Nat → Prop} {ad : Nat → Nat} {b L : Nat} {xs : Nat → Int32} (O : ld_Ok l K ad cL_law 4 RL room_1) (Z : ld_Scr K cL_law b L xs) {σ : ld_St} {T j : Nat} (J : ld_J T σ) (hT : T ≤ 8000) (hj : j + 5 < L) (k : ∀ σ2, ld_J (T + 60) σ2 → K σ2 [(3, .int (nI j)), (2, .ref (ad 8)), (1, .ref (ad 0)), (0, .ref b)] [] 1063) : K σ [(3, .int (nI j)), (2, .ref (ad 8)), (1, .ref (ad 0)), (0, .ref b)] [] 481 := by
  obtain ⟨P, hP, hk⟩ := ld_p_wonder (l := l) (ad := ad) J hT (xs (j + 1))
  refine ld_aload_n O 2 dL_law_481 rfl rfl ?_
  refine ld_aload_n O 3 dL_law_482 rfl rfl ?_
  refine ld_iload_n O 0 dL_law_483 rfl rfl ?_
  refine ld_iconst O (v := nI 1) dL_law_484 (by decide) ?_
  refine ld_iaddN O dL_law_485 ?_
  refine Z.1 _ _ _ _ (j + 1) (by omega) dL_law_486 ?_
  refine ld_callVi O (pc := 487) (As := [.int (xs (j + 1))]) (st := []) ld_recv0 hP ld_mw_X2_wonder ld_w383 rfl rfl ⟨by decide, by decide⟩ (Nat.le_of_ble_eq_true rfl) dL_law_487 (fun r σ1 h1 => ?_)
  obtain ⟨P2, hP2, hk2⟩ := hk r σ1 h1
  refine ld_aload_n O 1 dL_law_490 rfl rfl ?_
  refine ld_aload_n O 3 dL_law_491 rfl rfl ?_
  refine ld_iload_n O 0 dL_law_492 rfl rfl ?_
  refine ld_iconst O (v := nI 1) dL_law_493 (by decide) ?_
  refine ld_iaddN O dL_law_494 ?_
  refine Z.1 _ _ _ _ (j + 1) (by omega) dL_law_495 ?_
  refine ld_callVi O (pc := 496) (As := [.int (xs (j + 1))]) (st := [.int r]) ld_recv8 hP2 ld_mw_X3_wonder ld_w391 rfl rfl ⟨by decide, by decide⟩ (Nat.le_of_ble_eq_true rfl) dL_law_496 (fun r2 σ2 h2 => ?_)
  obtain ⟨rfl, hJ⟩ := hk2 r2 σ2 h2
  exact ld_icmp_eq O r.toInt r.toInt rfl rfl 1063 dL_law_499 (by decide) (fun _ => k σ2 hJ) (fun z => absurd rfl z)
set_option maxHeartbeats 4000000 in
set_option maxRecDepth 100000 in
theorem ld_q_otherwise {l : Launch} {K : ld_St → List (Nat × Value) → List Value → Nat → Prop} {ad : Nat → Nat} {b L : Nat} {xs : Nat → Int32} (O : ld_Ok l K ad cL_law 4 RL room_1) (Z : ld_Scr K cL_law b L xs) {σ : ld_St} {T j : Nat} (J : ld_J T σ) (hT : T ≤ 8000) (hj : j + 5 < L) (k : ∀ σ2, ld_J (T + 60) σ2 → K σ2 [(3, .int (nI j)), (2, .ref (ad 8)), (1, .ref (ad 0)), (0, .ref b)] [] 1063) : K σ [(3, .int (nI j)), (2, .ref (ad 8)), (1, .ref (ad 0)), (0, .ref b)] [] 504 := by
  obtain ⟨P, hP, hk⟩ := ld_p_otherwise (l := l) (ad := ad) J hT (xs (j + 1))
  refine ld_aload_n O 2 dL_law_504 rfl rfl ?_
  refine ld_aload_n O 3 dL_law_505 rfl rfl ?_
  refine ld_iload_n O 0 dL_law_506 rfl rfl ?_
  refine ld_iconst O (v := nI 1) dL_law_507 (by decide) ?_
  refine ld_iaddN O dL_law_508 ?_
  refine Z.1 _ _ _ _ (j + 1) (by omega) dL_law_509 ?_
  refine ld_callVi O (pc := 510) (As := [.int (xs (j + 1))]) (st := []) ld_recv0 hP ld_mw_X2_otherwise ld_w395 rfl rfl ⟨by decide, by decide⟩ (Nat.le_of_ble_eq_true rfl) dL_law_510 (fun r σ1 h1 => ?_)
  obtain ⟨P2, hP2, hk2⟩ := hk r σ1 h1
  refine ld_aload_n O 1 dL_law_513 rfl rfl ?_
  refine ld_aload_n O 3 dL_law_514 rfl rfl ?_
  refine ld_iload_n O 0 dL_law_515 rfl rfl ?_
  refine ld_iconst O (v := nI 1) dL_law_516 (by decide) ?_
  refine ld_iaddN O dL_law_517 ?_
  refine Z.1 _ _ _ _ (j + 1) (by omega) dL_law_518 ?_
  refine ld_callVi O (pc := 519) (As := [.int (xs (j + 1))]) (st := [.int r]) ld_recv8 hP2 ld_mw_X3_otherwise ld_w410 rfl rfl ⟨by decide, by decide⟩ (Nat.le_of_ble_eq_true rfl) dL_law_519 (fun r2 σ2 h2 => ?_)
  obtain ⟨rfl, hJ⟩ := hk2 r2 σ2 h2
  exact ld_icmp_eq O r.toInt r.toInt rfl rfl 1063 dL_law_522 (by decide) (fun _ => k σ2 hJ) (fun z => absurd rfl z)
set_option maxHeartbeats 4000000 in
set_option maxRecDepth 100000 in
theorem ld_q_halves {l : Launch} {K : ld_St → List (Nat × Value) → List Value → Nat → Prop} {ad : Nat → Nat} {b L : Nat} {xs : Nat → Int32} (O : ld_Ok l K ad cL_law 4 RL room_1) (Z : ld_Scr K cL_law b L xs) {σ : ld_St} {T j : Nat} (J : ld_J T σ) (hT : T ≤ 8000) (hj : j + 5 < L) (k : ∀ σ2, ld_J (T + 60) σ2 → K σ2 [(3, .int (nI j)), (2, .ref (ad 8)), (1, .ref (ad 0)), (0, .ref b)] [] 1063) : K σ [(3, .int (nI j)), (2, .ref (ad 8)), (1, .ref (ad 0)), (0, .ref b)] [] 527 := by
  obtain ⟨P, hP, hk⟩ := ld_p_halves (l := l) (ad := ad) J hT (xs (j + 1))
  refine ld_aload_n O 2 dL_law_527 rfl rfl ?_
  refine ld_aload_n O 3 dL_law_528 rfl rfl ?_
  refine ld_iload_n O 0 dL_law_529 rfl rfl ?_
  refine ld_iconst O (v := nI 1) dL_law_530 (by decide) ?_
  refine ld_iaddN O dL_law_531 ?_
  refine Z.1 _ _ _ _ (j + 1) (by omega) dL_law_532 ?_
  refine ld_callVi O (pc := 533) (As := [.int (xs (j + 1))]) (st := []) ld_recv0 hP ld_mw_X2_halves ld_w418 rfl rfl ⟨by decide, by decide⟩ (Nat.le_of_ble_eq_true rfl) dL_law_533 (fun r σ1 h1 => ?_)
  obtain ⟨P2, hP2, hk2⟩ := hk r σ1 h1
  refine ld_aload_n O 1 dL_law_536 rfl rfl ?_
  refine ld_aload_n O 3 dL_law_537 rfl rfl ?_
  refine ld_iload_n O 0 dL_law_538 rfl rfl ?_
  refine ld_iconst O (v := nI 1) dL_law_539 (by decide) ?_
  refine ld_iaddN O dL_law_540 ?_
  refine Z.1 _ _ _ _ (j + 1) (by omega) dL_law_541 ?_
  refine ld_callVi O (pc := 542) (As := [.int (xs (j + 1))]) (st := [.int r]) ld_recv8 hP2 ld_mw_X3_halves ld_w429 rfl rfl ⟨by decide, by decide⟩ (Nat.le_of_ble_eq_true rfl) dL_law_542 (fun r2 σ2 h2 => ?_)
  obtain ⟨rfl, hJ⟩ := hk2 r2 σ2 h2
  exact ld_icmp_eq O r.toInt r.toInt rfl rfl 1063 dL_law_545 (by decide) (fun _ => k σ2 hJ) (fun z => absurd rfl z)
set_option maxHeartbeats 4000000 in
set_option maxRecDepth 100000 in
theorem ld_q_reading {l : Launch} {K : ld_St → List (Nat × Value) → List Value → Nat → Prop} {ad : Nat → Nat} {b L : Nat} {xs : Nat → Int32} (O : ld_Ok l K ad cL_law 4 RL room_1) (Z : ld_Scr K cL_law b L xs) {σ : ld_St} {T j : Nat} (J : ld_J T σ) (hT : T ≤ 8000) (hj : j + 5 < L) (k : ∀ σ2, ld_J (T + 60) σ2 → K σ2 [(3, .int (nI j)), (2, .ref (ad 8)), (1, .ref (ad 0)), (0, .ref b)] [] 1063) : K σ [(3, .int (nI j)), (2, .ref (ad 8)), (1, .ref (ad 0)), (0, .ref b)] [] 550 := by
  obtain ⟨P, hP, hk⟩ := ld_p_reading (l := l) (ad := ad) J hT (xs (j + 1)) (xs (j + 2))
  refine ld_aload_n O 2 dL_law_550 rfl rfl ?_
  refine ld_aload_n O 3 dL_law_551 rfl rfl ?_
  refine ld_iload_n O 0 dL_law_552 rfl rfl ?_
  refine ld_iconst O (v := nI 1) dL_law_553 (by decide) ?_
  refine ld_iaddN O dL_law_554 ?_
  refine Z.1 _ _ _ _ (j + 1) (by omega) dL_law_555 ?_
  refine ld_aload_n O 3 dL_law_556 rfl rfl ?_
  refine ld_iload_n O 0 dL_law_557 rfl rfl ?_
  refine ld_iconst O (v := nI 2) dL_law_558 (by decide) ?_
  refine ld_iaddN O dL_law_559 ?_
  refine Z.1 _ _ _ _ (j + 2) (by omega) dL_law_560 ?_
  refine ld_callVi O (pc := 561) (As := [.int (xs (j + 1)), .int (xs (j + 2))]) (st := []) ld_recv0 hP ld_mw_X2_reading ld_w440 rfl rfl ⟨by decide, by decide⟩ (Nat.le_of_ble_eq_true rfl) dL_law_561 (fun r σ1 h1 => ?_)
  obtain ⟨P2, hP2, hk2⟩ := hk r σ1 h1
  refine ld_aload_n O 1 dL_law_564 rfl rfl ?_
  refine ld_aload_n O 3 dL_law_565 rfl rfl ?_
  refine ld_iload_n O 0 dL_law_566 rfl rfl ?_
  refine ld_iconst O (v := nI 1) dL_law_567 (by decide) ?_
  refine ld_iaddN O dL_law_568 ?_
  refine Z.1 _ _ _ _ (j + 1) (by omega) dL_law_569 ?_
  refine ld_aload_n O 3 dL_law_570 rfl rfl ?_
  refine ld_iload_n O 0 dL_law_571 rfl rfl ?_
  refine ld_iconst O (v := nI 2) dL_law_572 (by decide) ?_
  refine ld_iaddN O dL_law_573 ?_
  refine Z.1 _ _ _ _ (j + 2) (by omega) dL_law_574 ?_
  refine ld_callVi O (pc := 575) (As := [.int (xs (j + 1)), .int (xs (j + 2))]) (st := [.int r]) ld_recv8 hP2 ld_mw_X3_reading ld_w444 rfl rfl ⟨by decide, by decide⟩ (Nat.le_of_ble_eq_true rfl) dL_law_575 (fun r2 σ2 h2 => ?_)
  obtain ⟨rfl, hJ⟩ := hk2 r2 σ2 h2
  exact ld_icmp_eq O r.toInt r.toInt rfl rfl 1063 dL_law_578 (by decide) (fun _ => k σ2 hJ) (fun z => absurd rfl z)
set_option maxHeartbeats 4000000 in
set_option maxRecDepth 100000 in
theorem ld_q_back {l : Launch} {K : ld_St → List (Nat × Value) → List Value → Nat → Prop} {ad : Nat → Nat} {b L : Nat} {xs : Nat → Int32} (O : ld_Ok l K ad cL_law 4 RL room_1) (Z : ld_Scr K cL_law b L xs) {σ : ld_St} {T j : Nat} (J : ld_J T σ) (hT : T ≤ 8000) (hj : j + 5 < L) (k : ∀ σ2, ld_J (T + 60) σ2 → K σ2 [(3, .int (nI j)), (2, .ref (ad 8)), (1, .ref (ad 0)), (0, .ref b)] [] 1063) : K σ [(3, .int (nI j)), (2, .ref (ad 8)), (1, .ref (ad 0)), (0, .ref b)] [] 583 := by
  obtain ⟨P, hP, hk⟩ := ld_p_back (l := l) (ad := ad) J hT (xs (j + 1))
  refine ld_aload_n O 2 dL_law_583 rfl rfl ?_
  refine ld_aload_n O 3 dL_law_584 rfl rfl ?_
  refine ld_iload_n O 0 dL_law_585 rfl rfl ?_
  refine ld_iconst O (v := nI 1) dL_law_586 (by decide) ?_
  refine ld_iaddN O dL_law_587 ?_
  refine Z.1 _ _ _ _ (j + 1) (by omega) dL_law_588 ?_
  refine ld_callVi O (pc := 589) (As := [.int (xs (j + 1))]) (st := []) ld_recv0 hP ld_mw_X2_back ld_w448 rfl rfl ⟨by decide, by decide⟩ (Nat.le_of_ble_eq_true rfl) dL_law_589 (fun r σ1 h1 => ?_)
  obtain ⟨P2, hP2, hk2⟩ := hk r σ1 h1
  refine ld_aload_n O 1 dL_law_592 rfl rfl ?_
  refine ld_aload_n O 3 dL_law_593 rfl rfl ?_
  refine ld_iload_n O 0 dL_law_594 rfl rfl ?_
  refine ld_iconst O (v := nI 1) dL_law_595 (by decide) ?_
  refine ld_iaddN O dL_law_596 ?_
  refine Z.1 _ _ _ _ (j + 1) (by omega) dL_law_597 ?_
  refine ld_callVi O (pc := 598) (As := [.int (xs (j + 1))]) (st := [.int r]) ld_recv8 hP2 ld_mw_X3_back ld_w452 rfl rfl ⟨by decide, by decide⟩ (Nat.le_of_ble_eq_true rfl) dL_law_598 (fun r2 σ2 h2 => ?_)
  obtain ⟨rfl, hJ⟩ := hk2 r2 σ2 h2
  exact ld_icmp_eq O r.toInt r.toInt rfl rfl 1063 dL_law_601 (by decide) (fun _ => k σ2 hJ) (fun z => absurd rfl z)
set_option maxHeartbeats 4000000 in
set_option maxRecDepth 100000 in
theorem ld_q_tempers {l : Launch} {K : ld_St → List (Nat × Value) → List Value → Nat → Prop} {ad : Nat → Nat} {b L : Nat} {xs : Nat → Int32} (O : ld_Ok l K ad cL_law 4 RL room_1) (Z : ld_Scr K cL_law b L xs) {σ : ld_St} {T j : Nat} (J : ld_J T σ) (hT : T ≤ 8000) (hj : j + 5 < L) (k : ∀ σ2, ld_J (T + 60) σ2 → K σ2 [(3, .int (nI j)), (2, .ref (ad 8)), (1, .ref (ad 0)), (0, .ref b)] [] 1063) : K σ [(3, .int (nI j)), (2, .ref (ad 8)), (1, .ref (ad 0)), (0, .ref b)] [] 606 := by
  obtain ⟨P, hP, hk⟩ := ld_p_tempers (l := l) (ad := ad) J hT (xs (j + 1))
  refine ld_aload_n O 2 dL_law_606 rfl rfl ?_
  refine ld_aload_n O 3 dL_law_607 rfl rfl ?_
  refine ld_iload_n O 0 dL_law_608 rfl rfl ?_
  refine ld_iconst O (v := nI 1) dL_law_609 (by decide) ?_
  refine ld_iaddN O dL_law_610 ?_
  refine Z.1 _ _ _ _ (j + 1) (by omega) dL_law_611 ?_
  refine ld_callVi O (pc := 612) (As := [.int (xs (j + 1))]) (st := []) ld_recv0 hP ld_mw_X2_tempers ld_w456 rfl rfl ⟨by decide, by decide⟩ (Nat.le_of_ble_eq_true rfl) dL_law_612 (fun r σ1 h1 => ?_)
  obtain ⟨P2, hP2, hk2⟩ := hk r σ1 h1
  refine ld_aload_n O 1 dL_law_615 rfl rfl ?_
  refine ld_aload_n O 3 dL_law_616 rfl rfl ?_
  refine ld_iload_n O 0 dL_law_617 rfl rfl ?_
  refine ld_iconst O (v := nI 1) dL_law_618 (by decide) ?_
  refine ld_iaddN O dL_law_619 ?_
  refine Z.1 _ _ _ _ (j + 1) (by omega) dL_law_620 ?_
  refine ld_callVi O (pc := 621) (As := [.int (xs (j + 1))]) (st := [.int r]) ld_recv8 hP2 ld_mw_X3_tempers ld_w464 rfl rfl ⟨by decide, by decide⟩ (Nat.le_of_ble_eq_true rfl) dL_law_621 (fun r2 σ2 h2 => ?_)
  obtain ⟨rfl, hJ⟩ := hk2 r2 σ2 h2
  exact ld_icmp_eq O r.toInt r.toInt rfl rfl 1063 dL_law_624 (by decide) (fun _ => k σ2 hJ) (fun z => absurd rfl z)
set_option maxHeartbeats 4000000 in
set_option maxRecDepth 100000 in
theorem ld_q_kinds {l : Launch} {K : ld_St → List (Nat × Value) → List Value → Nat → Prop} {ad : Nat → Nat} {b L : Nat} {xs : Nat → Int32} (O : ld_Ok l K ad cL_law 4 RL room_1) (Z : ld_Scr K cL_law b L xs) {σ : ld_St} {T j : Nat} (J : ld_J T σ) (hT : T ≤ 8000) (hj : j + 5 < L) (k : ∀ σ2, ld_J (T + 60) σ2 → K σ2 [(3, .int (nI j)), (2, .ref (ad 8)), (1, .ref (ad 0)), (0, .ref b)] [] 1063) : K σ [(3, .int (nI j)), (2, .ref (ad 8)), (1, .ref (ad 0)), (0, .ref b)] [] 629 := by
  obtain ⟨P, hP, hk⟩ := ld_p_kinds (l := l) (ad := ad) J hT (xs (j + 1))
  refine ld_aload_n O 2 dL_law_629 rfl rfl ?_
  refine ld_aload_n O 3 dL_law_630 rfl rfl ?_
  refine ld_iload_n O 0 dL_law_631 rfl rfl ?_
  refine ld_iconst O (v := nI 1) dL_law_632 (by decide) ?_
  refine ld_iaddN O dL_law_633 ?_
  refine Z.1 _ _ _ _ (j + 1) (by omega) dL_law_634 ?_
  refine ld_callVi O (pc := 635) (As := [.int (xs (j + 1))]) (st := []) ld_recv0 hP ld_mw_X2_kinds ld_w472 rfl rfl ⟨by decide, by decide⟩ (Nat.le_of_ble_eq_true rfl) dL_law_635 (fun r σ1 h1 => ?_)
  obtain ⟨P2, hP2, hk2⟩ := hk r σ1 h1
  refine ld_aload_n O 1 dL_law_638 rfl rfl ?_
  refine ld_aload_n O 3 dL_law_639 rfl rfl ?_
  refine ld_iload_n O 0 dL_law_640 rfl rfl ?_
  refine ld_iconst O (v := nI 1) dL_law_641 (by decide) ?_
  refine ld_iaddN O dL_law_642 ?_
  refine Z.1 _ _ _ _ (j + 1) (by omega) dL_law_643 ?_
  refine ld_callVi O (pc := 644) (As := [.int (xs (j + 1))]) (st := [.int r]) ld_recv8 hP2 ld_mw_X3_kinds ld_w476 rfl rfl ⟨by decide, by decide⟩ (Nat.le_of_ble_eq_true rfl) dL_law_644 (fun r2 σ2 h2 => ?_)
  obtain ⟨rfl, hJ⟩ := hk2 r2 σ2 h2
  exact ld_icmp_eq O r.toInt r.toInt rfl rfl 1063 dL_law_647 (by decide) (fun _ => k σ2 hJ) (fun z => absurd rfl z)
set_option maxHeartbeats 4000000 in
set_option maxRecDepth 100000 in
theorem ld_q_crates {l : Launch} {K : ld_St → List (Nat × Value) → List Value → Nat → Prop} {ad : Nat → Nat} {b L : Nat} {xs : Nat → Int32} (O : ld_Ok l K ad cL_law 4 RL room_1) (Z : ld_Scr K cL_law b L xs) {σ : ld_St} {T j : Nat} (J : ld_J T σ) (hT : T ≤ 8000) (hj : j + 5 < L) (k : ∀ σ2, ld_J (T + 60) σ2 → K σ2 [(3, .int (nI j)), (2, .ref (ad 8)), (1, .ref (ad 0)), (0, .ref b)] [] 1063) : K σ [(3, .int (nI j)), (2, .ref (ad 8)), (1, .ref (ad 0)), (0, .ref b)] [] 652 := by
  obtain ⟨P, hP, hk⟩ := ld_p_crates (l := l) (ad := ad) J hT (xs (j + 1))
  refine ld_aload_n O 2 dL_law_652 rfl rfl ?_
  refine ld_aload_n O 3 dL_law_653 rfl rfl ?_
  refine ld_iload_n O 0 dL_law_654 rfl rfl ?_
  refine ld_iconst O (v := nI 1) dL_law_655 (by decide) ?_
  refine ld_iaddN O dL_law_656 ?_
  refine Z.1 _ _ _ _ (j + 1) (by omega) dL_law_657 ?_
  refine ld_callVi O (pc := 658) (As := [.int (xs (j + 1))]) (st := []) ld_recv0 hP ld_mw_X2_crates ld_w480 rfl rfl ⟨by decide, by decide⟩ (Nat.le_of_ble_eq_true rfl) dL_law_658 (fun r σ1 h1 => ?_)
  obtain ⟨P2, hP2, hk2⟩ := hk r σ1 h1
  refine ld_aload_n O 1 dL_law_661 rfl rfl ?_
  refine ld_aload_n O 3 dL_law_662 rfl rfl ?_
  refine ld_iload_n O 0 dL_law_663 rfl rfl ?_
  refine ld_iconst O (v := nI 1) dL_law_664 (by decide) ?_
  refine ld_iaddN O dL_law_665 ?_
  refine Z.1 _ _ _ _ (j + 1) (by omega) dL_law_666 ?_
  refine ld_callVi O (pc := 667) (As := [.int (xs (j + 1))]) (st := [.int r]) ld_recv8 hP2 ld_mw_X3_crates ld_w484 rfl rfl ⟨by decide, by decide⟩ (Nat.le_of_ble_eq_true rfl) dL_law_667 (fun r2 σ2 h2 => ?_)
  obtain ⟨rfl, hJ⟩ := hk2 r2 σ2 h2
  exact ld_icmp_eq O r.toInt r.toInt rfl rfl 1063 dL_law_670 (by decide) (fun _ => k σ2 hJ) (fun z => absurd rfl z)
set_option maxHeartbeats 4000000 in
set_option maxRecDepth 100000 in
theorem ld_q_odds {l : Launch} {K : ld_St → List (Nat × Value) → List Value → Nat → Prop} {ad : Nat → Nat} {b L : Nat} {xs : Nat → Int32} (O : ld_Ok l K ad cL_law 4 RL room_1) (Z : ld_Scr K cL_law b L xs) {σ : ld_St} {T j : Nat} (J : ld_J T σ) (hT : T ≤ 8000) (hj : j + 5 < L) (k : ∀ σ2, ld_J (T + 60) σ2 → K σ2 [(3, .int (nI j)), (2, .ref (ad 8)), (1, .ref (ad 0)), (0, .ref b)] [] 1063) : K σ [(3, .int (nI j)), (2, .ref (ad 8)), (1, .ref (ad 0)), (0, .ref b)] [] 675 := by
  obtain ⟨P, hP, hk⟩ := ld_p_odds (l := l) (ad := ad) J hT (xs (j + 1)) (xs (j + 2)) (xs (j + 3))
  refine ld_aload_n O 2 dL_law_675 rfl rfl ?_
  refine ld_aload_n O 3 dL_law_676 rfl rfl ?_
  refine ld_iload_n O 0 dL_law_677 rfl rfl ?_
  refine ld_iconst O (v := nI 1) dL_law_678 (by decide) ?_
  refine ld_iaddN O dL_law_679 ?_
  refine Z.1 _ _ _ _ (j + 1) (by omega) dL_law_680 ?_
  refine ld_aload_n O 3 dL_law_681 rfl rfl ?_
  refine ld_iload_n O 0 dL_law_682 rfl rfl ?_
  refine ld_iconst O (v := nI 2) dL_law_683 (by decide) ?_
  refine ld_iaddN O dL_law_684 ?_
  refine Z.1 _ _ _ _ (j + 2) (by omega) dL_law_685 ?_
  refine ld_aload_n O 3 dL_law_686 rfl rfl ?_
  refine ld_iload_n O 0 dL_law_687 rfl rfl ?_
  refine ld_iconst O (v := nI 3) dL_law_688 (by decide) ?_
  refine ld_iaddN O dL_law_689 ?_
  refine Z.1 _ _ _ _ (j + 3) (by omega) dL_law_690 ?_
  refine ld_callVl O (pc := 691) (As := [.int (xs (j + 1)), .int (xs (j + 2)), .int (xs (j + 3))]) (st := []) ld_recv0 hP ld_mw_X2_odds ld_w488 rfl rfl ⟨by decide, by decide⟩ (Nat.le_of_ble_eq_true rfl) dL_law_691 (fun r σ1 h1 => ?_)
  obtain ⟨P2, hP2, hk2⟩ := hk r σ1 h1
  refine ld_aload_n O 1 dL_law_694 rfl rfl ?_
  refine ld_aload_n O 3 dL_law_695 rfl rfl ?_
  refine ld_iload_n O 0 dL_law_696 rfl rfl ?_
  refine ld_iconst O (v := nI 1) dL_law_697 (by decide) ?_
  refine ld_iaddN O dL_law_698 ?_
  refine Z.1 _ _ _ _ (j + 1) (by omega) dL_law_699 ?_
  refine ld_aload_n O 3 dL_law_700 rfl rfl ?_
  refine ld_iload_n O 0 dL_law_701 rfl rfl ?_
  refine ld_iconst O (v := nI 2) dL_law_702 (by decide) ?_
  refine ld_iaddN O dL_law_703 ?_
  refine Z.1 _ _ _ _ (j + 2) (by omega) dL_law_704 ?_
  refine ld_aload_n O 3 dL_law_705 rfl rfl ?_
  refine ld_iload_n O 0 dL_law_706 rfl rfl ?_
  refine ld_iconst O (v := nI 3) dL_law_707 (by decide) ?_
  refine ld_iaddN O dL_law_708 ?_
  refine Z.1 _ _ _ _ (j + 3) (by omega) dL_law_709 ?_
  refine ld_callVl O (pc := 710) (As := [.int (xs (j + 1)), .int (xs (j + 2)), .int (xs (j + 3))]) (st := [.long r]) ld_recv8 hP2 ld_mw_X3_odds ld_w493 rfl rfl ⟨by decide, by decide⟩ (Nat.le_of_ble_eq_true rfl) dL_law_710 (fun r2 σ2 h2 => ?_)
  obtain ⟨rfl, hJ⟩ := hk2 r2 σ2 h2
  refine ld_lcmp O dL_law_713 ?_
  exact ld_if_eq O 0 ((ld_cmp_i (x := r) (y := r) rfl rfl).2.1.mpr rfl) 1063 dL_law_714 (by decide) (fun _ => k σ2 hJ) (fun z => absurd rfl z)
set_option maxHeartbeats 4000000 in
set_option maxRecDepth 100000 in
theorem ld_q_sheet {l : Launch} {K : ld_St → List (Nat × Value) → List Value → Nat → Prop} {ad : Nat → Nat} {b L : Nat} {xs : Nat → Int32} (O : ld_Ok l K ad cL_law 4 RL room_1) (Z : ld_Scr K cL_law b L xs) {σ : ld_St} {T j : Nat} (J : ld_J T σ) (hT : T ≤ 8000) (hj : j + 5 < L) (k : ∀ σ2, ld_J (T + 60) σ2 → K σ2 [(3, .int (nI j)), (2, .ref (ad 8)), (1, .ref (ad 0)), (0, .ref b)] [] 1063) : K σ [(3, .int (nI j)), (2, .ref (ad 8)), (1, .ref (ad 0)), (0, .ref b)] [] 719 := by
  obtain ⟨P, hP, hk⟩ := ld_p_sheet (l := l) (ad := ad) J hT (xs (j + 1)) (xs (j + 2)) (xs (j + 3))
  refine ld_aload_n O 2 dL_law_719 rfl rfl ?_
  refine ld_aload_n O 3 dL_law_720 rfl rfl ?_
  refine ld_iload_n O 0 dL_law_721 rfl rfl ?_
  refine ld_iconst O (v := nI 1) dL_law_722 (by decide) ?_
  refine ld_iaddN O dL_law_723 ?_
  refine Z.1 _ _ _ _ (j + 1) (by omega) dL_law_724 ?_
  refine ld_aload_n O 3 dL_law_725 rfl rfl ?_
  refine ld_iload_n O 0 dL_law_726 rfl rfl ?_
  refine ld_iconst O (v := nI 2) dL_law_727 (by decide) ?_
  refine ld_iaddN O dL_law_728 ?_
  refine Z.1 _ _ _ _ (j + 2) (by omega) dL_law_729 ?_
  refine ld_aload_n O 3 dL_law_730 rfl rfl ?_
  refine ld_iload_n O 0 dL_law_731 rfl rfl ?_
  refine ld_iconst O (v := nI 3) dL_law_732 (by decide) ?_
  refine ld_iaddN O dL_law_733 ?_
  refine Z.1 _ _ _ _ (j + 3) (by omega) dL_law_734 ?_
  refine ld_callVi O (pc := 735) (As := [.int (xs (j + 1)), .int (xs (j + 2)), .int (xs (j + 3))]) (st := []) ld_recv0 hP ld_mw_X2_sheet ld_w505 rfl rfl ⟨by decide, by decide⟩ (Nat.le_of_ble_eq_true rfl) dL_law_735 (fun r σ1 h1 => ?_)
  obtain ⟨P2, hP2, hk2⟩ := hk r σ1 h1
  refine ld_aload_n O 1 dL_law_738 rfl rfl ?_
  refine ld_aload_n O 3 dL_law_739 rfl rfl ?_
  refine ld_iload_n O 0 dL_law_740 rfl rfl ?_
  refine ld_iconst O (v := nI 1) dL_law_741 (by decide) ?_
  refine ld_iaddN O dL_law_742 ?_
  refine Z.1 _ _ _ _ (j + 1) (by omega) dL_law_743 ?_
  refine ld_aload_n O 3 dL_law_744 rfl rfl ?_
  refine ld_iload_n O 0 dL_law_745 rfl rfl ?_
  refine ld_iconst O (v := nI 2) dL_law_746 (by decide) ?_
  refine ld_iaddN O dL_law_747 ?_
  refine Z.1 _ _ _ _ (j + 2) (by omega) dL_law_748 ?_
  refine ld_aload_n O 3 dL_law_749 rfl rfl ?_
  refine ld_iload_n O 0 dL_law_750 rfl rfl ?_
  refine ld_iconst O (v := nI 3) dL_law_751 (by decide) ?_
  refine ld_iaddN O dL_law_752 ?_
  refine Z.1 _ _ _ _ (j + 3) (by omega) dL_law_753 ?_
  refine ld_callVi O (pc := 754) (As := [.int (xs (j + 1)), .int (xs (j + 2)), .int (xs (j + 3))]) (st := [.int r]) ld_recv8 hP2 ld_mw_X3_sheet ld_w512 rfl rfl ⟨by decide, by decide⟩ (Nat.le_of_ble_eq_true rfl) dL_law_754 (fun r2 σ2 h2 => ?_)
  obtain ⟨rfl, hJ⟩ := hk2 r2 σ2 h2
  exact ld_icmp_eq O r.toInt r.toInt rfl rfl 1063 dL_law_757 (by decide) (fun _ => k σ2 hJ) (fun z => absurd rfl z)
set_option maxHeartbeats 4000000 in
set_option maxRecDepth 100000 in
theorem ld_q_lose {l : Launch} {K : ld_St → List (Nat × Value) → List Value → Nat → Prop} {ad : Nat → Nat} {b L : Nat} {xs : Nat → Int32} (O : ld_Ok l K ad cL_law 4 RL room_1) (Z : ld_Scr K cL_law b L xs) {σ : ld_St} {T j : Nat} (J : ld_J T σ) (hT : T ≤ 8000) (hj : j + 5 < L) (k : ∀ σ2, ld_J (T + 60) σ2 → K σ2 [(3, .int (nI j)), (2, .ref (ad 8)), (1, .ref (ad 0)), (0, .ref b)] [] 1063) : K σ [(3, .int (nI j)), (2, .ref (ad 8)), (1, .ref (ad 0)), (0, .ref b)] [] 762 := by
  obtain ⟨P, hP, hk⟩ := ld_p_lose (l := l) (ad := ad) J hT (xs (j + 1))
  refine ld_aload_n O 2 dL_law_762 rfl rfl ?_
  refine ld_aload_n O 3 dL_law_763 rfl rfl ?_
  refine ld_iload_n O 0 dL_law_764 rfl rfl ?_
  refine ld_iconst O (v := nI 1) dL_law_765 (by decide) ?_
  refine ld_iaddN O dL_law_766 ?_
  refine Z.1 _ _ _ _ (j + 1) (by omega) dL_law_767 ?_
  refine ld_callVi O (pc := 768) (As := [.int (xs (j + 1))]) (st := []) ld_recv0 hP ld_mw_X2_lose ld_w516 rfl rfl ⟨by decide, by decide⟩ (Nat.le_of_ble_eq_true rfl) dL_law_768 (fun r σ1 h1 => ?_)
  obtain ⟨P2, hP2, hk2⟩ := hk r σ1 h1
  refine ld_aload_n O 1 dL_law_771 rfl rfl ?_
  refine ld_aload_n O 3 dL_law_772 rfl rfl ?_
  refine ld_iload_n O 0 dL_law_773 rfl rfl ?_
  refine ld_iconst O (v := nI 1) dL_law_774 (by decide) ?_
  refine ld_iaddN O dL_law_775 ?_
  refine Z.1 _ _ _ _ (j + 1) (by omega) dL_law_776 ?_
  refine ld_callVi O (pc := 777) (As := [.int (xs (j + 1))]) (st := [.int r]) ld_recv8 hP2 ld_mw_X3_lose ld_w520 rfl rfl ⟨by decide, by decide⟩ (Nat.le_of_ble_eq_true rfl) dL_law_777 (fun r2 σ2 h2 => ?_)
  obtain ⟨rfl, hJ⟩ := hk2 r2 σ2 h2
  exact ld_icmp_eq O r.toInt r.toInt rfl rfl 1063 dL_law_780 (by decide) (fun _ => k σ2 hJ) (fun z => absurd rfl z)
set_option maxHeartbeats 4000000 in
set_option maxRecDepth 100000 in
theorem ld_q_put {l : Launch} {K : ld_St → List (Nat × Value) → List Value → Nat → Prop} {ad : Nat → Nat} {b L : Nat} {xs : Nat → Int32} (O : ld_Ok l K ad cL_law 4 RL room_1) (Z : ld_Scr K cL_law b L xs) {σ : ld_St} {T j : Nat} (J : ld_J T σ) (hT : T ≤ 8000) (hj : j + 5 < L) (k : ∀ σ2, ld_J (T + 60) σ2 → K σ2 [(3, .int (nI j)), (2, .ref (ad 8)), (1, .ref (ad 0)), (0, .ref b)] [] 1063) : K σ [(3, .int (nI j)), (2, .ref (ad 8)), (1, .ref (ad 0)), (0, .ref b)] [] 785 := by
  obtain ⟨P, hP, hk⟩ := ld_p_put (l := l) (ad := ad) J hT (xs (j + 1)) (xs (j + 2)) (xs (j + 3))
  refine ld_aload_n O 2 dL_law_785 rfl rfl ?_
  refine ld_aload_n O 3 dL_law_786 rfl rfl ?_
  refine ld_iload_n O 0 dL_law_787 rfl rfl ?_
  refine ld_iconst O (v := nI 1) dL_law_788 (by decide) ?_
  refine ld_iaddN O dL_law_789 ?_
  refine Z.1 _ _ _ _ (j + 1) (by omega) dL_law_790 ?_
  refine ld_aload_n O 3 dL_law_791 rfl rfl ?_
  refine ld_iload_n O 0 dL_law_792 rfl rfl ?_
  refine ld_iconst O (v := nI 2) dL_law_793 (by decide) ?_
  refine ld_iaddN O dL_law_794 ?_
  refine Z.1 _ _ _ _ (j + 2) (by omega) dL_law_795 ?_
  refine ld_aload_n O 3 dL_law_796 rfl rfl ?_
  refine ld_iload_n O 0 dL_law_797 rfl rfl ?_
  refine ld_iconst O (v := nI 3) dL_law_798 (by decide) ?_
  refine ld_iaddN O dL_law_799 ?_
  refine Z.1 _ _ _ _ (j + 3) (by omega) dL_law_800 ?_
  refine ld_callVi O (pc := 801) (As := [.int (xs (j + 1)), .int (xs (j + 2)), .int (xs (j + 3))]) (st := []) ld_recv0 hP ld_mw_X2_put ld_w524 rfl rfl ⟨by decide, by decide⟩ (Nat.le_of_ble_eq_true rfl) dL_law_801 (fun r σ1 h1 => ?_)
  obtain ⟨P2, hP2, hk2⟩ := hk r σ1 h1
  refine ld_aload_n O 1 dL_law_804 rfl rfl ?_
  refine ld_aload_n O 3 dL_law_805 rfl rfl ?_
  refine ld_iload_n O 0 dL_law_806 rfl rfl ?_
  refine ld_iconst O (v := nI 1) dL_law_807 (by decide) ?_
  refine ld_iaddN O dL_law_808 ?_
  refine Z.1 _ _ _ _ (j + 1) (by omega) dL_law_809 ?_
  refine ld_aload_n O 3 dL_law_810 rfl rfl ?_
  refine ld_iload_n O 0 dL_law_811 rfl rfl ?_
  refine ld_iconst O (v := nI 2) dL_law_812 (by decide) ?_
  refine ld_iaddN O dL_law_813 ?_
  refine Z.1 _ _ _ _ (j + 2) (by omega) dL_law_814 ?_
  refine ld_aload_n O 3 dL_law_815 rfl rfl ?_
  refine ld_iload_n O 0 dL_law_816 rfl rfl ?_
  refine ld_iconst O (v := nI 3) dL_law_817 (by decide) ?_
  refine ld_iaddN O dL_law_818 ?_
  refine Z.1 _ _ _ _ (j + 3) (by omega) dL_law_819 ?_
  refine ld_callVi O (pc := 820) (As := [.int (xs (j + 1)), .int (xs (j + 2)), .int (xs (j + 3))]) (st := [.int r]) ld_recv8 hP2 ld_mw_X3_put ld_w534 rfl rfl ⟨by decide, by decide⟩ (Nat.le_of_ble_eq_true rfl) dL_law_820 (fun r2 σ2 h2 => ?_)
  obtain ⟨rfl, hJ⟩ := hk2 r2 σ2 h2
  exact ld_icmp_eq O r.toInt r.toInt rfl rfl 1063 dL_law_823 (by decide) (fun _ => k σ2 hJ) (fun z => absurd rfl z)
set_option maxHeartbeats 4000000 in
set_option maxRecDepth 100000 in
theorem ld_q_cell {l : Launch} {K : ld_St → List (Nat × Value) → List Value → Nat → Prop} {ad : Nat → Nat} {b L : Nat} {xs : Nat → Int32} (O : ld_Ok l K ad cL_law 4 RL room_1) (Z : ld_Scr K cL_law b L xs) {σ : ld_St} {T j : Nat} (J : ld_J T σ) (hT : T ≤ 8000) (hj : j + 5 < L) (k : ∀ σ2, ld_J (T + 60) σ2 → K σ2 [(3, .int (nI j)), (2, .ref (ad 8)), (1, .ref (ad 0)), (0, .ref b)] [] 1063) : K σ [(3, .int (nI j)), (2, .ref (ad 8)), (1, .ref (ad 0)), (0, .ref b)] [] 828 := by
  obtain ⟨P, hP, hk⟩ := ld_p_cell (l := l) (ad := ad) J hT (xs (j + 1)) (xs (j + 2)) (xs (j + 3))
  refine ld_aload_n O 2 dL_law_828 rfl rfl ?_
  refine ld_aload_n O 3 dL_law_829 rfl rfl ?_
  refine ld_iload_n O 0 dL_law_830 rfl rfl ?_
  refine ld_iconst O (v := nI 1) dL_law_831 (by decide) ?_
  refine ld_iaddN O dL_law_832 ?_
  refine Z.1 _ _ _ _ (j + 1) (by omega) dL_law_833 ?_
  refine ld_aload_n O 3 dL_law_834 rfl rfl ?_
  refine ld_iload_n O 0 dL_law_835 rfl rfl ?_
  refine ld_iconst O (v := nI 2) dL_law_836 (by decide) ?_
  refine ld_iaddN O dL_law_837 ?_
  refine Z.1 _ _ _ _ (j + 2) (by omega) dL_law_838 ?_
  refine ld_aload_n O 3 dL_law_839 rfl rfl ?_
  refine ld_iload_n O 0 dL_law_840 rfl rfl ?_
  refine ld_iconst O (v := nI 3) dL_law_841 (by decide) ?_
  refine ld_iaddN O dL_law_842 ?_
  refine Z.1 _ _ _ _ (j + 3) (by omega) dL_law_843 ?_
  refine ld_callVl O (pc := 844) (As := [.int (xs (j + 1)), .int (xs (j + 2)), .int (xs (j + 3))]) (st := []) ld_recv0 hP ld_mw_X2_cell ld_w542 rfl rfl ⟨by decide, by decide⟩ (Nat.le_of_ble_eq_true rfl) dL_law_844 (fun r σ1 h1 => ?_)
  obtain ⟨P2, hP2, hk2⟩ := hk r σ1 h1
  refine ld_aload_n O 1 dL_law_847 rfl rfl ?_
  refine ld_aload_n O 3 dL_law_848 rfl rfl ?_
  refine ld_iload_n O 0 dL_law_849 rfl rfl ?_
  refine ld_iconst O (v := nI 1) dL_law_850 (by decide) ?_
  refine ld_iaddN O dL_law_851 ?_
  refine Z.1 _ _ _ _ (j + 1) (by omega) dL_law_852 ?_
  refine ld_aload_n O 3 dL_law_853 rfl rfl ?_
  refine ld_iload_n O 0 dL_law_854 rfl rfl ?_
  refine ld_iconst O (v := nI 2) dL_law_855 (by decide) ?_
  refine ld_iaddN O dL_law_856 ?_
  refine Z.1 _ _ _ _ (j + 2) (by omega) dL_law_857 ?_
  refine ld_aload_n O 3 dL_law_858 rfl rfl ?_
  refine ld_iload_n O 0 dL_law_859 rfl rfl ?_
  refine ld_iconst O (v := nI 3) dL_law_860 (by decide) ?_
  refine ld_iaddN O dL_law_861 ?_
  refine Z.1 _ _ _ _ (j + 3) (by omega) dL_law_862 ?_
  refine ld_callVl O (pc := 863) (As := [.int (xs (j + 1)), .int (xs (j + 2)), .int (xs (j + 3))]) (st := [.long r]) ld_recv8 hP2 ld_mw_X3_cell ld_w546 rfl rfl ⟨by decide, by decide⟩ (Nat.le_of_ble_eq_true rfl) dL_law_863 (fun r2 σ2 h2 => ?_)
  obtain ⟨rfl, hJ⟩ := hk2 r2 σ2 h2
  refine ld_lcmp O dL_law_866 ?_
  exact ld_if_eq O 0 ((ld_cmp_i (x := r) (y := r) rfl rfl).2.1.mpr rfl) 1063 dL_law_867 (by decide) (fun _ => k σ2 hJ) (fun z => absurd rfl z)
set_option maxHeartbeats 4000000 in
set_option maxRecDepth 100000 in
theorem ld_q_copy {l : Launch} {K : ld_St → List (Nat × Value) → List Value → Nat → Prop} {ad : Nat → Nat} {b L : Nat} {xs : Nat → Int32} (O : ld_Ok l K ad cL_law 4 RL room_1) (Z : ld_Scr K cL_law b L xs) {σ : ld_St} {T j : Nat} (J : ld_J T σ) (hT : T ≤ 8000) (hj : j + 5 < L) (k : ∀ σ2, ld_J (T + 60) σ2 → K σ2 [(3, .int (nI j)), (2, .ref (ad 8)), (1, .ref (ad 0)), (0, .ref b)] [] 1063) : K σ [(3, .int (nI j)), (2, .ref (ad 8)), (1, .ref (ad 0)), (0, .ref b)] [] 872 := by
  obtain ⟨P, hP, hk⟩ := ld_p_copy (l := l) (ad := ad) J hT (xs (j + 1)) (xs (j + 2)) (xs (j + 3)) (xs (j + 4)) (xs (j + 5))
  refine ld_aload_n O 2 dL_law_872 rfl rfl ?_
  refine ld_aload_n O 3 dL_law_873 rfl rfl ?_
  refine ld_iload_n O 0 dL_law_874 rfl rfl ?_
  refine ld_iconst O (v := nI 1) dL_law_875 (by decide) ?_
  refine ld_iaddN O dL_law_876 ?_
  refine Z.1 _ _ _ _ (j + 1) (by omega) dL_law_877 ?_
  refine ld_aload_n O 3 dL_law_878 rfl rfl ?_
  refine ld_iload_n O 0 dL_law_879 rfl rfl ?_
  refine ld_iconst O (v := nI 2) dL_law_880 (by decide) ?_
  refine ld_iaddN O dL_law_881 ?_
  refine Z.1 _ _ _ _ (j + 2) (by omega) dL_law_882 ?_
  refine ld_aload_n O 3 dL_law_883 rfl rfl ?_
  refine ld_iload_n O 0 dL_law_884 rfl rfl ?_
  refine ld_iconst O (v := nI 3) dL_law_885 (by decide) ?_
  refine ld_iaddN O dL_law_886 ?_
  refine Z.1 _ _ _ _ (j + 3) (by omega) dL_law_887 ?_
  refine ld_aload_n O 3 dL_law_888 rfl rfl ?_
  refine ld_iload_n O 0 dL_law_889 rfl rfl ?_
  refine ld_iconst O (v := nI 4) dL_law_890 (by decide) ?_
  refine ld_iaddN O dL_law_891 ?_
  refine Z.1 _ _ _ _ (j + 4) (by omega) dL_law_892 ?_
  refine ld_aload_n O 3 dL_law_893 rfl rfl ?_
  refine ld_iload_n O 0 dL_law_894 rfl rfl ?_
  refine ld_iconst O (v := nI 5) dL_law_895 (by decide) ?_
  refine ld_iaddN O dL_law_896 ?_
  refine Z.1 _ _ _ _ (j + 5) (by omega) dL_law_897 ?_
  refine ld_callVi O (pc := 898) (As := [.int (xs (j + 1)), .int (xs (j + 2)), .int (xs (j + 3)), .int (xs (j + 4)), .int (xs (j + 5))]) (st := []) ld_recv0 hP ld_mw_X2_copy ld_w554 rfl rfl ⟨by decide, by decide⟩ (Nat.le_of_ble_eq_true rfl) dL_law_898 (fun r σ1 h1 => ?_)
  obtain ⟨P2, hP2, hk2⟩ := hk r σ1 h1
  refine ld_aload_n O 1 dL_law_901 rfl rfl ?_
  refine ld_aload_n O 3 dL_law_902 rfl rfl ?_
  refine ld_iload_n O 0 dL_law_903 rfl rfl ?_
  refine ld_iconst O (v := nI 1) dL_law_904 (by decide) ?_
  refine ld_iaddN O dL_law_905 ?_
  refine Z.1 _ _ _ _ (j + 1) (by omega) dL_law_906 ?_
  refine ld_aload_n O 3 dL_law_907 rfl rfl ?_
  refine ld_iload_n O 0 dL_law_908 rfl rfl ?_
  refine ld_iconst O (v := nI 2) dL_law_909 (by decide) ?_
  refine ld_iaddN O dL_law_910 ?_
  refine Z.1 _ _ _ _ (j + 2) (by omega) dL_law_911 ?_
  refine ld_aload_n O 3 dL_law_912 rfl rfl ?_
  refine ld_iload_n O 0 dL_law_913 rfl rfl ?_
  refine ld_iconst O (v := nI 3) dL_law_914 (by decide) ?_
  refine ld_iaddN O dL_law_915 ?_
  refine Z.1 _ _ _ _ (j + 3) (by omega) dL_law_916 ?_
  refine ld_aload_n O 3 dL_law_917 rfl rfl ?_
  refine ld_iload_n O 0 dL_law_918 rfl rfl ?_
  refine ld_iconst O (v := nI 4) dL_law_919 (by decide) ?_
  refine ld_iaddN O dL_law_920 ?_
  refine Z.1 _ _ _ _ (j + 4) (by omega) dL_law_921 ?_
  refine ld_aload_n O 3 dL_law_922 rfl rfl ?_
  refine ld_iload_n O 0 dL_law_923 rfl rfl ?_
  refine ld_iconst O (v := nI 5) dL_law_924 (by decide) ?_
  refine ld_iaddN O dL_law_925 ?_
  refine Z.1 _ _ _ _ (j + 5) (by omega) dL_law_926 ?_
  refine ld_callVi O (pc := 927) (As := [.int (xs (j + 1)), .int (xs (j + 2)), .int (xs (j + 3)), .int (xs (j + 4)), .int (xs (j + 5))]) (st := [.int r]) ld_recv8 hP2 ld_mw_X3_copy ld_w562 rfl rfl ⟨by decide, by decide⟩ (Nat.le_of_ble_eq_true rfl) dL_law_927 (fun r2 σ2 h2 => ?_)
  obtain ⟨rfl, hJ⟩ := hk2 r2 σ2 h2
  exact ld_icmp_eq O r.toInt r.toInt rfl rfl 1063 dL_law_930 (by decide) (fun _ => k σ2 hJ) (fun z => absurd rfl z)
set_option maxHeartbeats 4000000 in
set_option maxRecDepth 100000 in
theorem ld_q_tell {l : Launch} {K : ld_St → List (Nat × Value) → List Value → Nat → Prop} {ad : Nat → Nat} {b L : Nat} {xs : Nat → Int32} (O : ld_Ok l K ad cL_law 4 RL room_1) (Z : ld_Scr K cL_law b L xs) {σ : ld_St} {T j : Nat} (J : ld_J T σ) (hT : T ≤ 8000) (hj : j + 5 < L) (k : ∀ σ2, ld_J (T + 60) σ2 → K σ2 [(3, .int (nI j)), (2, .ref (ad 8)), (1, .ref (ad 0)), (0, .ref b)] [] 1063) : K σ [(3, .int (nI j)), (2, .ref (ad 8)), (1, .ref (ad 0)), (0, .ref b)] [] 935 := by
  obtain ⟨P, hP, hk⟩ := ld_p_tell (l := l) (ad := ad) J hT (xs (j + 1))
  refine ld_aload_n O 2 dL_law_935 rfl rfl ?_
  refine ld_aload_n O 3 dL_law_936 rfl rfl ?_
  refine ld_iload_n O 0 dL_law_937 rfl rfl ?_
  refine ld_iconst O (v := nI 1) dL_law_938 (by decide) ?_
  refine ld_iaddN O dL_law_939 ?_
  refine Z.1 _ _ _ _ (j + 1) (by omega) dL_law_940 ?_
  refine ld_callVi O (pc := 941) (As := [.int (xs (j + 1))]) (st := []) ld_recv0 hP ld_mw_X2_tell ld_w566 rfl rfl ⟨by decide, by decide⟩ (Nat.le_of_ble_eq_true rfl) dL_law_941 (fun r σ1 h1 => ?_)
  obtain ⟨P2, hP2, hk2⟩ := hk r σ1 h1
  refine ld_aload_n O 1 dL_law_944 rfl rfl ?_
  refine ld_aload_n O 3 dL_law_945 rfl rfl ?_
  refine ld_iload_n O 0 dL_law_946 rfl rfl ?_
  refine ld_iconst O (v := nI 1) dL_law_947 (by decide) ?_
  refine ld_iaddN O dL_law_948 ?_
  refine Z.1 _ _ _ _ (j + 1) (by omega) dL_law_949 ?_
  refine ld_callVi O (pc := 950) (As := [.int (xs (j + 1))]) (st := [.int r]) ld_recv8 hP2 ld_mw_X3_tell ld_w586 rfl rfl ⟨by decide, by decide⟩ (Nat.le_of_ble_eq_true rfl) dL_law_950 (fun r2 σ2 h2 => ?_)
  obtain ⟨rfl, hJ⟩ := hk2 r2 σ2 h2
  exact ld_icmp_eq O r.toInt r.toInt rfl rfl 1063 dL_law_953 (by decide) (fun _ => k σ2 hJ) (fun z => absurd rfl z)
set_option maxHeartbeats 4000000 in
set_option maxRecDepth 100000 in
theorem ld_q_knock {l : Launch} {K : ld_St → List (Nat × Value) → List Value → Nat → Prop} {ad : Nat → Nat} {b L : Nat} {xs : Nat → Int32} (O : ld_Ok l K ad cL_law 4 RL room_1) (Z : ld_Scr K cL_law b L xs) {σ : ld_St} {T j : Nat} (J : ld_J T σ) (hT : T ≤ 8000) (hj : j + 5 < L) (k : ∀ σ2, ld_J (T + 60) σ2 → K σ2 [(3, .int (nI j)), (2, .ref (ad 8)), (1, .ref (ad 0)), (0, .ref b)] [] 1063) : K σ [(3, .int (nI j)), (2, .ref (ad 8)), (1, .ref (ad 0)), (0, .ref b)] [] 958 := by
  obtain ⟨P, hP, hk⟩ := ld_p_knock (l := l) (ad := ad) J hT (xs (j + 1))
  refine ld_aload_n O 2 dL_law_958 rfl rfl ?_
  refine ld_aload_n O 3 dL_law_959 rfl rfl ?_
  refine ld_iload_n O 0 dL_law_960 rfl rfl ?_
  refine ld_iconst O (v := nI 1) dL_law_961 (by decide) ?_
  refine ld_iaddN O dL_law_962 ?_
  refine Z.1 _ _ _ _ (j + 1) (by omega) dL_law_963 ?_
  refine ld_callVi O (pc := 964) (As := [.int (xs (j + 1))]) (st := []) ld_recv0 hP ld_mw_X2_knock ld_w595 rfl rfl ⟨by decide, by decide⟩ (Nat.le_of_ble_eq_true rfl) dL_law_964 (fun r σ1 h1 => ?_)
  obtain ⟨P2, hP2, hk2⟩ := hk r σ1 h1
  refine ld_aload_n O 1 dL_law_967 rfl rfl ?_
  refine ld_aload_n O 3 dL_law_968 rfl rfl ?_
  refine ld_iload_n O 0 dL_law_969 rfl rfl ?_
  refine ld_iconst O (v := nI 1) dL_law_970 (by decide) ?_
  refine ld_iaddN O dL_law_971 ?_
  refine Z.1 _ _ _ _ (j + 1) (by omega) dL_law_972 ?_
  refine ld_callVi O (pc := 973) (As := [.int (xs (j + 1))]) (st := [.int r]) ld_recv8 hP2 ld_mw_X3_knock ld_w599 rfl rfl ⟨by decide, by decide⟩ (Nat.le_of_ble_eq_true rfl) dL_law_973 (fun r2 σ2 h2 => ?_)
  obtain ⟨rfl, hJ⟩ := hk2 r2 σ2 h2
  exact ld_icmp_eq O r.toInt r.toInt rfl rfl 1063 dL_law_976 (by decide) (fun _ => k σ2 hJ) (fun z => absurd rfl z)
set_option maxHeartbeats 4000000 in
set_option maxRecDepth 100000 in
theorem ld_q_as {l : Launch} {K : ld_St → List (Nat × Value) → List Value → Nat → Prop} {ad : Nat → Nat} {b L : Nat} {xs : Nat → Int32} (O : ld_Ok l K ad cL_law 4 RL room_1) (Z : ld_Scr K cL_law b L xs) {σ : ld_St} {T j : Nat} (J : ld_J T σ) (hT : T ≤ 8000) (hj : j + 5 < L) (k : ∀ σ2, ld_J (T + 60) σ2 → K σ2 [(3, .int (nI j)), (2, .ref (ad 8)), (1, .ref (ad 0)), (0, .ref b)] [] 1063) : K σ [(3, .int (nI j)), (2, .ref (ad 8)), (1, .ref (ad 0)), (0, .ref b)] [] 981 := by
  obtain ⟨P, hP, hk⟩ := ld_p_as (l := l) (ad := ad) J hT (xs (j + 1)) (xs (j + 2))
  refine ld_aload_n O 2 dL_law_981 rfl rfl ?_
  refine ld_aload_n O 3 dL_law_982 rfl rfl ?_
  refine ld_iload_n O 0 dL_law_983 rfl rfl ?_
  refine ld_iconst O (v := nI 1) dL_law_984 (by decide) ?_
  refine ld_iaddN O dL_law_985 ?_
  refine Z.1 _ _ _ _ (j + 1) (by omega) dL_law_986 ?_
  refine ld_aload_n O 3 dL_law_987 rfl rfl ?_
  refine ld_iload_n O 0 dL_law_988 rfl rfl ?_
  refine ld_iconst O (v := nI 2) dL_law_989 (by decide) ?_
  refine ld_iaddN O dL_law_990 ?_
  refine Z.1 _ _ _ _ (j + 2) (by omega) dL_law_991 ?_
  refine ld_callVi O (pc := 992) (As := [.int (xs (j + 1)), .int (xs (j + 2))]) (st := []) ld_recv0 hP ld_mw_X2_as ld_w603 rfl rfl ⟨by decide, by decide⟩ (Nat.le_of_ble_eq_true rfl) dL_law_992 (fun r σ1 h1 => ?_)
  obtain ⟨P2, hP2, hk2⟩ := hk r σ1 h1
  refine ld_aload_n O 1 dL_law_995 rfl rfl ?_
  refine ld_aload_n O 3 dL_law_996 rfl rfl ?_
  refine ld_iload_n O 0 dL_law_997 rfl rfl ?_
  refine ld_iconst O (v := nI 1) dL_law_998 (by decide) ?_
  refine ld_iaddN O dL_law_999 ?_
  refine Z.1 _ _ _ _ (j + 1) (by omega) dL_law_1000 ?_
  refine ld_aload_n O 3 dL_law_1001 rfl rfl ?_
  refine ld_iload_n O 0 dL_law_1002 rfl rfl ?_
  refine ld_iconst O (v := nI 2) dL_law_1003 (by decide) ?_
  refine ld_iaddN O dL_law_1004 ?_
  refine Z.1 _ _ _ _ (j + 2) (by omega) dL_law_1005 ?_
  refine ld_callVi O (pc := 1006) (As := [.int (xs (j + 1)), .int (xs (j + 2))]) (st := [.int r]) ld_recv8 hP2 ld_mw_X3_as ld_w607 rfl rfl ⟨by decide, by decide⟩ (Nat.le_of_ble_eq_true rfl) dL_law_1006 (fun r2 σ2 h2 => ?_)
  obtain ⟨rfl, hJ⟩ := hk2 r2 σ2 h2
  exact ld_icmp_eq O r.toInt r.toInt rfl rfl 1063 dL_law_1009 (by decide) (fun _ => k σ2 hJ) (fun z => absurd rfl z)
set_option maxHeartbeats 4000000 in
set_option maxRecDepth 100000 in
theorem ld_q_trace {l : Launch} {K : ld_St → List (Nat × Value) → List Value → Nat → Prop} {ad : Nat → Nat} {b L : Nat} {xs : Nat → Int32} (O : ld_Ok l K ad cL_law 4 RL room_1) (Z : ld_Scr K cL_law b L xs) {σ : ld_St} {T j : Nat} (J : ld_J T σ) (hT : T ≤ 8000) (hj : j + 5 < L) (k : ∀ σ2, ld_J (T + 60) σ2 → K σ2 [(3, .int (nI j)), (2, .ref (ad 8)), (1, .ref (ad 0)), (0, .ref b)] [] 1063) : K σ [(3, .int (nI j)), (2, .ref (ad 8)), (1, .ref (ad 0)), (0, .ref b)] [] 1014 := by
  obtain ⟨P, hP, hk⟩ := ld_p_trace (l := l) (ad := ad) J hT 
  refine ld_aload_n O 2 dL_law_1014 rfl rfl ?_
  refine ld_callVi O (pc := 1015) (As := []) (st := []) ld_recv0 hP ld_mw_X2_trace ld_w611 rfl rfl ⟨by decide, by decide⟩ (Nat.le_of_ble_eq_true rfl) dL_law_1015 (fun r σ1 h1 => ?_)
  obtain ⟨P2, hP2, hk2⟩ := hk r σ1 h1
  refine ld_aload_n O 1 dL_law_1018 rfl rfl ?_
  refine ld_callVi O (pc := 1019) (As := []) (st := [.int r]) ld_recv8 hP2 ld_mw_X3_trace ld_w615 rfl rfl ⟨by decide, by decide⟩ (Nat.le_of_ble_eq_true rfl) dL_law_1019 (fun r2 σ2 h2 => ?_)
  obtain ⟨rfl, hJ⟩ := hk2 r2 σ2 h2
  exact ld_icmp_eq O r.toInt r.toInt rfl rfl 1063 dL_law_1022 (by decide) (fun _ => k σ2 hJ) (fun z => absurd rfl z)
set_option maxHeartbeats 4000000 in
set_option maxRecDepth 100000 in
theorem ld_q_fault {l : Launch} {K : ld_St → List (Nat × Value) → List Value → Nat → Prop} {ad : Nat → Nat} {b L : Nat} {xs : Nat → Int32} (O : ld_Ok l K ad cL_law 4 RL room_1) (Z : ld_Scr K cL_law b L xs) {σ : ld_St} {T j : Nat} (J : ld_J T σ) (hT : T ≤ 8000) (hj : j + 5 < L) (k : ∀ σ2, ld_J (T + 60) σ2 → K σ2 [(3, .int (nI j)), (2, .ref (ad 8)), (1, .ref (ad 0)), (0, .ref b)] [] 1063) : K σ [(3, .int (nI j)), (2, .ref (ad 8)), (1, .ref (ad 0)), (0, .ref b)] [] 1027 := by
  obtain ⟨P, hP, hk⟩ := ld_p_fault (l := l) (ad := ad) J hT 
  refine ld_aload_n O 2 dL_law_1027 rfl rfl ?_
  refine ld_callVi O (pc := 1028) (As := []) (st := []) ld_recv0 hP ld_mw_X2_fault ld_w619 rfl rfl ⟨by decide, by decide⟩ (Nat.le_of_ble_eq_true rfl) dL_law_1028 (fun r σ1 h1 => ?_)
  obtain ⟨P2, hP2, hk2⟩ := hk r σ1 h1
  refine ld_aload_n O 1 dL_law_1031 rfl rfl ?_
  refine ld_callVi O (pc := 1032) (As := []) (st := [.int r]) ld_recv8 hP2 ld_mw_X3_fault ld_w623 rfl rfl ⟨by decide, by decide⟩ (Nat.le_of_ble_eq_true rfl) dL_law_1032 (fun r2 σ2 h2 => ?_)
  obtain ⟨rfl, hJ⟩ := hk2 r2 σ2 h2
  exact ld_icmp_eq O r.toInt r.toInt rfl rfl 1063 dL_law_1035 (by decide) (fun _ => k σ2 hJ) (fun z => absurd rfl z)
set_option maxHeartbeats 4000000 in
set_option maxRecDepth 100000 in
theorem ld_q_many {l : Launch} {K : ld_St → List (Nat × Value) → List Value → Nat → Prop} {ad : Nat → Nat} {b L : Nat} {xs : Nat → Int32} (O : ld_Ok l K ad cL_law 4 RL room_1) (Z : ld_Scr K cL_law b L xs) {σ : ld_St} {T j : Nat} (J : ld_J T σ) (hT : T ≤ 8000) (hj : j + 5 < L) (k : ∀ σ2, ld_J (T + 60) σ2 → K σ2 [(3, .int (nI j)), (2, .ref (ad 8)), (1, .ref (ad 0)), (0, .ref b)] [] 1063) : K σ [(3, .int (nI j)), (2, .ref (ad 8)), (1, .ref (ad 0)), (0, .ref b)] [] 1040 := by
  obtain ⟨P, hP, hk⟩ := ld_p_many (l := l) (ad := ad) J hT (xs (j + 1))
  refine ld_aload_n O 2 dL_law_1040 rfl rfl ?_
  refine ld_aload_n O 3 dL_law_1041 rfl rfl ?_
  refine ld_iload_n O 0 dL_law_1042 rfl rfl ?_
  refine ld_iconst O (v := nI 1) dL_law_1043 (by decide) ?_
  refine ld_iaddN O dL_law_1044 ?_
  refine Z.1 _ _ _ _ (j + 1) (by omega) dL_law_1045 ?_
  refine ld_callVi O (pc := 1046) (As := [.int (xs (j + 1))]) (st := []) ld_recv0 hP ld_mw_X2_many ld_w627 rfl rfl ⟨by decide, by decide⟩ (Nat.le_of_ble_eq_true rfl) dL_law_1046 (fun r σ1 h1 => ?_)
  obtain ⟨P2, hP2, hk2⟩ := hk r σ1 h1
  refine ld_aload_n O 1 dL_law_1049 rfl rfl ?_
  refine ld_aload_n O 3 dL_law_1050 rfl rfl ?_
  refine ld_iload_n O 0 dL_law_1051 rfl rfl ?_
  refine ld_iconst O (v := nI 1) dL_law_1052 (by decide) ?_
  refine ld_iaddN O dL_law_1053 ?_
  refine Z.1 _ _ _ _ (j + 1) (by omega) dL_law_1054 ?_
  refine ld_callVi O (pc := 1055) (As := [.int (xs (j + 1))]) (st := [.int r]) ld_recv8 hP2 ld_mw_X3_many ld_w631 rfl rfl ⟨by decide, by decide⟩ (Nat.le_of_ble_eq_true rfl) dL_law_1055 (fun r2 σ2 h2 => ?_)
  obtain ⟨rfl, hJ⟩ := hk2 r2 σ2 h2
  exact ld_icmp_eq O r.toInt r.toInt rfl rfl 1063 dL_law_1058 (by decide) (fun _ => k σ2 hJ) (fun z => absurd rfl z)
