theorem INV_re {K : KK} {b : Bool} {KI : KK} {S : SS} (h : INV K b KI S) : INV (restoreS b K KI) b KI S := by
  cases b with
  | false => exact h
  | true => exact ⟨h.2.1 rfl, h.2.1, h.2.2⟩
set_option maxRecDepth 20000 in
set_option maxHeartbeats 4000000 in
theorem lc_0 {l : Launch} (X : PX l mL_law 14 QL) {L i : Nat} {xs : Nat → Int32} (sc : Sct X L xs) (hL : L ≤ 3072) (hi : i + 6 ≤ L) (K : KK) (b : Bool) (KI : KK) (S : SS) (h : MH) (n r : Nat) (hn9 : n + 1 < 1000000) (H : LI K b KI S h) (kn : NX X i n r) : VP X 208 (lsL i) [] h n (r + 1) (6 * r + 6) := by
  obtain ⟨hI, hc, hm, g, h93⟩ := H
  obtain ⟨⟨m, hT⟩, -, hSI⟩ := id hI
  obtain ⟨th, po, ba, en, tt, hm0⟩ := hm.1
  refine VP.cz (c1 := r) (z1 := 6 * r) (by omega) (by omega) ?_
  refine VP.aload_n dL_law_208 rfl ?_
  refine VP.la sc hL hi 1 (by omega) (by decide) rfl rfl dL_law_209 dL_law_210 dL_law_212 dL_law_213 dL_law_214 ?_
  refine VP.callV (c := r) (z := 6 * r) (c1 := 0) (z1 := 0) [_] dL_law_215 lk_L_21 rfl (Nat.le_of_ble_eq_true rfl) (Nat.le_of_ble_eq_true rfl) hc.1 rfl (x_text l 6 (s1_passStatement l) h n K b KI S m hc hT hSI _) (fun r1 h1 n1 q => ?_)
  obtain ⟨rfl, e9, hc1, ho1⟩ := q
  rw [e9]
  have hm1 := hm.far (fun q a1 a2 => ho1 q a1)
  refine VP.aload_n dL_law_218 rfl ?_
  refine VP.la sc hL hi 1 (by omega) (by decide) rfl rfl dL_law_219 dL_law_220 dL_law_222 dL_law_223 dL_law_224 ?_
  refine VP.callV (c := r) (z := 6 * r) (c1 := 0) (z1 := 0) [_] dL_law_225 lk_L_25 rfl (Nat.le_of_ble_eq_true rfl) (Nat.le_of_ble_eq_true rfl) ((ho1 78 (by omega)).trans hm0) rfl (m_text l 6 h1 n K b KI S m hm1 hT hSI _) (fun r2 h2 n2 q => ?_)
  obtain ⟨rfl, e8, hm2, ho2⟩ := q
  rw [e8]
  refine VP.icmp_eq (tgt := 1644) dL_law_228 (by decide) (fun _ => ?_) (fun q => absurd rfl q)
  exact kn _ _ _ _ h2 n ⟨⟨TI_text hT _, hI.2.1, hSI⟩, hc1.far (fun q hq => ho2 q (Or.inl hq)), hm2, g, by rw [ho2 93 (by omega), ho1 93 (by omega)]; exact h93⟩ (Nat.le_refl _) (by omega)
set_option maxRecDepth 20000 in
set_option maxHeartbeats 4000000 in
theorem lc_1 {l : Launch} (X : PX l mL_law 14 QL) {L i : Nat} {xs : Nat → Int32} (sc : Sct X L xs) (hL : L ≤ 3072) (hi : i + 6 ≤ L) (K : KK) (b : Bool) (KI : KK) (S : SS) (h : MH) (n r : Nat) (hn9 : n + 1 < 1000000) (H : LI K b KI S h) (kn : NX X i n r) : VP X 233 (lsL i) [] h n (r + 1) (6 * r + 6) := by
  obtain ⟨hI, hc, hm, g, h93⟩ := H
  obtain ⟨⟨m, hT⟩, -, hSI⟩ := id hI
  obtain ⟨th, po, ba, en, tt, hm0⟩ := hm.1
  refine VP.cz (c1 := r) (z1 := 6 * r) (by omega) (by omega) ?_
  refine VP.aload_n dL_law_233 rfl ?_
  refine VP.la sc hL hi 1 (by omega) (by decide) rfl rfl dL_law_234 dL_law_235 dL_law_237 dL_law_238 dL_law_239 ?_
  refine VP.callVv [_] dL_law_240 lk_L_26 rfl (Nat.le_of_ble_eq_true rfl) (Nat.le_of_ble_eq_true rfl) hc.1 rfl (x_ground l 11 h n K b KI S m hc hT _) ?_
  refine VP.aload_n dL_law_243 rfl ?_
  refine VP.la sc hL hi 1 (by omega) (by decide) rfl rfl dL_law_244 dL_law_245 dL_law_247 dL_law_248 dL_law_249 ?_
  refine VP.callVv [_] dL_law_250 lk_L_29 rfl (Nat.le_of_ble_eq_true rfl) (Nat.le_of_ble_eq_true rfl) hm0 rfl (m_ground l 11 h n K b KI S m hm hT _) ?_
  refine VP.icmp_eq (tgt := 1644) dL_law_253 (by decide) (fun _ => ?_) (fun q => absurd rfl q)
  exact kn K b KI S h n ⟨⟨⟨m, hT⟩, hI.2.1, hSI⟩, hc, hm, g, h93⟩ (Nat.le_refl _) (by omega)
set_option maxRecDepth 20000 in
set_option maxHeartbeats 4000000 in
theorem lc_2 {l : Launch} (X : PX l mL_law 14 QL) {L i : Nat} {xs : Nat → Int32} (sc : Sct X L xs) (hL : L ≤ 3072) (hi : i + 6 ≤ L) (K : KK) (b : Bool) (KI : KK) (S : SS) (h : MH) (n r : Nat) (hn9 : n + 1 < 1000000) (H : LI K b KI S h) (kn : NX X i n r) : VP X 258 (lsL i) [] h n (r + 1) (6 * r + 6) := by
  obtain ⟨hI, hc, hm, g, h93⟩ := H
  obtain ⟨⟨m, hT⟩, -, hSI⟩ := id hI
  obtain ⟨th, po, ba, en, tt, hm0⟩ := hm.1
  refine VP.cz (c1 := r) (z1 := 6 * r) (by omega) (by omega) ?_
  refine VP.aload_n dL_law_258 rfl ?_
  refine VP.la sc hL hi 1 (by omega) (by decide) rfl rfl dL_law_259 dL_law_260 dL_law_262 dL_law_263 dL_law_264 ?_
  refine VP.callVv [_] dL_law_265 lk_L_30 rfl (Nat.le_of_ble_eq_true rfl) (Nat.le_of_ble_eq_true rfl) hc.1 rfl (x_rule l 12 h n K b KI S m hc hT _) ?_
  refine VP.aload_n dL_law_268 rfl ?_
  refine VP.la sc hL hi 1 (by omega) (by decide) rfl rfl dL_law_269 dL_law_270 dL_law_272 dL_law_273 dL_law_274 ?_
  refine VP.callVv [_] dL_law_275 lk_L_33 rfl (Nat.le_of_ble_eq_true rfl) (Nat.le_of_ble_eq_true rfl) hm0 rfl (m_rule l 12 h n K b KI S m hm hT _) ?_
  refine VP.icmp_eq (tgt := 1644) dL_law_278 (by decide) (fun _ => ?_) (fun q => absurd rfl q)
  exact kn K b KI S h n ⟨⟨⟨m, hT⟩, hI.2.1, hSI⟩, hc, hm, g, h93⟩ (Nat.le_refl _) (by omega)
set_option maxRecDepth 20000 in
set_option maxHeartbeats 4000000 in
theorem lc_3 {l : Launch} (X : PX l mL_law 14 QL) {L i : Nat} {xs : Nat → Int32} (sc : Sct X L xs) (hL : L ≤ 3072) (hi : i + 6 ≤ L) (K : KK) (b : Bool) (KI : KK) (S : SS) (h : MH) (n r : Nat) (hn9 : n + 1 < 1000000) (H : LI K b KI S h) (kn : NX X i n r) : VP X 283 (lsL i) [] h n (r + 1) (6 * r + 6) := by
  obtain ⟨hI, hc, hm, g, h93⟩ := H
  obtain ⟨⟨m, hT⟩, -, hSI⟩ := id hI
  obtain ⟨th, po, ba, en, tt, hm0⟩ := hm.1
  refine VP.cz (c1 := r) (z1 := 6 * r) (by omega) (by omega) ?_
  refine VP.aload_n dL_law_283 rfl ?_
  refine VP.la sc hL hi 1 (by omega) (by decide) rfl rfl dL_law_284 dL_law_285 dL_law_287 dL_law_288 dL_law_289 ?_
  refine VP.la sc hL hi 2 (by omega) (by decide) rfl rfl dL_law_290 dL_law_291 dL_law_293 dL_law_294 dL_law_295 ?_
  refine VP.callVv [_, _] dL_law_296 lk_L_34 rfl (Nat.le_of_ble_eq_true rfl) (Nat.le_of_ble_eq_true rfl) hc.1 rfl (x_player l 8 h n K b KI S m hc hT _ _) ?_
  refine VP.aload_n dL_law_299 rfl ?_
  refine VP.la sc hL hi 1 (by omega) (by decide) rfl rfl dL_law_300 dL_law_301 dL_law_303 dL_law_304 dL_law_305 ?_
  refine VP.la sc hL hi 2 (by omega) (by decide) rfl rfl dL_law_306 dL_law_307 dL_law_309 dL_law_310 dL_law_311 ?_
  refine VP.callVv [_, _] dL_law_312 lk_L_38 rfl (Nat.le_of_ble_eq_true rfl) (Nat.le_of_ble_eq_true rfl) hm0 rfl (m_player l 7 h n K b KI S m hm hT (hc.hh hT) _ _) ?_
  refine VP.icmp_eq (tgt := 1644) dL_law_315 (by decide) (fun _ => ?_) (fun q => absurd rfl q)
  exact kn K b KI S h n ⟨⟨⟨m, hT⟩, hI.2.1, hSI⟩, hc, hm, g, h93⟩ (Nat.le_refl _) (by omega)
set_option maxRecDepth 20000 in
set_option maxHeartbeats 4000000 in
theorem lc_4 {l : Launch} (X : PX l mL_law 14 QL) {L i : Nat} {xs : Nat → Int32} (sc : Sct X L xs) (hL : L ≤ 3072) (hi : i + 6 ≤ L) (K : KK) (b : Bool) (KI : KK) (S : SS) (h : MH) (n r : Nat) (hn9 : n + 1 < 1000000) (H : LI K b KI S h) (kn : NX X i n r) : VP X 320 (lsL i) [] h n (r + 1) (6 * r + 6) := by
  obtain ⟨hI, hc, hm, g, h93⟩ := H
  obtain ⟨⟨m, hT⟩, -, hSI⟩ := id hI
  obtain ⟨th, po, ba, en, tt, hm0⟩ := hm.1
  refine VP.cz (c1 := r) (z1 := 6 * r) (by omega) (by omega) ?_
  refine VP.aload_n dL_law_320 rfl ?_
  refine VP.la sc hL hi 1 (by omega) (by decide) rfl rfl dL_law_321 dL_law_322 dL_law_324 dL_law_325 dL_law_326 ?_
  refine VP.la sc hL hi 2 (by omega) (by decide) rfl rfl dL_law_327 dL_law_328 dL_law_330 dL_law_331 dL_law_332 ?_
  refine VP.callV (c := r) (z := 6 * r) (c1 := 0) (z1 := 0) [_, _] dL_law_333 lk_L_39 rfl (Nat.le_of_ble_eq_true rfl) (Nat.le_of_ble_eq_true rfl) hc.1 rfl (x_role l 10 h n K b KI S m hc hT _ _) (fun r1 h1 n1 q => ?_)
  obtain ⟨rfl, e9, hc1, ho1⟩ := q
  rw [e9]
  have hm1 := hm.far (fun q a1 a2 => ho1 q a1)
  refine VP.aload_n dL_law_336 rfl ?_
  refine VP.la sc hL hi 1 (by omega) (by decide) rfl rfl dL_law_337 dL_law_338 dL_law_340 dL_law_341 dL_law_342 ?_
  refine VP.la sc hL hi 2 (by omega) (by decide) rfl rfl dL_law_343 dL_law_344 dL_law_346 dL_law_347 dL_law_348 ?_
  refine VP.callV (c := r) (z := 6 * r) (c1 := 0) (z1 := 0) [_, _] dL_law_349 lk_L_42 rfl (Nat.le_of_ble_eq_true rfl) (Nat.le_of_ble_eq_true rfl) ((ho1 78 (by omega)).trans hm0) rfl (m_role l 10 h1 n K b KI S m hm1 hT _ _) (fun r2 h2 n2 q => ?_)
  obtain ⟨rfl, e8, hm2, ho2⟩ := q
  rw [e8]
  refine VP.icmp_eq (tgt := 1644) dL_law_352 (by decide) (fun _ => ?_) (fun q => absurd rfl q)
  exact kn _ _ _ _ h2 n ⟨⟨⟨m, TI_roleS hT hSI _ _⟩, hI.2.1, hSI⟩, hc1.far (fun q hq => ho2 q (Or.inl hq)), hm2, g, by rw [ho2 93 (by omega), ho1 93 (by omega)]; exact h93⟩ (Nat.le_refl _) (by omega)
set_option maxRecDepth 20000 in
set_option maxHeartbeats 4000000 in
theorem lc_5 {l : Launch} (X : PX l mL_law 14 QL) {L i : Nat} {xs : Nat → Int32} (sc : Sct X L xs) (hL : L ≤ 3072) (hi : i + 6 ≤ L) (K : KK) (b : Bool) (KI : KK) (S : SS) (h : MH) (n r : Nat) (hn9 : n + 1 < 1000000) (H : LI K b KI S h) (kn : NX X i n r) : VP X 357 (lsL i) [] h n (r + 1) (6 * r + 6) := by
  obtain ⟨hI, hc, hm, g, h93⟩ := H
  obtain ⟨⟨m, hT⟩, -, hSI⟩ := id hI
  obtain ⟨th, po, ba, en, tt, hm0⟩ := hm.1
  refine VP.cz (c1 := r) (z1 := 6 * r) (by omega) (by omega) ?_
  refine VP.aload_n dL_law_357 rfl ?_
  refine VP.la sc hL hi 1 (by omega) (by decide) rfl rfl dL_law_358 dL_law_359 dL_law_361 dL_law_362 dL_law_363 ?_
  refine VP.la sc hL hi 2 (by omega) (by decide) rfl rfl dL_law_364 dL_law_365 dL_law_367 dL_law_368 dL_law_369 ?_
  refine VP.callVv [_, _] dL_law_370 lk_L_43 rfl (Nat.le_of_ble_eq_true rfl) (Nat.le_of_ble_eq_true rfl) hc.1 rfl (x_sees l 11 h n K b KI S m hc hT _ _) ?_
  refine VP.aload_n dL_law_373 rfl ?_
  refine VP.la sc hL hi 1 (by omega) (by decide) rfl rfl dL_law_374 dL_law_375 dL_law_377 dL_law_378 dL_law_379 ?_
  refine VP.la sc hL hi 2 (by omega) (by decide) rfl rfl dL_law_380 dL_law_381 dL_law_383 dL_law_384 dL_law_385 ?_
  refine VP.callVv [_, _] dL_law_386 lk_L_46 rfl (Nat.le_of_ble_eq_true rfl) (Nat.le_of_ble_eq_true rfl) hm0 rfl (m_sees l 10 h n K b KI S m hm hT (hc.hh hT) _ _) ?_
  refine VP.icmp_eq (tgt := 1644) dL_law_389 (by decide) (fun _ => ?_) (fun q => absurd rfl q)
  exact kn K b KI S h n ⟨⟨⟨m, hT⟩, hI.2.1, hSI⟩, hc, hm, g, h93⟩ (Nat.le_refl _) (by omega)
set_option maxRecDepth 20000 in
set_option maxHeartbeats 4000000 in
theorem lc_6 {l : Launch} (X : PX l mL_law 14 QL) {L i : Nat} {xs : Nat → Int32} (sc : Sct X L xs) (hL : L ≤ 3072) (hi : i + 6 ≤ L) (K : KK) (b : Bool) (KI : KK) (S : SS) (h : MH) (n r : Nat) (hn9 : n + 1 < 1000000) (H : LI K b KI S h) (kn : NX X i n r) : VP X 394 (lsL i) [] h n (r + 1) (6 * r + 6) := by
  obtain ⟨hI, hc, hm, g, h93⟩ := H
  obtain ⟨⟨m, hT⟩, -, hSI⟩ := id hI
  obtain ⟨th, po, ba, en, tt, hm0⟩ := hm.1
  refine VP.cz (c1 := r) (z1 := 6 * r) (by omega) (by omega) ?_
  refine VP.aload_n dL_law_394 rfl ?_
  refine VP.la sc hL hi 1 (by omega) (by decide) rfl rfl dL_law_395 dL_law_396 dL_law_398 dL_law_399 dL_law_400 ?_
  refine VP.la sc hL hi 2 (by omega) (by decide) rfl rfl dL_law_401 dL_law_402 dL_law_404 dL_law_405 dL_law_406 ?_
  refine VP.callVv [_, _] dL_law_407 lk_L_47 rfl (Nat.le_of_ble_eq_true rfl) (Nat.le_of_ble_eq_true rfl) hc.1 rfl (x_flag l 11 h n K b KI S m hc hT _ _) ?_
  refine VP.aload_n dL_law_410 rfl ?_
  refine VP.la sc hL hi 1 (by omega) (by decide) rfl rfl dL_law_411 dL_law_412 dL_law_414 dL_law_415 dL_law_416 ?_
  refine VP.la sc hL hi 2 (by omega) (by decide) rfl rfl dL_law_417 dL_law_418 dL_law_420 dL_law_421 dL_law_422 ?_
  refine VP.callVv [_, _] dL_law_423 lk_L_50 rfl (Nat.le_of_ble_eq_true rfl) (Nat.le_of_ble_eq_true rfl) hm0 rfl (m_flag l 11 h n K b KI S m hm hT _ _) ?_
  refine VP.icmp_eq (tgt := 1644) dL_law_426 (by decide) (fun _ => ?_) (fun q => absurd rfl q)
  exact kn K b KI S h n ⟨⟨⟨m, hT⟩, hI.2.1, hSI⟩, hc, hm, g, h93⟩ (Nat.le_refl _) (by omega)
set_option maxRecDepth 20000 in
set_option maxHeartbeats 4000000 in
theorem lc_7 {l : Launch} (X : PX l mL_law 14 QL) {L i : Nat} {xs : Nat → Int32} (sc : Sct X L xs) (hL : L ≤ 3072) (hi : i + 6 ≤ L) (K : KK) (b : Bool) (KI : KK) (S : SS) (h : MH) (n r : Nat) (hn9 : n + 1 < 1000000) (H : LI K b KI S h) (kn : NX X i n r) : VP X 431 (lsL i) [] h n (r + 1) (6 * r + 6) := by
  obtain ⟨hI, hc, hm, g, h93⟩ := H
  obtain ⟨⟨m, hT⟩, -, hSI⟩ := id hI
  obtain ⟨th, po, ba, en, tt, hm0⟩ := hm.1
  refine VP.cz (c1 := r) (z1 := 6 * r) (by omega) (by omega) ?_
  refine VP.aload_n dL_law_431 rfl ?_
  refine VP.la sc hL hi 1 (by omega) (by decide) rfl rfl dL_law_432 dL_law_433 dL_law_435 dL_law_436 dL_law_437 ?_
  refine VP.la sc hL hi 2 (by omega) (by decide) rfl rfl dL_law_438 dL_law_439 dL_law_441 dL_law_442 dL_law_443 ?_
  refine VP.callVv [_, _] dL_law_444 lk_L_51 rfl (Nat.le_of_ble_eq_true rfl) (Nat.le_of_ble_eq_true rfl) hc.1 rfl (x_near l 11 h n K b KI S m hc hT _ _) ?_
  refine VP.aload_n dL_law_447 rfl ?_
  refine VP.la sc hL hi 1 (by omega) (by decide) rfl rfl dL_law_448 dL_law_449 dL_law_451 dL_law_452 dL_law_453 ?_
  refine VP.la sc hL hi 2 (by omega) (by decide) rfl rfl dL_law_454 dL_law_455 dL_law_457 dL_law_458 dL_law_459 ?_
  refine VP.callVv [_, _] dL_law_460 lk_L_54 rfl (Nat.le_of_ble_eq_true rfl) (Nat.le_of_ble_eq_true rfl) hm0 rfl (m_near l 11 h n K b KI S m hm hT _ _) ?_
  refine VP.icmp_eq (tgt := 1644) dL_law_463 (by decide) (fun _ => ?_) (fun q => absurd rfl q)
  exact kn K b KI S h n ⟨⟨⟨m, hT⟩, hI.2.1, hSI⟩, hc, hm, g, h93⟩ (Nat.le_refl _) (by omega)
set_option maxRecDepth 20000 in
set_option maxHeartbeats 4000000 in
theorem lc_8 {l : Launch} (X : PX l mL_law 14 QL) {L i : Nat} {xs : Nat → Int32} (sc : Sct X L xs) (hL : L ≤ 3072) (hi : i + 6 ≤ L) (K : KK) (b : Bool) (KI : KK) (S : SS) (h : MH) (n r : Nat) (hn9 : n + 1 < 1000000) (H : LI K b KI S h) (kn : NX X i n r) : VP X 468 (lsL i) [] h n (r + 1) (6 * r + 6) := by
  obtain ⟨hI, hc, hm, g, h93⟩ := H
  obtain ⟨⟨m, hT⟩, -, hSI⟩ := id hI
  obtain ⟨th, po, ba, en, tt, hm0⟩ := hm.1
  refine VP.cz (c1 := r) (z1 := 6 * r) (by omega) (by omega) ?_
  refine VP.aload_n dL_law_468 rfl ?_
  refine VP.la sc hL hi 1 (by omega) (by decide) rfl rfl dL_law_469 dL_law_470 dL_law_472 dL_law_473 dL_law_474 ?_
  refine VP.callV (c := r) (z := 6 * r) (c1 := 0) (z1 := 0) [_] dL_law_475 lk_L_55 rfl (Nat.le_of_ble_eq_true rfl) (Nat.le_of_ble_eq_true rfl) hc.1 rfl (x_go l 7 h n K b KI S m hc hT _) (fun r1 h1 n1 q => ?_)
  obtain ⟨rfl, e9, hc1, ho1⟩ := q
  rw [e9]
  have hm1 := hm.far (fun q a1 a2 => ho1 q a1)
  refine VP.aload_n dL_law_478 rfl ?_
  refine VP.la sc hL hi 1 (by omega) (by decide) rfl rfl dL_law_479 dL_law_480 dL_law_482 dL_law_483 dL_law_484 ?_
  refine VP.callV (c := r) (z := 6 * r) (c1 := 0) (z1 := 0) [_] dL_law_485 lk_L_58 rfl (Nat.le_of_ble_eq_true rfl) (Nat.le_of_ble_eq_true rfl) ((ho1 78 (by omega)).trans hm0) rfl (m_go l 4 h1 n K b KI S m hm1 hT _) (fun r2 h2 n2 q => ?_)
  obtain ⟨rfl, e8, hm2, ho2⟩ := q
  rw [e8]
  refine VP.icmp_eq (tgt := 1644) dL_law_488 (by decide) (fun _ => ?_) (fun q => absurd rfl q)
  exact kn _ _ _ _ h2 n ⟨⟨⟨m, TI_go hT _⟩, hI.2.1, hSI⟩, hc1.far (fun q hq => ho2 q (Or.inl hq)), hm2, g, by rw [ho2 93 (by omega), ho1 93 (by omega)]; exact h93⟩ (Nat.le_refl _) (by omega)
set_option maxRecDepth 20000 in
set_option maxHeartbeats 4000000 in
theorem lc_9 {l : Launch} (X : PX l mL_law 14 QL) {L i : Nat} {xs : Nat → Int32} (sc : Sct X L xs) (hL : L ≤ 3072) (hi : i + 6 ≤ L) (K : KK) (b : Bool) (KI : KK) (S : SS) (h : MH) (n r : Nat) (hn9 : n + 1 < 1000000) (H : LI K b KI S h) (kn : NX X i n r) : VP X 493 (lsL i) [] h n (r + 1) (6 * r + 6) := by
  obtain ⟨hI, hc, hm, g, h93⟩ := H
  obtain ⟨⟨m, hT⟩, -, hSI⟩ := id hI
  obtain ⟨th, po, ba, en, tt, hm0⟩ := hm.1
  refine VP.cz (c1 := r) (z1 := 6 * r) (by omega) (by omega) ?_
  refine VP.aload_n dL_law_493 rfl ?_
  refine VP.la sc hL hi 1 (by omega) (by decide) rfl rfl dL_law_494 dL_law_495 dL_law_497 dL_law_498 dL_law_499 ?_
  refine VP.callVv [_] dL_law_500 lk_L_59 rfl (Nat.le_of_ble_eq_true rfl) (Nat.le_of_ble_eq_true rfl) hc.1 rfl (x_state l 12 h n K b KI S m hc hT _) ?_
  refine VP.aload_n dL_law_503 rfl ?_
  refine VP.la sc hL hi 1 (by omega) (by decide) rfl rfl dL_law_504 dL_law_505 dL_law_507 dL_law_508 dL_law_509 ?_
  refine VP.callVv [_] dL_law_510 lk_L_62 rfl (Nat.le_of_ble_eq_true rfl) (Nat.le_of_ble_eq_true rfl) hm0 rfl (m_state l 11 h n K b KI S m hm hT _) ?_
  refine VP.icmp_eq (tgt := 1644) dL_law_513 (by decide) (fun _ => ?_) (fun q => absurd rfl q)
  exact kn K b KI S h n ⟨⟨⟨m, hT⟩, hI.2.1, hSI⟩, hc, hm, g, h93⟩ (Nat.le_refl _) (by omega)
set_option maxRecDepth 20000 in
set_option maxHeartbeats 4000000 in
theorem lc_10 {l : Launch} (X : PX l mL_law 14 QL) {L i : Nat} {xs : Nat → Int32} (sc : Sct X L xs) (hL : L ≤ 3072) (hi : i + 6 ≤ L) (K : KK) (b : Bool) (KI : KK) (S : SS) (h : MH) (n r : Nat) (hn9 : n + 1 < 1000000) (H : LI K b KI S h) (kn : NX X i n r) : VP X 518 (lsL i) [] h n (r + 1) (6 * r + 6) := by
  obtain ⟨hI, hc, hm, g, h93⟩ := H
  obtain ⟨⟨m, hT⟩, -, hSI⟩ := id hI
  obtain ⟨th, po, ba, en, tt, hm0⟩ := hm.1
  refine VP.cz (c1 := r) (z1 := 6 * r) (by omega) (by omega) ?_
  refine VP.aload_n dL_law_518 rfl ?_
  refine VP.callV (c := r) (z := 6 * r) (c1 := 0) (z1 := 0) [] dL_law_519 lk_L_63 rfl (Nat.le_of_ble_eq_true rfl) (Nat.le_of_ble_eq_true rfl) hc.1 rfl (x_anew l 11 h n K b KI S m hc hT) (fun r1 h1 n1 q => ?_)
  obtain ⟨rfl, e9, hc1, ho1⟩ := q
  rw [e9]
  have hm1 := hm.far (fun q a1 a2 => ho1 q a1)
  refine VP.aload_n dL_law_522 rfl ?_
  refine VP.callV (c := r) (z := 6 * r) (c1 := 0) (z1 := 0) [] dL_law_523 lk_L_67 rfl (Nat.le_of_ble_eq_true rfl) (Nat.le_of_ble_eq_true rfl) ((ho1 78 (by omega)).trans hm0) rfl (m_anew l 11 h1 n K b KI S m hm1 hT) (fun r2 h2 n2 q => ?_)
  obtain ⟨rfl, e8, hm2, ho2⟩ := q
  rw [e8]
  refine VP.icmp_eq (tgt := 1644) dL_law_526 (by decide) (fun _ => ?_) (fun q => absurd rfl q)
  exact kn _ _ _ _ h2 n ⟨⟨⟨m, TI_bgn hT _⟩, hI.2.1, hSI⟩, hc1.far (fun q hq => ho2 q (Or.inl hq)), hm2, g, by rw [ho2 93 (by omega), ho1 93 (by omega)]; exact h93⟩ (Nat.le_refl _) (by omega)
set_option maxRecDepth 20000 in
set_option maxHeartbeats 4000000 in
theorem lc_11 {l : Launch} (X : PX l mL_law 14 QL) {L i : Nat} {xs : Nat → Int32} (sc : Sct X L xs) (hL : L ≤ 3072) (hi : i + 6 ≤ L) (K : KK) (b : Bool) (KI : KK) (S : SS) (h : MH) (n r : Nat) (hn9 : n + 1 < 1000000) (H : LI K b KI S h) (kn : NX X i n r) : VP X 531 (lsL i) [] h n (r + 1) (6 * r + 6) := by
  obtain ⟨hI, hc, hm, g, h93⟩ := H
  obtain ⟨⟨m, hT⟩, -, hSI⟩ := id hI
  obtain ⟨th, po, ba, en, tt, hm0⟩ := hm.1
  refine VP.cz (c1 := r) (z1 := 6 * r) (by omega) (by omega) ?_
  refine VP.aload_n dL_law_531 rfl ?_
  refine VP.la sc hL hi 1 (by omega) (by decide) rfl rfl dL_law_532 dL_law_533 dL_law_535 dL_law_536 dL_law_537 ?_
  refine VP.callV (c := r) (z := 6 * r) (c1 := 0) (z1 := 0) [_] dL_law_538 lk_L_68 rfl (Nat.le_of_ble_eq_true rfl) (Nat.le_of_ble_eq_true rfl) hc.1 rfl (x_seed l 13 h n K b KI S m hc hT _) (fun r1 h1 n1 q => ?_)
  obtain ⟨rfl, e9, hc1, ho1⟩ := q
  rw [e9]
  have hm1 := hm.far (fun q a1 a2 => ho1 q a1)
  refine VP.aload_n dL_law_541 rfl ?_
  refine VP.la sc hL hi 1 (by omega) (by decide) rfl rfl dL_law_542 dL_law_543 dL_law_545 dL_law_546 dL_law_547 ?_
  refine VP.callV (c := r) (z := 6 * r) (c1 := 0) (z1 := 0) [_] dL_law_548 lk_L_71 rfl (Nat.le_of_ble_eq_true rfl) (Nat.le_of_ble_eq_true rfl) ((ho1 78 (by omega)).trans hm0) rfl (m_seed l 13 h1 n K b KI S m hm1 hT _) (fun r2 h2 n2 q => ?_)
  obtain ⟨rfl, e8, hm2, ho2⟩ := q
  rw [e8]
  refine VP.icmp_eq (tgt := 1644) dL_law_551 (by decide) (fun _ => ?_) (fun q => absurd rfl q)
  exact kn _ _ _ _ h2 n ⟨⟨⟨m, TI_seed hT _⟩, hI.2.1, hSI⟩, hc1.far (fun q hq => ho2 q (Or.inl hq)), hm2, g, by rw [ho2 93 (by omega), ho1 93 (by omega)]; exact h93⟩ (Nat.le_refl _) (by omega)
set_option maxRecDepth 20000 in
set_option maxHeartbeats 4000000 in
theorem lc_12 {l : Launch} (X : PX l mL_law 14 QL) {L i : Nat} {xs : Nat → Int32} (sc : Sct X L xs) (hL : L ≤ 3072) (hi : i + 6 ≤ L) (K : KK) (b : Bool) (KI : KK) (S : SS) (h : MH) (n r : Nat) (hn9 : n + 1 < 1000000) (H : LI K b KI S h) (kn : NX X i n r) : VP X 556 (lsL i) [] h n (r + 1) (6 * r + 6) := by
  obtain ⟨hI, hc, hm, g, h93⟩ := H
  obtain ⟨⟨m, hT⟩, -, hSI⟩ := id hI
  obtain ⟨th, po, ba, en, tt, hm0⟩ := hm.1
  refine VP.cz (c1 := r) (z1 := 6 * r) (by omega) (by omega) ?_
  refine VP.aload_n dL_law_556 rfl ?_
  refine VP.la sc hL hi 1 (by omega) (by decide) rfl rfl dL_law_557 dL_law_558 dL_law_560 dL_law_561 dL_law_562 ?_
  refine VP.la sc hL hi 2 (by omega) (by decide) rfl rfl dL_law_563 dL_law_564 dL_law_566 dL_law_567 dL_law_568 ?_
  refine VP.callV (c := r) (z := 6 * r) (c1 := 0) (z1 := 0) [_, _] dL_law_569 lk_L_72 rfl (Nat.le_of_ble_eq_true rfl) (Nat.le_of_ble_eq_true rfl) hc.1 rfl (x_judge l 7 h n K b KI S m hc hT hSI _ _) (fun r1 h1 n1 q => ?_)
  obtain ⟨rfl, e9, hc1, ho1⟩ := q
  rw [e9]
  have hm1 := hm.far (fun q a1 a2 => ho1 q a1)
  refine VP.aload_n dL_law_572 rfl ?_
  refine VP.la sc hL hi 1 (by omega) (by decide) rfl rfl dL_law_573 dL_law_574 dL_law_576 dL_law_577 dL_law_578 ?_
  refine VP.la sc hL hi 2 (by omega) (by decide) rfl rfl dL_law_579 dL_law_580 dL_law_582 dL_law_583 dL_law_584 ?_
  refine VP.callV (c := r) (z := 6 * r) (c1 := 0) (z1 := 0) [_, _] dL_law_585 lk_L_75 rfl (Nat.le_of_ble_eq_true rfl) (Nat.le_of_ble_eq_true rfl) ((ho1 78 (by omega)).trans hm0) rfl (m_judge l 4 h1 n K b KI S m hm1 hT hSI _ _) (fun r2 h2 n2 q => ?_)
  obtain ⟨rfl, e8, hm2, ho2⟩ := q
  rw [e8]
  refine VP.icmp_eq (tgt := 1644) dL_law_588 (by decide) (fun _ => ?_) (fun q => absurd rfl q)
  exact kn _ _ _ _ h2 n ⟨⟨⟨m, hT⟩, hI.2.1, hSI⟩, hc1.far (fun q hq => ho2 q (Or.inl hq)), hm2, g, by rw [ho2 93 (by omega), ho1 93 (by omega)]; exact h93⟩ (Nat.le_refl _) (by omega)
set_option maxRecDepth 20000 in
set_option maxHeartbeats 4000000 in
theorem lc_13 {l : Launch} (X : PX l mL_law 14 QL) {L i : Nat} {xs : Nat → Int32} (sc : Sct X L xs) (hL : L ≤ 3072) (hi : i + 6 ≤ L) (K : KK) (b : Bool) (KI : KK) (S : SS) (h : MH) (n r : Nat) (hn9 : n + 1 < 1000000) (H : LI K b KI S h) (kn : NX X i n r) : VP X 593 (lsL i) [] h n (r + 1) (6 * r + 6) := by
  obtain ⟨hI, hc, hm, g, h93⟩ := H
  obtain ⟨⟨m, hT⟩, -, hSI⟩ := id hI
  obtain ⟨th, po, ba, en, tt, hm0⟩ := hm.1
  refine VP.cz (c1 := r) (z1 := 6 * r) (by omega) (by omega) ?_
  refine VP.aload_n dL_law_593 rfl ?_
  refine VP.la sc hL hi 1 (by omega) (by decide) rfl rfl dL_law_594 dL_law_595 dL_law_597 dL_law_598 dL_law_599 ?_
  refine VP.la sc hL hi 2 (by omega) (by decide) rfl rfl dL_law_600 dL_law_601 dL_law_603 dL_law_604 dL_law_605 ?_
  refine VP.callV (c := r) (z := 6 * r) (c1 := 0) (z1 := 0) [_, _] dL_law_606 lk_L_76 rfl (Nat.le_of_ble_eq_true rfl) (Nat.le_of_ble_eq_true rfl) hc.1 rfl (x_game l 6 h n K b KI S m hc hT _ _) (fun r1 h1 n1 q => ?_)
  obtain ⟨rfl, e9, hc1, ho1⟩ := q
  rw [e9]
  have hm1 := hm.far (fun q a1 a2 => ho1 q a1)
  refine VP.aload_n dL_law_609 rfl ?_
  refine VP.la sc hL hi 1 (by omega) (by decide) rfl rfl dL_law_610 dL_law_611 dL_law_613 dL_law_614 dL_law_615 ?_
  refine VP.la sc hL hi 2 (by omega) (by decide) rfl rfl dL_law_616 dL_law_617 dL_law_619 dL_law_620 dL_law_621 ?_
  refine VP.callV (c := r) (z := 6 * r) (c1 := 0) (z1 := 0) [_, _] dL_law_622 lk_L_79 rfl (Nat.le_of_ble_eq_true rfl) (Nat.le_of_ble_eq_true rfl) ((ho1 78 (by omega)).trans hm0) rfl (m_game l 3 h1 n K b KI S m hm1 hT _ _) (fun r2 h2 n2 q => ?_)
  obtain ⟨rfl, e8, hm2, ho2⟩ := q
  rw [e8]
  refine VP.icmp_eq (tgt := 1644) dL_law_625 (by decide) (fun _ => ?_) (fun q => absurd rfl q)
  exact kn _ _ _ _ h2 n ⟨⟨⟨m, hT⟩, hI.2.1, hSI⟩, hc1.far (fun q hq => ho2 q (Or.inl hq)), hm2, g, by rw [ho2 93 (by omega), ho1 93 (by omega)]; exact h93⟩ (Nat.le_refl _) (by omega)
set_option maxRecDepth 20000 in
set_option maxHeartbeats 4000000 in
theorem lc_14 {l : Launch} (X : PX l mL_law 14 QL) {L i : Nat} {xs : Nat → Int32} (sc : Sct X L xs) (hL : L ≤ 3072) (hi : i + 6 ≤ L) (K : KK) (b : Bool) (KI : KK) (S : SS) (h : MH) (n r : Nat) (hn9 : n + 1 < 1000000) (H : LI K b KI S h) (kn : NX X i n r) : VP X 630 (lsL i) [] h n (r + 1) (6 * r + 6) := by
  obtain ⟨hI, hc, hm, g, h93⟩ := H
  obtain ⟨⟨m, hT⟩, -, hSI⟩ := id hI
  obtain ⟨th, po, ba, en, tt, hm0⟩ := hm.1
  refine VP.cz (c1 := r) (z1 := 6 * r) (by omega) (by omega) ?_
  refine VP.aload_n dL_law_630 rfl ?_
  refine VP.la sc hL hi 1 (by omega) (by decide) rfl rfl dL_law_631 dL_law_632 dL_law_634 dL_law_635 dL_law_636 ?_
  refine VP.la sc hL hi 2 (by omega) (by decide) rfl rfl dL_law_637 dL_law_638 dL_law_640 dL_law_641 dL_law_642 ?_
  refine VP.callV (c := r) (z := 6 * r) (c1 := 0) (z1 := 0) [_, _] dL_law_643 lk_L_80 rfl (Nat.le_of_ble_eq_true rfl) (Nat.le_of_ble_eq_true rfl) hc.1 rfl (x_against l 6 h n K b KI S m hc hT _ _) (fun r1 h1 n1 q => ?_)
  obtain ⟨rfl, e9, hc1, ho1⟩ := q
  rw [e9]
  have hm1 := hm.far (fun q a1 a2 => ho1 q a1)
  refine VP.aload_n dL_law_646 rfl ?_
  refine VP.la sc hL hi 1 (by omega) (by decide) rfl rfl dL_law_647 dL_law_648 dL_law_650 dL_law_651 dL_law_652 ?_
  refine VP.la sc hL hi 2 (by omega) (by decide) rfl rfl dL_law_653 dL_law_654 dL_law_656 dL_law_657 dL_law_658 ?_
  refine VP.callV (c := r) (z := 6 * r) (c1 := 0) (z1 := 0) [_, _] dL_law_659 lk_L_83 rfl (Nat.le_of_ble_eq_true rfl) (Nat.le_of_ble_eq_true rfl) ((ho1 78 (by omega)).trans hm0) rfl (m_against l 2 h1 n K b KI S m hm1 hT _ _) (fun r2 h2 n2 q => ?_)
  obtain ⟨rfl, e8, hm2, ho2⟩ := q
  rw [e8]
  refine VP.icmp_eq (tgt := 1644) dL_law_662 (by decide) (fun _ => ?_) (fun q => absurd rfl q)
  exact kn _ _ _ _ h2 n ⟨⟨⟨m, hT⟩, hI.2.1, hSI⟩, hc1.far (fun q hq => ho2 q (Or.inl hq)), hm2, g, by rw [ho2 93 (by omega), ho1 93 (by omega)]; exact h93⟩ (Nat.le_refl _) (by omega)
set_option maxRecDepth 20000 in
set_option maxHeartbeats 4000000 in
theorem lc_15 {l : Launch} (X : PX l mL_law 14 QL) {L i : Nat} {xs : Nat → Int32} (sc : Sct X L xs) (hL : L ≤ 3072) (hi : i + 6 ≤ L) (K : KK) (b : Bool) (KI : KK) (S : SS) (h : MH) (n r : Nat) (hn9 : n + 1 < 1000000) (H : LI K b KI S h) (kn : NX X i n r) : VP X 667 (lsL i) [] h n (r + 1) (6 * r + 6) := by
  obtain ⟨hI, hc, hm, g, h93⟩ := H
  obtain ⟨⟨m, hT⟩, -, hSI⟩ := id hI
  obtain ⟨th, po, ba, en, tt, hm0⟩ := hm.1
  refine VP.cz (c1 := r) (z1 := 6 * r) (by omega) (by omega) ?_
  refine VP.aload_n dL_law_667 rfl ?_
  refine VP.la sc hL hi 1 (by omega) (by decide) rfl rfl dL_law_668 dL_law_669 dL_law_671 dL_law_672 dL_law_673 ?_
  refine VP.la sc hL hi 2 (by omega) (by decide) rfl rfl dL_law_674 dL_law_675 dL_law_677 dL_law_678 dL_law_679 ?_
  refine VP.la sc hL hi 3 (by omega) (by decide) rfl rfl dL_law_680 dL_law_681 dL_law_683 dL_law_684 dL_law_685 ?_
  refine VP.la sc hL hi 4 (by omega) (by decide) rfl rfl dL_law_686 dL_law_687 dL_law_689 dL_law_690 dL_law_691 ?_
  refine VP.callV (c := r) (z := 6 * r) (c1 := 0) (z1 := 0) [_, _, _, _] dL_law_692 lk_L_84 rfl (Nat.le_of_ble_eq_true rfl) (Nat.le_of_ble_eq_true rfl) hc.1 rfl (x_table l 6 h n K b KI S m hc hT hSI _ _ _ _) (fun r1 h1 n1 q => ?_)
  obtain ⟨rfl, e9, hc1, ho1⟩ := q
  rw [e9]
  have hm1 := hm.far (fun q a1 a2 => ho1 q a1)
  refine VP.aload_n dL_law_695 rfl ?_
  refine VP.la sc hL hi 1 (by omega) (by decide) rfl rfl dL_law_696 dL_law_697 dL_law_699 dL_law_700 dL_law_701 ?_
  refine VP.la sc hL hi 2 (by omega) (by decide) rfl rfl dL_law_702 dL_law_703 dL_law_705 dL_law_706 dL_law_707 ?_
  refine VP.la sc hL hi 3 (by omega) (by decide) rfl rfl dL_law_708 dL_law_709 dL_law_711 dL_law_712 dL_law_713 ?_
  refine VP.la sc hL hi 4 (by omega) (by decide) rfl rfl dL_law_714 dL_law_715 dL_law_717 dL_law_718 dL_law_719 ?_
  refine VP.callV (c := r) (z := 6 * r) (c1 := 0) (z1 := 0) [_, _, _, _] dL_law_720 lk_L_88 rfl (Nat.le_of_ble_eq_true rfl) (Nat.le_of_ble_eq_true rfl) ((ho1 78 (by omega)).trans hm0) rfl (m_table l 2 h1 n K b KI S m hm1 hT hSI _ _ _ _) (fun r2 h2 n2 q => ?_)
  obtain ⟨rfl, e8, hm2, ho2⟩ := q
  rw [e8]
  refine VP.icmp_eq (tgt := 1644) dL_law_723 (by decide) (fun _ => ?_) (fun q => absurd rfl q)
  exact kn _ _ _ _ h2 n ⟨⟨⟨m, hT⟩, hI.2.1, hSI⟩, hc1.far (fun q hq => ho2 q (Or.inl hq)), hm2, g, by rw [ho2 93 (by omega), ho1 93 (by omega)]; exact h93⟩ (Nat.le_refl _) (by omega)
set_option maxRecDepth 20000 in
set_option maxHeartbeats 4000000 in
theorem lc_16 {l : Launch} (X : PX l mL_law 14 QL) {L i : Nat} {xs : Nat → Int32} (sc : Sct X L xs) (hL : L ≤ 3072) (hi : i + 6 ≤ L) (K : KK) (b : Bool) (KI : KK) (S : SS) (h : MH) (n r : Nat) (hn9 : n + 1 < 1000000) (H : LI K b KI S h) (kn : NX X i n r) : VP X 728 (lsL i) [] h n (r + 1) (6 * r + 6) := by
  obtain ⟨hI, hc, hm, g, h93⟩ := H
  obtain ⟨⟨m, hT⟩, -, hSI⟩ := id hI
  obtain ⟨th, po, ba, en, tt, hm0⟩ := hm.1
  refine VP.cz (c1 := r) (z1 := 6 * r) (by omega) (by omega) ?_
  refine VP.aload_n dL_law_728 rfl ?_
  refine VP.la sc hL hi 1 (by omega) (by decide) rfl rfl dL_law_729 dL_law_730 dL_law_732 dL_law_733 dL_law_734 ?_
  refine VP.la sc hL hi 2 (by omega) (by decide) rfl rfl dL_law_735 dL_law_736 dL_law_738 dL_law_739 dL_law_740 ?_
  refine VP.la sc hL hi 3 (by omega) (by decide) rfl rfl dL_law_741 dL_law_742 dL_law_744 dL_law_745 dL_law_746 ?_
  refine VP.la sc hL hi 4 (by omega) (by decide) rfl rfl dL_law_747 dL_law_748 dL_law_750 dL_law_751 dL_law_752 ?_
  refine VP.la sc hL hi 5 (by omega) (by decide) rfl rfl dL_law_753 dL_law_754 dL_law_756 dL_law_757 dL_law_758 ?_
  refine VP.callV (c := r) (z := 6 * r) (c1 := 0) (z1 := 0) [_, _, _, _, _] dL_law_759 lk_L_89 rfl (Nat.le_of_ble_eq_true rfl) (Nat.le_of_ble_eq_true rfl) hc.1 rfl (x_bestPlan l 6 h n K b KI S m hc hT _ _ _ _ _) (fun r1 h1 n1 q => ?_)
  obtain ⟨rfl, e9, hc1, ho1⟩ := q
  rw [e9]
  have hm1 := hm.far (fun q a1 a2 => ho1 q a1)
  refine VP.aload_n dL_law_762 rfl ?_
  refine VP.la sc hL hi 1 (by omega) (by decide) rfl rfl dL_law_763 dL_law_764 dL_law_766 dL_law_767 dL_law_768 ?_
  refine VP.la sc hL hi 2 (by omega) (by decide) rfl rfl dL_law_769 dL_law_770 dL_law_772 dL_law_773 dL_law_774 ?_
  refine VP.la sc hL hi 3 (by omega) (by decide) rfl rfl dL_law_775 dL_law_776 dL_law_778 dL_law_779 dL_law_780 ?_
  refine VP.la sc hL hi 4 (by omega) (by decide) rfl rfl dL_law_781 dL_law_782 dL_law_784 dL_law_785 dL_law_786 ?_
  refine VP.la sc hL hi 5 (by omega) (by decide) rfl rfl dL_law_787 dL_law_788 dL_law_790 dL_law_791 dL_law_792 ?_
  refine VP.callV (c := r) (z := 6 * r) (c1 := 0) (z1 := 0) [_, _, _, _, _] dL_law_793 lk_L_93 rfl (Nat.le_of_ble_eq_true rfl) (Nat.le_of_ble_eq_true rfl) ((ho1 78 (by omega)).trans hm0) rfl (m_bestPlan l 2 h1 n K b KI S m hm1 hT _ _ _ _ _) (fun r2 h2 n2 q => ?_)
  obtain ⟨rfl, e8, hm2, ho2⟩ := q
  rw [e8]
  refine VP.icmp_eq (tgt := 1644) dL_law_796 (by decide) (fun _ => ?_) (fun q => absurd rfl q)
  exact kn _ _ _ _ h2 n ⟨⟨⟨m, hT⟩, hI.2.1, hSI⟩, hc1.far (fun q hq => ho2 q (Or.inl hq)), hm2, g, by rw [ho2 93 (by omega), ho1 93 (by omega)]; exact h93⟩ (Nat.le_refl _) (by omega)
set_option maxRecDepth 20000 in
set_option maxHeartbeats 4000000 in
theorem lc_17 {l : Launch} (X : PX l mL_law 14 QL) {L i : Nat} {xs : Nat → Int32} (sc : Sct X L xs) (hL : L ≤ 3072) (hi : i + 6 ≤ L) (K : KK) (b : Bool) (KI : KK) (S : SS) (h : MH) (n r : Nat) (hn9 : n + 1 < 1000000) (H : LI K b KI S h) (kn : NX X i n r) : VP X 801 (lsL i) [] h n (r + 1) (6 * r + 6) := by
  obtain ⟨hI, hc, hm, g, h93⟩ := H
  obtain ⟨⟨m, hT⟩, -, hSI⟩ := id hI
  obtain ⟨th, po, ba, en, tt, hm0⟩ := hm.1
  refine VP.cz (c1 := r) (z1 := 6 * r) (by omega) (by omega) ?_
  refine VP.aload_n dL_law_801 rfl ?_
  refine VP.la sc hL hi 1 (by omega) (by decide) rfl rfl dL_law_802 dL_law_803 dL_law_805 dL_law_806 dL_law_807 ?_
  refine VP.la sc hL hi 2 (by omega) (by decide) rfl rfl dL_law_808 dL_law_809 dL_law_811 dL_law_812 dL_law_813 ?_
  refine VP.callV (c := r) (z := 6 * r) (c1 := 0) (z1 := 0) [_, _] dL_law_814 lk_L_94 rfl (Nat.le_of_ble_eq_true rfl) (Nat.le_of_ble_eq_true rfl) hc.1 rfl (x_fair l 6 h n K b KI S m hc hT _ _) (fun r1 h1 n1 q => ?_)
  obtain ⟨rfl, e9, hc1, ho1⟩ := q
  rw [e9]
  have hm1 := hm.far (fun q a1 a2 => ho1 q a1)
  refine VP.aload_n dL_law_817 rfl ?_
  refine VP.la sc hL hi 1 (by omega) (by decide) rfl rfl dL_law_818 dL_law_819 dL_law_821 dL_law_822 dL_law_823 ?_
  refine VP.la sc hL hi 2 (by omega) (by decide) rfl rfl dL_law_824 dL_law_825 dL_law_827 dL_law_828 dL_law_829 ?_
  refine VP.callV (c := r) (z := 6 * r) (c1 := 0) (z1 := 0) [_, _] dL_law_830 lk_L_97 rfl (Nat.le_of_ble_eq_true rfl) (Nat.le_of_ble_eq_true rfl) ((ho1 78 (by omega)).trans hm0) rfl (m_fair l 2 h1 n K b KI S m hm1 hT _ _) (fun r2 h2 n2 q => ?_)
  obtain ⟨rfl, e8, hm2, ho2⟩ := q
  rw [e8]
  refine VP.icmp_eq (tgt := 1644) dL_law_833 (by decide) (fun _ => ?_) (fun q => absurd rfl q)
  exact kn _ _ _ _ h2 n ⟨⟨⟨m, hT⟩, hI.2.1, hSI⟩, hc1.far (fun q hq => ho2 q (Or.inl hq)), hm2, g, by rw [ho2 93 (by omega), ho1 93 (by omega)]; exact h93⟩ (Nat.le_refl _) (by omega)
set_option maxRecDepth 20000 in
set_option maxHeartbeats 4000000 in
theorem lc_18 {l : Launch} (X : PX l mL_law 14 QL) {L i : Nat} {xs : Nat → Int32} (sc : Sct X L xs) (hL : L ≤ 3072) (hi : i + 6 ≤ L) (K : KK) (b : Bool) (KI : KK) (S : SS) (h : MH) (n r : Nat) (hn9 : n + 1 < 1000000) (H : LI K b KI S h) (kn : NX X i n r) : VP X 838 (lsL i) [] h n (r + 1) (6 * r + 6) := by
  obtain ⟨hI, hc, hm, g, h93⟩ := H
  obtain ⟨⟨m, hT⟩, -, hSI⟩ := id hI
  obtain ⟨th, po, ba, en, tt, hm0⟩ := hm.1
  refine VP.cz (c1 := r) (z1 := 6 * r) (by omega) (by omega) ?_
  refine VP.aload_n dL_law_838 rfl ?_
  refine VP.la sc hL hi 1 (by omega) (by decide) rfl rfl dL_law_839 dL_law_840 dL_law_842 dL_law_843 dL_law_844 ?_
  refine VP.la sc hL hi 2 (by omega) (by decide) rfl rfl dL_law_845 dL_law_846 dL_law_848 dL_law_849 dL_law_850 ?_
  refine VP.la sc hL hi 3 (by omega) (by decide) rfl rfl dL_law_851 dL_law_852 dL_law_854 dL_law_855 dL_law_856 ?_
  refine VP.callV (c := r) (z := 6 * r) (c1 := 0) (z1 := 0) [_, _, _] dL_law_857 lk_L_98 rfl (Nat.le_of_ble_eq_true rfl) (Nat.le_of_ble_eq_true rfl) hc.1 rfl (x_smaller l 6 h n K b KI S m hc hT _ _ _) (fun r1 h1 n1 q => ?_)
  obtain ⟨rfl, e9, hc1, ho1⟩ := q
  rw [e9]
  have hm1 := hm.far (fun q a1 a2 => ho1 q a1)
  refine VP.aload_n dL_law_860 rfl ?_
  refine VP.la sc hL hi 1 (by omega) (by decide) rfl rfl dL_law_861 dL_law_862 dL_law_864 dL_law_865 dL_law_866 ?_
  refine VP.la sc hL hi 2 (by omega) (by decide) rfl rfl dL_law_867 dL_law_868 dL_law_870 dL_law_871 dL_law_872 ?_
  refine VP.la sc hL hi 3 (by omega) (by decide) rfl rfl dL_law_873 dL_law_874 dL_law_876 dL_law_877 dL_law_878 ?_
  refine VP.callV (c := r) (z := 6 * r) (c1 := 0) (z1 := 0) [_, _, _] dL_law_879 lk_L_102 rfl (Nat.le_of_ble_eq_true rfl) (Nat.le_of_ble_eq_true rfl) ((ho1 78 (by omega)).trans hm0) rfl (m_smaller l 2 h1 n K b KI S m hm1 hT _ _ _) (fun r2 h2 n2 q => ?_)
  obtain ⟨rfl, e8, hm2, ho2⟩ := q
  rw [e8]
  refine VP.icmp_eq (tgt := 1644) dL_law_882 (by decide) (fun _ => ?_) (fun q => absurd rfl q)
  exact kn _ _ _ _ h2 n ⟨⟨⟨m, hT⟩, hI.2.1, hSI⟩, hc1.far (fun q hq => ho2 q (Or.inl hq)), hm2, g, by rw [ho2 93 (by omega), ho1 93 (by omega)]; exact h93⟩ (Nat.le_refl _) (by omega)
set_option maxRecDepth 20000 in
set_option maxHeartbeats 4000000 in
theorem lc_19 {l : Launch} (X : PX l mL_law 14 QL) {L i : Nat} {xs : Nat → Int32} (sc : Sct X L xs) (hL : L ≤ 3072) (hi : i + 6 ≤ L) (K : KK) (b : Bool) (KI : KK) (S : SS) (h : MH) (n r : Nat) (hn9 : n + 1 < 1000000) (H : LI K b KI S h) (kn : NX X i n r) : VP X 887 (lsL i) [] h n (r + 1) (6 * r + 6) := by
  obtain ⟨hI, hc, hm, g, h93⟩ := H
  obtain ⟨⟨m, hT⟩, -, hSI⟩ := id hI
  obtain ⟨th, po, ba, en, tt, hm0⟩ := hm.1
  refine VP.cz (c1 := r) (z1 := 6 * r) (by omega) (by omega) ?_
  refine VP.aload_n dL_law_887 rfl ?_
  refine VP.la sc hL hi 1 (by omega) (by decide) rfl rfl dL_law_888 dL_law_889 dL_law_891 dL_law_892 dL_law_893 ?_
  refine VP.la sc hL hi 2 (by omega) (by decide) rfl rfl dL_law_894 dL_law_895 dL_law_897 dL_law_898 dL_law_899 ?_
  refine VP.callV (c := r) (z := 6 * r) (c1 := 0) (z1 := 0) [_, _] dL_law_900 lk_L_103 rfl (Nat.le_of_ble_eq_true rfl) (Nat.le_of_ble_eq_true rfl) hc.1 rfl (x_hour l 6 h n K b KI S m hc hT _ _) (fun r1 h1 n1 q => ?_)
  obtain ⟨rfl, e9, hc1, ho1⟩ := q
  rw [e9]
  have hm1 := hm.far (fun q a1 a2 => ho1 q a1)
  refine VP.aload_n dL_law_903 rfl ?_
  refine VP.la sc hL hi 1 (by omega) (by decide) rfl rfl dL_law_904 dL_law_905 dL_law_907 dL_law_908 dL_law_909 ?_
  refine VP.la sc hL hi 2 (by omega) (by decide) rfl rfl dL_law_910 dL_law_911 dL_law_913 dL_law_914 dL_law_915 ?_
  refine VP.callV (c := r) (z := 6 * r) (c1 := 0) (z1 := 0) [_, _] dL_law_916 lk_L_106 rfl (Nat.le_of_ble_eq_true rfl) (Nat.le_of_ble_eq_true rfl) ((ho1 78 (by omega)).trans hm0) rfl (m_hour l 3 h1 n K b KI S m hm1 hT _ _) (fun r2 h2 n2 q => ?_)
  obtain ⟨rfl, e8, hm2, ho2⟩ := q
  rw [e8]
  refine VP.icmp_eq (tgt := 1644) dL_law_919 (by decide) (fun _ => ?_) (fun q => absurd rfl q)
  exact kn _ _ _ _ h2 n ⟨⟨⟨m, hT⟩, hI.2.1, hSI⟩, hc1.far (fun q hq => ho2 q (Or.inl hq)), hm2, g, by rw [ho2 93 (by omega), ho1 93 (by omega)]; exact h93⟩ (Nat.le_refl _) (by omega)
set_option maxRecDepth 20000 in
set_option maxHeartbeats 4000000 in
theorem lc_20 {l : Launch} (X : PX l mL_law 14 QL) {L i : Nat} {xs : Nat → Int32} (sc : Sct X L xs) (hL : L ≤ 3072) (hi : i + 6 ≤ L) (K : KK) (b : Bool) (KI : KK) (S : SS) (h : MH) (n r : Nat) (hn9 : n + 1 < 1000000) (H : LI K b KI S h) (kn : NX X i n r) : VP X 924 (lsL i) [] h n (r + 1) (6 * r + 6) := by
  obtain ⟨hI, hc, hm, g, h93⟩ := H
  obtain ⟨⟨m, hT⟩, -, hSI⟩ := id hI
  obtain ⟨th, po, ba, en, tt, hm0⟩ := hm.1
  refine VP.cz (c1 := r) (z1 := 6 * r) (by omega) (by omega) ?_
  refine VP.aload_n dL_law_924 rfl ?_
  refine VP.la sc hL hi 1 (by omega) (by decide) rfl rfl dL_law_925 dL_law_926 dL_law_928 dL_law_929 dL_law_930 ?_
  refine VP.la sc hL hi 2 (by omega) (by decide) rfl rfl dL_law_931 dL_law_932 dL_law_934 dL_law_935 dL_law_936 ?_
  refine VP.la sc hL hi 3 (by omega) (by decide) rfl rfl dL_law_937 dL_law_938 dL_law_940 dL_law_941 dL_law_942 ?_
  refine VP.callVv [_, _, _] dL_law_943 lk_L_107 rfl (Nat.le_of_ble_eq_true rfl) (Nat.le_of_ble_eq_true rfl) hc.1 rfl (x_gain l 12 h n K b KI S m hc hT _ _ _) ?_
  refine VP.aload_n dL_law_946 rfl ?_
  refine VP.la sc hL hi 1 (by omega) (by decide) rfl rfl dL_law_947 dL_law_948 dL_law_950 dL_law_951 dL_law_952 ?_
  refine VP.la sc hL hi 2 (by omega) (by decide) rfl rfl dL_law_953 dL_law_954 dL_law_956 dL_law_957 dL_law_958 ?_
  refine VP.la sc hL hi 3 (by omega) (by decide) rfl rfl dL_law_959 dL_law_960 dL_law_962 dL_law_963 dL_law_964 ?_
  refine VP.callVv [_, _, _] dL_law_965 lk_L_110 rfl (Nat.le_of_ble_eq_true rfl) (Nat.le_of_ble_eq_true rfl) hm0 rfl (m_gain l 11 h n K b KI S m hm hT _ _ _) ?_
  refine VP.icmp_eq (tgt := 1644) dL_law_968 (by decide) (fun _ => ?_) (fun q => absurd rfl q)
  exact kn K b KI S h n ⟨⟨⟨m, hT⟩, hI.2.1, hSI⟩, hc, hm, g, h93⟩ (Nat.le_refl _) (by omega)
set_option maxRecDepth 20000 in
set_option maxHeartbeats 4000000 in
theorem lc_21 {l : Launch} (X : PX l mL_law 14 QL) {L i : Nat} {xs : Nat → Int32} (sc : Sct X L xs) (hL : L ≤ 3072) (hi : i + 6 ≤ L) (K : KK) (b : Bool) (KI : KK) (S : SS) (h : MH) (n r : Nat) (hn9 : n + 1 < 1000000) (H : LI K b KI S h) (kn : NX X i n r) : VP X 973 (lsL i) [] h n (r + 1) (6 * r + 6) := by
  obtain ⟨hI, hc, hm, g, h93⟩ := H
  obtain ⟨⟨m, hT⟩, -, hSI⟩ := id hI
  obtain ⟨th, po, ba, en, tt, hm0⟩ := hm.1
  refine VP.cz (c1 := r) (z1 := 6 * r) (by omega) (by omega) ?_
  refine VP.aload_n dL_law_973 rfl ?_
  refine VP.la sc hL hi 1 (by omega) (by decide) rfl rfl dL_law_974 dL_law_975 dL_law_977 dL_law_978 dL_law_979 ?_
  refine VP.la sc hL hi 2 (by omega) (by decide) rfl rfl dL_law_980 dL_law_981 dL_law_983 dL_law_984 dL_law_985 ?_
  refine VP.callVv [_, _] dL_law_986 lk_L_111 rfl (Nat.le_of_ble_eq_true rfl) (Nat.le_of_ble_eq_true rfl) hc.1 rfl (x_rests l 11 h n K b KI S m hc hT _ _) ?_
  refine VP.aload_n dL_law_989 rfl ?_
  refine VP.la sc hL hi 1 (by omega) (by decide) rfl rfl dL_law_990 dL_law_991 dL_law_993 dL_law_994 dL_law_995 ?_
  refine VP.la sc hL hi 2 (by omega) (by decide) rfl rfl dL_law_996 dL_law_997 dL_law_999 dL_law_1000 dL_law_1001 ?_
  refine VP.callVv [_, _] dL_law_1002 lk_L_114 rfl (Nat.le_of_ble_eq_true rfl) (Nat.le_of_ble_eq_true rfl) hm0 rfl (m_rests l 10 h n K b KI S m hm hT _ _) ?_
  refine VP.icmp_eq (tgt := 1644) dL_law_1005 (by decide) (fun _ => ?_) (fun q => absurd rfl q)
  exact kn K b KI S h n ⟨⟨⟨m, hT⟩, hI.2.1, hSI⟩, hc, hm, g, h93⟩ (Nat.le_refl _) (by omega)
set_option maxRecDepth 20000 in
set_option maxHeartbeats 4000000 in
theorem lc_22 {l : Launch} (X : PX l mL_law 14 QL) {L i : Nat} {xs : Nat → Int32} (sc : Sct X L xs) (hL : L ≤ 3072) (hi : i + 6 ≤ L) (K : KK) (b : Bool) (KI : KK) (S : SS) (h : MH) (n r : Nat) (hn9 : n + 1 < 1000000) (H : LI K b KI S h) (kn : NX X i n r) : VP X 1010 (lsL i) [] h n (r + 1) (6 * r + 6) := by
  obtain ⟨hI, hc, hm, g, h93⟩ := H
  obtain ⟨⟨m, hT⟩, -, hSI⟩ := id hI
  obtain ⟨th, po, ba, en, tt, hm0⟩ := hm.1
  refine VP.cz (c1 := r) (z1 := 6 * r) (by omega) (by omega) ?_
  refine VP.aload_n dL_law_1010 rfl ?_
  refine VP.la sc hL hi 1 (by omega) (by decide) rfl rfl dL_law_1011 dL_law_1012 dL_law_1014 dL_law_1015 dL_law_1016 ?_
  refine VP.la sc hL hi 2 (by omega) (by decide) rfl rfl dL_law_1017 dL_law_1018 dL_law_1020 dL_law_1021 dL_law_1022 ?_
  refine VP.callVv [_, _] dL_law_1023 lk_L_115 rfl (Nat.le_of_ble_eq_true rfl) (Nat.le_of_ble_eq_true rfl) hc.1 rfl (x_sure l 11 h n K b KI S m hc hT _ _) ?_
  refine VP.aload_n dL_law_1026 rfl ?_
  refine VP.la sc hL hi 1 (by omega) (by decide) rfl rfl dL_law_1027 dL_law_1028 dL_law_1030 dL_law_1031 dL_law_1032 ?_
  refine VP.la sc hL hi 2 (by omega) (by decide) rfl rfl dL_law_1033 dL_law_1034 dL_law_1036 dL_law_1037 dL_law_1038 ?_
  refine VP.callVv [_, _] dL_law_1039 lk_L_118 rfl (Nat.le_of_ble_eq_true rfl) (Nat.le_of_ble_eq_true rfl) hm0 rfl (m_sure l 10 h n K b KI S m hm hT _ _) ?_
  refine VP.icmp_eq (tgt := 1644) dL_law_1042 (by decide) (fun _ => ?_) (fun q => absurd rfl q)
  exact kn K b KI S h n ⟨⟨⟨m, hT⟩, hI.2.1, hSI⟩, hc, hm, g, h93⟩ (Nat.le_refl _) (by omega)
set_option maxRecDepth 20000 in
set_option maxHeartbeats 4000000 in
theorem lc_23 {l : Launch} (X : PX l mL_law 14 QL) {L i : Nat} {xs : Nat → Int32} (sc : Sct X L xs) (hL : L ≤ 3072) (hi : i + 6 ≤ L) (K : KK) (b : Bool) (KI : KK) (S : SS) (h : MH) (n r : Nat) (hn9 : n + 1 < 1000000) (H : LI K b KI S h) (kn : NX X i n r) : VP X 1047 (lsL i) [] h n (r + 1) (6 * r + 6) := by
  obtain ⟨hI, hc, hm, g, h93⟩ := H
  obtain ⟨⟨m, hT⟩, -, hSI⟩ := id hI
  obtain ⟨th, po, ba, en, tt, hm0⟩ := hm.1
  refine VP.cz (c1 := r) (z1 := 6 * r) (by omega) (by omega) ?_
  refine VP.aload_n dL_law_1047 rfl ?_
  refine VP.la sc hL hi 1 (by omega) (by decide) rfl rfl dL_law_1048 dL_law_1049 dL_law_1051 dL_law_1052 dL_law_1053 ?_
  refine VP.la sc hL hi 2 (by omega) (by decide) rfl rfl dL_law_1054 dL_law_1055 dL_law_1057 dL_law_1058 dL_law_1059 ?_
  refine VP.la sc hL hi 3 (by omega) (by decide) rfl rfl dL_law_1060 dL_law_1061 dL_law_1063 dL_law_1064 dL_law_1065 ?_
  refine VP.callVv [_, _, _] dL_law_1066 lk_L_119 rfl (Nat.le_of_ble_eq_true rfl) (Nat.le_of_ble_eq_true rfl) hc.1 rfl (x_guards l 10 h n K b KI S m hc hT _ _ _) ?_
  refine VP.aload_n dL_law_1069 rfl ?_
  refine VP.la sc hL hi 1 (by omega) (by decide) rfl rfl dL_law_1070 dL_law_1071 dL_law_1073 dL_law_1074 dL_law_1075 ?_
  refine VP.la sc hL hi 2 (by omega) (by decide) rfl rfl dL_law_1076 dL_law_1077 dL_law_1079 dL_law_1080 dL_law_1081 ?_
  refine VP.la sc hL hi 3 (by omega) (by decide) rfl rfl dL_law_1082 dL_law_1083 dL_law_1085 dL_law_1086 dL_law_1087 ?_
  refine VP.callVv [_, _, _] dL_law_1088 lk_L_122 rfl (Nat.le_of_ble_eq_true rfl) (Nat.le_of_ble_eq_true rfl) hm0 rfl (m_guards l 11 h n K b KI S m hm hT _ _ _) ?_
  refine VP.icmp_eq (tgt := 1644) dL_law_1091 (by decide) (fun _ => ?_) (fun q => absurd rfl q)
  exact kn K b KI S h n ⟨⟨⟨m, hT⟩, hI.2.1, hSI⟩, hc, hm, g, h93⟩ (Nat.le_refl _) (by omega)
set_option maxRecDepth 20000 in
set_option maxHeartbeats 4000000 in
theorem lc_24 {l : Launch} (X : PX l mL_law 14 QL) {L i : Nat} {xs : Nat → Int32} (sc : Sct X L xs) (hL : L ≤ 3072) (hi : i + 6 ≤ L) (K : KK) (b : Bool) (KI : KK) (S : SS) (h : MH) (n r : Nat) (hn9 : n + 1 < 1000000) (H : LI K b KI S h) (kn : NX X i n r) : VP X 1096 (lsL i) [] h n (r + 1) (6 * r + 6) := by
  obtain ⟨hI, hc, hm, g, h93⟩ := H
  obtain ⟨⟨m, hT⟩, -, hSI⟩ := id hI
  obtain ⟨th, po, ba, en, tt, hm0⟩ := hm.1
  refine VP.cz (c1 := r) (z1 := 6 * r) (by omega) (by omega) ?_
  refine VP.aload_n dL_law_1096 rfl ?_
  refine VP.la sc hL hi 1 (by omega) (by decide) rfl rfl dL_law_1097 dL_law_1098 dL_law_1100 dL_law_1101 dL_law_1102 ?_
  refine VP.la sc hL hi 2 (by omega) (by decide) rfl rfl dL_law_1103 dL_law_1104 dL_law_1106 dL_law_1107 dL_law_1108 ?_
  refine VP.la sc hL hi 3 (by omega) (by decide) rfl rfl dL_law_1109 dL_law_1110 dL_law_1112 dL_law_1113 dL_law_1114 ?_
  refine VP.la sc hL hi 4 (by omega) (by decide) rfl rfl dL_law_1115 dL_law_1116 dL_law_1118 dL_law_1119 dL_law_1120 ?_
  refine VP.callV (c := r) (z := 6 * r) (c1 := 0) (z1 := 0) [_, _, _, _] dL_law_1121 lk_L_123 rfl (Nat.le_of_ble_eq_true rfl) (Nat.le_of_ble_eq_true rfl) hc.1 rfl (x_wayIn l 9 h n K b KI S m hc hT _ _ _ _) (fun r1 h1 n1 q => ?_)
  obtain ⟨rfl, e9, hc1, ho1⟩ := q
  rw [e9]
  have hm1 := hm.far (fun q a1 a2 => ho1 q a1)
  refine VP.aload_n dL_law_1124 rfl ?_
  refine VP.la sc hL hi 1 (by omega) (by decide) rfl rfl dL_law_1125 dL_law_1126 dL_law_1128 dL_law_1129 dL_law_1130 ?_
  refine VP.la sc hL hi 2 (by omega) (by decide) rfl rfl dL_law_1131 dL_law_1132 dL_law_1134 dL_law_1135 dL_law_1136 ?_
  refine VP.la sc hL hi 3 (by omega) (by decide) rfl rfl dL_law_1137 dL_law_1138 dL_law_1140 dL_law_1141 dL_law_1142 ?_
  refine VP.la sc hL hi 4 (by omega) (by decide) rfl rfl dL_law_1143 dL_law_1144 dL_law_1146 dL_law_1147 dL_law_1148 ?_
  refine VP.callV (c := r) (z := 6 * r) (c1 := 0) (z1 := 0) [_, _, _, _] dL_law_1149 lk_L_126 rfl (Nat.le_of_ble_eq_true rfl) (Nat.le_of_ble_eq_true rfl) ((ho1 78 (by omega)).trans hm0) rfl (m_wayIn l 9 h1 n K b KI S m hm1 hT _ _ _ _) (fun r2 h2 n2 q => ?_)
  obtain ⟨rfl, e8, hm2, ho2⟩ := q
  rw [e8]
  refine VP.icmp_eq (tgt := 1644) dL_law_1152 (by decide) (fun _ => ?_) (fun q => absurd rfl q)
  exact kn _ _ _ _ h2 n ⟨⟨⟨m, hT⟩, hI.2.1, hSI⟩, hc1.far (fun q hq => ho2 q (Or.inl hq)), hm2, g, by rw [ho2 93 (by omega), ho1 93 (by omega)]; exact h93⟩ (Nat.le_refl _) (by omega)
set_option maxRecDepth 20000 in
set_option maxHeartbeats 4000000 in
theorem lc_25 {l : Launch} (X : PX l mL_law 14 QL) {L i : Nat} {xs : Nat → Int32} (sc : Sct X L xs) (hL : L ≤ 3072) (hi : i + 6 ≤ L) (K : KK) (b : Bool) (KI : KK) (S : SS) (h : MH) (n r : Nat) (hn9 : n + 1 < 1000000) (H : LI K b KI S h) (kn : NX X i n r) : VP X 1157 (lsL i) [] h n (r + 1) (6 * r + 6) := by
  obtain ⟨hI, hc, hm, g, h93⟩ := H
  obtain ⟨⟨m, hT⟩, -, hSI⟩ := id hI
  obtain ⟨th, po, ba, en, tt, hm0⟩ := hm.1
  refine VP.cz (c1 := r) (z1 := 6 * r) (by omega) (by omega) ?_
  refine VP.aload_n dL_law_1157 rfl ?_
  refine VP.la sc hL hi 1 (by omega) (by decide) rfl rfl dL_law_1158 dL_law_1159 dL_law_1161 dL_law_1162 dL_law_1163 ?_
  refine VP.la sc hL hi 2 (by omega) (by decide) rfl rfl dL_law_1164 dL_law_1165 dL_law_1167 dL_law_1168 dL_law_1169 ?_
  refine VP.callV (c := r) (z := 6 * r) (c1 := 0) (z1 := 0) [_, _] dL_law_1170 lk_L_127 rfl (Nat.le_of_ble_eq_true rfl) (Nat.le_of_ble_eq_true rfl) hc.1 rfl (x_mayBe l 10 h n K b KI S m hc hT _ _) (fun r1 h1 n1 q => ?_)
  obtain ⟨rfl, e9, hc1, ho1⟩ := q
  rw [e9]
  have hm1 := hm.far (fun q a1 a2 => ho1 q a1)
  refine VP.aload_n dL_law_1173 rfl ?_
  refine VP.la sc hL hi 1 (by omega) (by decide) rfl rfl dL_law_1174 dL_law_1175 dL_law_1177 dL_law_1178 dL_law_1179 ?_
  refine VP.la sc hL hi 2 (by omega) (by decide) rfl rfl dL_law_1180 dL_law_1181 dL_law_1183 dL_law_1184 dL_law_1185 ?_
  refine VP.callV (c := r) (z := 6 * r) (c1 := 0) (z1 := 0) [_, _] dL_law_1186 lk_L_130 rfl (Nat.le_of_ble_eq_true rfl) (Nat.le_of_ble_eq_true rfl) ((ho1 78 (by omega)).trans hm0) rfl (m_mayBe l 11 h1 n K b KI S m hm1 hT _ _) (fun r2 h2 n2 q => ?_)
  obtain ⟨rfl, e8, hm2, ho2⟩ := q
  rw [e8]
  refine VP.icmp_eq (tgt := 1644) dL_law_1189 (by decide) (fun _ => ?_) (fun q => absurd rfl q)
  exact kn _ _ _ _ h2 n ⟨⟨⟨m, hT⟩, hI.2.1, hSI⟩, hc1.far (fun q hq => ho2 q (Or.inl hq)), hm2, g, by rw [ho2 93 (by omega), ho1 93 (by omega)]; exact h93⟩ (Nat.le_refl _) (by omega)
set_option maxRecDepth 20000 in
set_option maxHeartbeats 4000000 in
theorem lc_26 {l : Launch} (X : PX l mL_law 14 QL) {L i : Nat} {xs : Nat → Int32} (sc : Sct X L xs) (hL : L ≤ 3072) (hi : i + 6 ≤ L) (K : KK) (b : Bool) (KI : KK) (S : SS) (h : MH) (n r : Nat) (hn9 : n + 1 < 1000000) (H : LI K b KI S h) (kn : NX X i n r) : VP X 1194 (lsL i) [] h n (r + 1) (6 * r + 6) := by
  obtain ⟨hI, hc, hm, g, h93⟩ := H
  obtain ⟨⟨m, hT⟩, -, hSI⟩ := id hI
  obtain ⟨th, po, ba, en, tt, hm0⟩ := hm.1
  refine VP.cz (c1 := r) (z1 := 6 * r) (by omega) (by omega) ?_
  refine VP.aload_n dL_law_1194 rfl ?_
  refine VP.la sc hL hi 1 (by omega) (by decide) rfl rfl dL_law_1195 dL_law_1196 dL_law_1198 dL_law_1199 dL_law_1200 ?_
  refine VP.callVv [_] dL_law_1201 lk_L_131 rfl (Nat.le_of_ble_eq_true rfl) (Nat.le_of_ble_eq_true rfl) hc.1 rfl (x_worth l 11 h n K b KI S m hc hT _) ?_
  refine VP.aload_n dL_law_1204 rfl ?_
  refine VP.la sc hL hi 1 (by omega) (by decide) rfl rfl dL_law_1205 dL_law_1206 dL_law_1208 dL_law_1209 dL_law_1210 ?_
  refine VP.callVv [_] dL_law_1211 lk_L_134 rfl (Nat.le_of_ble_eq_true rfl) (Nat.le_of_ble_eq_true rfl) hm0 rfl (m_worth l 11 h n K b KI S m hm hT _) ?_
  refine VP.icmp_eq (tgt := 1644) dL_law_1214 (by decide) (fun _ => ?_) (fun q => absurd rfl q)
  exact kn K b KI S h n ⟨⟨⟨m, hT⟩, hI.2.1, hSI⟩, hc, hm, g, h93⟩ (Nat.le_refl _) (by omega)
set_option maxRecDepth 20000 in
set_option maxHeartbeats 4000000 in
theorem lc_27 {l : Launch} (X : PX l mL_law 14 QL) {L i : Nat} {xs : Nat → Int32} (sc : Sct X L xs) (hL : L ≤ 3072) (hi : i + 6 ≤ L) (K : KK) (b : Bool) (KI : KK) (S : SS) (h : MH) (n r : Nat) (hn9 : n + 1 < 1000000) (H : LI K b KI S h) (kn : NX X i n r) : VP X 1219 (lsL i) [] h n (r + 1) (6 * r + 6) := by
  obtain ⟨hI, hc, hm, g, h93⟩ := H
  obtain ⟨⟨m, hT⟩, -, hSI⟩ := id hI
  obtain ⟨th, po, ba, en, tt, hm0⟩ := hm.1
  refine VP.cz (c1 := r) (z1 := 6 * r) (by omega) (by omega) ?_
  refine VP.aload_n dL_law_1219 rfl ?_
  refine VP.la sc hL hi 1 (by omega) (by decide) rfl rfl dL_law_1220 dL_law_1221 dL_law_1223 dL_law_1224 dL_law_1225 ?_
  refine VP.callVv [_] dL_law_1226 lk_L_135 rfl (Nat.le_of_ble_eq_true rfl) (Nat.le_of_ble_eq_true rfl) hc.1 rfl (x_believed l 8 h n K b KI S m hc hT _) ?_
  refine VP.aload_n dL_law_1229 rfl ?_
  refine VP.la sc hL hi 1 (by omega) (by decide) rfl rfl dL_law_1230 dL_law_1231 dL_law_1233 dL_law_1234 dL_law_1235 ?_
  refine VP.callVv [_] dL_law_1236 lk_L_138 rfl (Nat.le_of_ble_eq_true rfl) (Nat.le_of_ble_eq_true rfl) hm0 rfl (m_believed l 9 h n K b KI S m hm hT (hc.hh hT) _) ?_
  refine VP.icmp_eq (tgt := 1644) dL_law_1239 (by decide) (fun _ => ?_) (fun q => absurd rfl q)
  exact kn K b KI S h n ⟨⟨⟨m, hT⟩, hI.2.1, hSI⟩, hc, hm, g, h93⟩ (Nat.le_refl _) (by omega)
set_option maxRecDepth 20000 in
set_option maxHeartbeats 4000000 in
theorem lc_28 {l : Launch} (X : PX l mL_law 14 QL) {L i : Nat} {xs : Nat → Int32} (sc : Sct X L xs) (hL : L ≤ 3072) (hi : i + 6 ≤ L) (K : KK) (b : Bool) (KI : KK) (S : SS) (h : MH) (n r : Nat) (hn9 : n + 1 < 1000000) (H : LI K b KI S h) (kn : NX X i n r) : VP X 1244 (lsL i) [] h n (r + 1) (6 * r + 6) := by
  obtain ⟨hI, hc, hm, g, h93⟩ := H
  obtain ⟨⟨m, hT⟩, -, hSI⟩ := id hI
  obtain ⟨th, po, ba, en, tt, hm0⟩ := hm.1
  refine VP.cz (c1 := r) (z1 := 6 * r) (by omega) (by omega) ?_
  refine VP.aload_n dL_law_1244 rfl ?_
  refine VP.callV (c := r) (z := 6 * r) (c1 := 0) (z1 := 0) [] dL_law_1245 lk_L_139 rfl (Nat.le_of_ble_eq_true rfl) (Nat.le_of_ble_eq_true rfl) hc.1 rfl (x_image l 11 h n K b KI S m hc hT) (fun r1 h1 n1 q => ?_)
  obtain ⟨rfl, e9, hc1, ho1⟩ := q
  rw [e9]
  have hm1 := hm.far (fun q a1 a2 => ho1 q a1)
  refine VP.aload_n dL_law_1248 rfl ?_
  refine VP.callV (c := r) (z := 6 * r) (c1 := 0) (z1 := 0) [] dL_law_1249 lk_L_142 rfl (Nat.le_of_ble_eq_true rfl) (Nat.le_of_ble_eq_true rfl) ((ho1 78 (by omega)).trans hm0) rfl (m_image l 13 h1 n K b KI S m hm1 hT) (fun r2 h2 n2 q => ?_)
  obtain ⟨rfl, e8, hm2, ho2⟩ := q
  rw [e8]
  refine VP.icmp_eq (tgt := 1644) dL_law_1252 (by decide) (fun _ => ?_) (fun q => absurd rfl q)
  exact kn _ _ _ _ h2 n ⟨⟨⟨m, hT⟩, fun _ => ⟨m, hT⟩, hSI⟩, hc1.far (fun q hq => ho2 q (Or.inl hq)), hm2, g, by rw [ho2 93 (by omega), ho1 93 (by omega)]; exact h93⟩ (Nat.le_refl _) (by omega)
set_option maxRecDepth 20000 in
set_option maxHeartbeats 4000000 in
theorem lc_29 {l : Launch} (X : PX l mL_law 14 QL) {L i : Nat} {xs : Nat → Int32} (sc : Sct X L xs) (hL : L ≤ 3072) (hi : i + 6 ≤ L) (K : KK) (b : Bool) (KI : KK) (S : SS) (h : MH) (n r : Nat) (hn9 : n + 1 < 1000000) (H : LI K b KI S h) (kn : NX X i n r) : VP X 1257 (lsL i) [] h n (r + 1) (6 * r + 6) := by
  obtain ⟨hI, hc, hm, g, h93⟩ := H
  obtain ⟨⟨m, hT⟩, -, hSI⟩ := id hI
  obtain ⟨th, po, ba, en, tt, hm0⟩ := hm.1
  refine VP.cz (c1 := r) (z1 := 6 * r) (by omega) (by omega) ?_
  refine VP.aload_n dL_law_1257 rfl ?_
  refine VP.callV (c := r) (z := 6 * r) (c1 := 0) (z1 := 0) [] dL_law_1258 lk_L_143 rfl (Nat.le_of_ble_eq_true rfl) (Nat.le_of_ble_eq_true rfl) hc.1 rfl (x_restore l 11 h n K b KI S m hc hT) (fun r1 h1 n1 q => ?_)
  obtain ⟨rfl, e9, hc1, ho1⟩ := q
  rw [e9]
  have hm1 := hm.far (fun q a1 a2 => ho1 q a1)
  refine VP.aload_n dL_law_1261 rfl ?_
  refine VP.callV (c := r) (z := 6 * r) (c1 := 0) (z1 := 0) [] dL_law_1262 lk_L_146 rfl (Nat.le_of_ble_eq_true rfl) (Nat.le_of_ble_eq_true rfl) ((ho1 78 (by omega)).trans hm0) rfl (m_restore l 13 h1 n K b KI S m hm1 hT) (fun r2 h2 n2 q => ?_)
  obtain ⟨rfl, e8, hm2, ho2⟩ := q
  rw [e8]
  refine VP.icmp_eq (tgt := 1644) dL_law_1265 (by decide) (fun _ => ?_) (fun q => absurd rfl q)
  exact kn _ _ _ _ h2 n ⟨(INV_re hI), hc1.far (fun q hq => ho2 q (Or.inl hq)), hm2, g, by rw [ho2 93 (by omega), ho1 93 (by omega)]; exact h93⟩ (Nat.le_refl _) (by omega)
set_option maxRecDepth 20000 in
set_option maxHeartbeats 4000000 in
theorem lc_30 {l : Launch} (X : PX l mL_law 14 QL) {L i : Nat} {xs : Nat → Int32} (sc : Sct X L xs) (hL : L ≤ 3072) (hi : i + 6 ≤ L) (K : KK) (b : Bool) (KI : KK) (S : SS) (h : MH) (n r : Nat) (hn9 : n + 1 < 1000000) (H : LI K b KI S h) (kn : NX X i n r) : VP X 1270 (lsL i) [] h n (r + 1) (6 * r + 6) := by
  obtain ⟨hI, hc, hm, g, h93⟩ := H
  obtain ⟨⟨m, hT⟩, -, hSI⟩ := id hI
  obtain ⟨th, po, ba, en, tt, hm0⟩ := hm.1
  refine VP.cz (c1 := r) (z1 := 6 * r) (by omega) (by omega) ?_
  refine VP.aload_n dL_law_1270 rfl ?_
  refine VP.la sc hL hi 1 (by omega) (by decide) rfl rfl dL_law_1271 dL_law_1272 dL_law_1274 dL_law_1275 dL_law_1276 ?_
  refine VP.callVv [_] dL_law_1277 lk_L_147 rfl (Nat.le_of_ble_eq_true rfl) (Nat.le_of_ble_eq_true rfl) hc.1 rfl (x_count l 12 h n K b KI S m hc hT _) ?_
  refine VP.aload_n dL_law_1280 rfl ?_
  refine VP.la sc hL hi 1 (by omega) (by decide) rfl rfl dL_law_1281 dL_law_1282 dL_law_1284 dL_law_1285 dL_law_1286 ?_
  refine VP.callVv [_] dL_law_1287 lk_L_150 rfl (Nat.le_of_ble_eq_true rfl) (Nat.le_of_ble_eq_true rfl) hm0 rfl (m_count l 12 h n K b KI S m hm hT _) ?_
  refine VP.icmp_eq (tgt := 1644) dL_law_1290 (by decide) (fun _ => ?_) (fun q => absurd rfl q)
  exact kn K b KI S h n ⟨⟨⟨m, hT⟩, hI.2.1, hSI⟩, hc, hm, g, h93⟩ (Nat.le_refl _) (by omega)
set_option maxRecDepth 20000 in
set_option maxHeartbeats 4000000 in
theorem lc_31 {l : Launch} (X : PX l mL_law 14 QL) {L i : Nat} {xs : Nat → Int32} (sc : Sct X L xs) (hL : L ≤ 3072) (hi : i + 6 ≤ L) (K : KK) (b : Bool) (KI : KK) (S : SS) (h : MH) (n r : Nat) (hn9 : n + 1 < 1000000) (H : LI K b KI S h) (kn : NX X i n r) : VP X 1295 (lsL i) [] h n (r + 1) (6 * r + 6) := by
  obtain ⟨hI, hc, hm, g, h93⟩ := H
  obtain ⟨⟨m, hT⟩, -, hSI⟩ := id hI
  obtain ⟨th, po, ba, en, tt, hm0⟩ := hm.1
  refine VP.cz (c1 := r) (z1 := 6 * r) (by omega) (by omega) ?_
  refine VP.aload_n dL_law_1295 rfl ?_
  refine VP.la sc hL hi 1 (by omega) (by decide) rfl rfl dL_law_1296 dL_law_1297 dL_law_1299 dL_law_1300 dL_law_1301 ?_
  refine VP.la sc hL hi 2 (by omega) (by decide) rfl rfl dL_law_1302 dL_law_1303 dL_law_1305 dL_law_1306 dL_law_1307 ?_
  refine VP.la sc hL hi 3 (by omega) (by decide) rfl rfl dL_law_1308 dL_law_1309 dL_law_1311 dL_law_1312 dL_law_1313 ?_
  refine VP.la sc hL hi 4 (by omega) (by decide) rfl rfl dL_law_1314 dL_law_1315 dL_law_1317 dL_law_1318 dL_law_1319 ?_
  refine VP.callV (c := r) (z := 6 * r) (c1 := 0) (z1 := 0) [_, _, _, _] dL_law_1320 lk_L_151 rfl (Nat.le_of_ble_eq_true rfl) (Nat.le_of_ble_eq_true rfl) hc.1 rfl (x_keep l 11 h n K b KI S m hc hT _ _ _ _) (fun r1 h1 n1 q => ?_)
  obtain ⟨rfl, e9, hc1, ho1⟩ := q
  rw [e9]
  have hm1 := hm.far (fun q a1 a2 => ho1 q a1)
  refine VP.aload_n dL_law_1323 rfl ?_
  refine VP.la sc hL hi 1 (by omega) (by decide) rfl rfl dL_law_1324 dL_law_1325 dL_law_1327 dL_law_1328 dL_law_1329 ?_
  refine VP.la sc hL hi 2 (by omega) (by decide) rfl rfl dL_law_1330 dL_law_1331 dL_law_1333 dL_law_1334 dL_law_1335 ?_
  refine VP.la sc hL hi 3 (by omega) (by decide) rfl rfl dL_law_1336 dL_law_1337 dL_law_1339 dL_law_1340 dL_law_1341 ?_
  refine VP.la sc hL hi 4 (by omega) (by decide) rfl rfl dL_law_1342 dL_law_1343 dL_law_1345 dL_law_1346 dL_law_1347 ?_
  refine VP.callV (c := r) (z := 6 * r) (c1 := 0) (z1 := 0) [_, _, _, _] dL_law_1348 lk_L_154 rfl (Nat.le_of_ble_eq_true rfl) (Nat.le_of_ble_eq_true rfl) ((ho1 78 (by omega)).trans hm0) rfl (m_keep l 11 h1 n K b KI S m hm1 hT _ _ _ _) (fun r2 h2 n2 q => ?_)
  obtain ⟨rfl, e8, hm2, ho2⟩ := q
  rw [e8]
  refine VP.icmp_eq (tgt := 1644) dL_law_1351 (by decide) (fun _ => ?_) (fun q => absurd rfl q)
  exact kn _ _ _ _ h2 n ⟨⟨⟨m, hT⟩, hI.2.1, SI_keep hSI _ _ _ _⟩, hc1.far (fun q hq => ho2 q (Or.inl hq)), hm2, g, by rw [ho2 93 (by omega), ho1 93 (by omega)]; exact h93⟩ (Nat.le_refl _) (by omega)
set_option maxRecDepth 20000 in
set_option maxHeartbeats 4000000 in
theorem lc_32 {l : Launch} (X : PX l mL_law 14 QL) {L i : Nat} {xs : Nat → Int32} (sc : Sct X L xs) (hL : L ≤ 3072) (hi : i + 6 ≤ L) (K : KK) (b : Bool) (KI : KK) (S : SS) (h : MH) (n r : Nat) (hn9 : n + 1 < 1000000) (H : LI K b KI S h) (kn : NX X i n r) : VP X 1356 (lsL i) [] h n (r + 1) (6 * r + 6) := by
  obtain ⟨hI, hc, hm, g, h93⟩ := H
  obtain ⟨⟨m, hT⟩, -, hSI⟩ := id hI
  obtain ⟨th, po, ba, en, tt, hm0⟩ := hm.1
  refine VP.cz (c1 := r) (z1 := 6 * r) (by omega) (by omega) ?_
  refine VP.aload_n dL_law_1356 rfl ?_
  refine VP.la sc hL hi 1 (by omega) (by decide) rfl rfl dL_law_1357 dL_law_1358 dL_law_1360 dL_law_1361 dL_law_1362 ?_
  refine VP.la sc hL hi 2 (by omega) (by decide) rfl rfl dL_law_1363 dL_law_1364 dL_law_1366 dL_law_1367 dL_law_1368 ?_
  refine VP.la sc hL hi 3 (by omega) (by decide) rfl rfl dL_law_1369 dL_law_1370 dL_law_1372 dL_law_1373 dL_law_1374 ?_
  refine VP.callV (c := r) (z := 6 * r) (c1 := 0) (z1 := 0) [_, _, _] dL_law_1375 lk_L_155 rfl (Nat.le_of_ble_eq_true rfl) (Nat.le_of_ble_eq_true rfl) hc.1 rfl (x_row l 11 h n K b KI S m hc hT _ _ _) (fun r1 h1 n1 q => ?_)
  obtain ⟨rfl, e9, hc1, ho1⟩ := q
  rw [e9]
  have hm1 := hm.far (fun q a1 a2 => ho1 q a1)
  refine VP.aload_n dL_law_1378 rfl ?_
  refine VP.la sc hL hi 1 (by omega) (by decide) rfl rfl dL_law_1379 dL_law_1380 dL_law_1382 dL_law_1383 dL_law_1384 ?_
  refine VP.la sc hL hi 2 (by omega) (by decide) rfl rfl dL_law_1385 dL_law_1386 dL_law_1388 dL_law_1389 dL_law_1390 ?_
  refine VP.la sc hL hi 3 (by omega) (by decide) rfl rfl dL_law_1391 dL_law_1392 dL_law_1394 dL_law_1395 dL_law_1396 ?_
  refine VP.callV (c := r) (z := 6 * r) (c1 := 0) (z1 := 0) [_, _, _] dL_law_1397 lk_L_158 rfl (Nat.le_of_ble_eq_true rfl) (Nat.le_of_ble_eq_true rfl) ((ho1 78 (by omega)).trans hm0) rfl (m_row l 11 h1 n K b KI S m hm1 hT _ _ _) (fun r2 h2 n2 q => ?_)
  obtain ⟨rfl, e8, hm2, ho2⟩ := q
  rw [e8]
  refine VP.icmp_eq (tgt := 1644) dL_law_1400 (by decide) (fun _ => ?_) (fun q => absurd rfl q)
  exact kn _ _ _ _ h2 n ⟨⟨⟨m, hT⟩, hI.2.1, SI_row hSI _ _ _⟩, hc1.far (fun q hq => ho2 q (Or.inl hq)), hm2, g, by rw [ho2 93 (by omega), ho1 93 (by omega)]; exact h93⟩ (Nat.le_refl _) (by omega)
set_option maxRecDepth 20000 in
set_option maxHeartbeats 4000000 in
theorem lc_33 {l : Launch} (X : PX l mL_law 14 QL) {L i : Nat} {xs : Nat → Int32} (sc : Sct X L xs) (hL : L ≤ 3072) (hi : i + 6 ≤ L) (K : KK) (b : Bool) (KI : KK) (S : SS) (h : MH) (n r : Nat) (hn9 : n + 1 < 1000000) (H : LI K b KI S h) (kn : NX X i n r) : VP X 1405 (lsL i) [] h n (r + 1) (6 * r + 6) := by
  obtain ⟨hI, hc, hm, g, h93⟩ := H
  obtain ⟨⟨m, hT⟩, -, hSI⟩ := id hI
  obtain ⟨th, po, ba, en, tt, hm0⟩ := hm.1
  refine VP.cz (c1 := r) (z1 := 6 * r) (by omega) (by omega) ?_
  refine VP.aload_n dL_law_1405 rfl ?_
  refine VP.la sc hL hi 1 (by omega) (by decide) rfl rfl dL_law_1406 dL_law_1407 dL_law_1409 dL_law_1410 dL_law_1411 ?_
  refine VP.la sc hL hi 2 (by omega) (by decide) rfl rfl dL_law_1412 dL_law_1413 dL_law_1415 dL_law_1416 dL_law_1417 ?_
  refine VP.la sc hL hi 3 (by omega) (by decide) rfl rfl dL_law_1418 dL_law_1419 dL_law_1421 dL_law_1422 dL_law_1423 ?_
  refine VP.callV (c := r) (z := 6 * r) (c1 := 0) (z1 := 0) [_, _, _] dL_law_1424 lk_L_159 rfl (Nat.le_of_ble_eq_true rfl) (Nat.le_of_ble_eq_true rfl) hc.1 rfl (x_put l 10 h n K b KI S m hc hT hSI _ _ _) (fun r1 h1 n1 q => ?_)
  obtain ⟨rfl, e9, hc1, ho1⟩ := q
  rw [e9]
  have hm1 := hm.far (fun q a1 a2 => ho1 q a1)
  refine VP.aload_n dL_law_1427 rfl ?_
  refine VP.la sc hL hi 1 (by omega) (by decide) rfl rfl dL_law_1428 dL_law_1429 dL_law_1431 dL_law_1432 dL_law_1433 ?_
  refine VP.la sc hL hi 2 (by omega) (by decide) rfl rfl dL_law_1434 dL_law_1435 dL_law_1437 dL_law_1438 dL_law_1439 ?_
  refine VP.la sc hL hi 3 (by omega) (by decide) rfl rfl dL_law_1440 dL_law_1441 dL_law_1443 dL_law_1444 dL_law_1445 ?_
  refine VP.callV (c := r) (z := 6 * r) (c1 := 0) (z1 := 0) [_, _, _] dL_law_1446 lk_L_162 rfl (Nat.le_of_ble_eq_true rfl) (Nat.le_of_ble_eq_true rfl) ((ho1 78 (by omega)).trans hm0) rfl (m_put l 10 h1 n K b KI S m hm1 hT hSI _ _ _) (fun r2 h2 n2 q => ?_)
  obtain ⟨rfl, e8, hm2, ho2⟩ := q
  rw [e8]
  refine VP.icmp_eq (tgt := 1644) dL_law_1449 (by decide) (fun _ => ?_) (fun q => absurd rfl q)
  exact kn _ _ _ _ h2 n ⟨⟨⟨m, hT⟩, hI.2.1, SI_put hSI _ _ _⟩, hc1.far (fun q hq => ho2 q (Or.inl hq)), hm2, g, by rw [ho2 93 (by omega), ho1 93 (by omega)]; exact h93⟩ (Nat.le_refl _) (by omega)
set_option maxRecDepth 20000 in
set_option maxHeartbeats 4000000 in
theorem lc_35 {l : Launch} (X : PX l mL_law 14 QL) {L i : Nat} {xs : Nat → Int32} (sc : Sct X L xs) (hL : L ≤ 3072) (hi : i + 6 ≤ L) (K : KK) (b : Bool) (KI : KK) (S : SS) (h : MH) (n r : Nat) (hn9 : n + 1 < 1000000) (H : LI K b KI S h) (kn : NX X i n r) : VP X 1521 (lsL i) [] h n (r + 1) (6 * r + 6) := by
  obtain ⟨hI, hc, hm, g, h93⟩ := H
  obtain ⟨⟨m, hT⟩, -, hSI⟩ := id hI
  obtain ⟨th, po, ba, en, tt, hm0⟩ := hm.1
  refine VP.cz (c1 := r) (z1 := 6 * r) (by omega) (by omega) ?_
  refine VP.aload_n dL_law_1521 rfl ?_
  refine VP.la sc hL hi 1 (by omega) (by decide) rfl rfl dL_law_1522 dL_law_1523 dL_law_1525 dL_law_1526 dL_law_1527 ?_
  refine VP.la sc hL hi 2 (by omega) (by decide) rfl rfl dL_law_1528 dL_law_1529 dL_law_1531 dL_law_1532 dL_law_1533 ?_
  refine VP.la sc hL hi 3 (by omega) (by decide) rfl rfl dL_law_1534 dL_law_1535 dL_law_1537 dL_law_1538 dL_law_1539 ?_
  refine VP.la sc hL hi 4 (by omega) (by decide) rfl rfl dL_law_1540 dL_law_1541 dL_law_1543 dL_law_1544 dL_law_1545 ?_
  refine VP.la sc hL hi 5 (by omega) (by decide) rfl rfl dL_law_1546 dL_law_1547 dL_law_1549 dL_law_1550 dL_law_1551 ?_
  refine VP.callV (c := r) (z := 6 * r) (c1 := 0) (z1 := 0) [_, _, _, _, _] dL_law_1552 lk_L_172 rfl (Nat.le_of_ble_eq_true rfl) (Nat.le_of_ble_eq_true rfl) hc.1 rfl (x_copy l 11 h n K b KI S m hc hT hSI _ _ _ _ _) (fun r1 h1 n1 q => ?_)
  obtain ⟨rfl, e9, hc1, ho1⟩ := q
  rw [e9]
  have hm1 := hm.far (fun q a1 a2 => ho1 q a1)
  refine VP.aload_n dL_law_1555 rfl ?_
  refine VP.la sc hL hi 1 (by omega) (by decide) rfl rfl dL_law_1556 dL_law_1557 dL_law_1559 dL_law_1560 dL_law_1561 ?_
  refine VP.la sc hL hi 2 (by omega) (by decide) rfl rfl dL_law_1562 dL_law_1563 dL_law_1565 dL_law_1566 dL_law_1567 ?_
  refine VP.la sc hL hi 3 (by omega) (by decide) rfl rfl dL_law_1568 dL_law_1569 dL_law_1571 dL_law_1572 dL_law_1573 ?_
  refine VP.la sc hL hi 4 (by omega) (by decide) rfl rfl dL_law_1574 dL_law_1575 dL_law_1577 dL_law_1578 dL_law_1579 ?_
  refine VP.la sc hL hi 5 (by omega) (by decide) rfl rfl dL_law_1580 dL_law_1581 dL_law_1583 dL_law_1584 dL_law_1585 ?_
  refine VP.callV (c := r) (z := 6 * r) (c1 := 0) (z1 := 0) [_, _, _, _, _] dL_law_1586 lk_L_175 rfl (Nat.le_of_ble_eq_true rfl) (Nat.le_of_ble_eq_true rfl) ((ho1 78 (by omega)).trans hm0) rfl (m_copy l 11 h1 n K b KI S m hm1 hT hSI _ _ _ _ _) (fun r2 h2 n2 q => ?_)
  obtain ⟨rfl, e8, hm2, ho2⟩ := q
  rw [e8]
  refine VP.icmp_eq (tgt := 1644) dL_law_1589 (by decide) (fun _ => ?_) (fun q => absurd rfl q)
  exact kn _ _ _ _ h2 n ⟨⟨⟨m, hT⟩, hI.2.1, SI_copy hSI _ _ _ _ _⟩, hc1.far (fun q hq => ho2 q (Or.inl hq)), hm2, g, by rw [ho2 93 (by omega), ho1 93 (by omega)]; exact h93⟩ (Nat.le_refl _) (by omega)
set_option maxRecDepth 20000 in
set_option maxHeartbeats 4000000 in
theorem lc_36 {l : Launch} (X : PX l mL_law 14 QL) {L i : Nat} {xs : Nat → Int32} (sc : Sct X L xs) (hL : L ≤ 3072) (hi : i + 6 ≤ L) (K : KK) (b : Bool) (KI : KK) (S : SS) (h : MH) (n r : Nat) (hn9 : n + 1 < 1000000) (H : LI K b KI S h) (kn : NX X i n r) : VP X 1594 (lsL i) [] h n (r + 1) (6 * r + 6) := by
  obtain ⟨hI, hc, hm, g, h93⟩ := H
  obtain ⟨⟨m, hT⟩, -, hSI⟩ := id hI
  obtain ⟨th, po, ba, en, tt, hm0⟩ := hm.1
  refine VP.cz (c1 := r) (z1 := 6 * r) (by omega) (by omega) ?_
  refine VP.aload_n dL_law_1594 rfl ?_
  refine VP.la sc hL hi 1 (by omega) (by decide) rfl rfl dL_law_1595 dL_law_1596 dL_law_1598 dL_law_1599 dL_law_1600 ?_
  refine VP.callVv [_] dL_law_1601 lk_L_176 rfl (Nat.le_of_ble_eq_true rfl) (Nat.le_of_ble_eq_true rfl) hc.1 rfl (x_counts l 10 h n K b KI S m hc hT _) ?_
  refine VP.aload_n dL_law_1604 rfl ?_
  refine VP.la sc hL hi 1 (by omega) (by decide) rfl rfl dL_law_1605 dL_law_1606 dL_law_1608 dL_law_1609 dL_law_1610 ?_
  refine VP.callVv [_] dL_law_1611 lk_L_179 rfl (Nat.le_of_ble_eq_true rfl) (Nat.le_of_ble_eq_true rfl) hm0 rfl (m_counts l 10 h n K b KI S m hm hT _) ?_
  refine VP.icmp_eq (tgt := 1644) dL_law_1614 (by decide) (fun _ => ?_) (fun q => absurd rfl q)
  exact kn K b KI S h n ⟨⟨⟨m, hT⟩, hI.2.1, hSI⟩, hc, hm, g, h93⟩ (Nat.le_refl _) (by omega)
theorem tw_1 : Cond.methodLink RL 180 mX5_toss.1 ∈ WG := inW 843 (by decide +kernel) rfl
theorem tw_2 : Cond.instanceMethod mX5_toss.1 ∈ WG := inW 844 (by decide +kernel) rfl
theorem tw_3 : Cond.selects mX5_toss.1.cls mX5_toss.1 mX5_toss.1 ∈ WG := inW 845 (by decide +kernel) rfl
theorem tw_4 : Cond.codeWith mX5_toss.1 mX5_toss.2.1 mX5_toss.2.2.1 mX5_toss.2.2.2 hhT ∈ WG := inW 846 (by decide +kernel) rfl
theorem tw_5 : Cond.initialized mX5_toss.1.cls ∈ WG := inW 37 (by decide +kernel) rfl
theorem ew_1 : Cond.methodLink RL 163 mL_element.1 ∈ WG := inW 923 (by decide +kernel) rfl
theorem ew_2 : Cond.static mL_element.1 ∈ WG := inW 924 (by decide +kernel) rfl
theorem ew_4 : Cond.codeWith mL_element.1 mL_element.2.1 mL_element.2.2.1 mL_element.2.2.2 hhE ∈ WG := inW 925 (by decide +kernel) rfl
set_option maxRecDepth 20000 in
set_option maxHeartbeats 4000000 in
theorem lc_37 {l : Launch} (X : PX l mL_law 14 QL) {L i : Nat} {xs : Nat → Int32} (sc : Sct X L xs) (hL : L ≤ 3072) (hi : i + 6 ≤ L) (K : KK) (b : Bool) (KI : KK) (S : SS) (h : MH) (n r : Nat) (hn9 : n + 1 < 1000000) (H : LI K b KI S h) (kn : NX X i n r) : VP X 1619 (lsL i) [] h n (r + 1) (6 * r + 6) := by
  obtain ⟨hI, hc, hm, g, h93⟩ := H
  obtain ⟨⟨m, hT⟩, -, hSI⟩ := id hI
  obtain ⟨th, po, ba, en, tt, hm0⟩ := hm.1
  refine VP.aload_n dL_law_1619 rfl ?_
  refine VP.la sc hL hi 1 (by omega) (by decide) rfl rfl dL_law_1620 dL_law_1621 dL_law_1623 dL_law_1624 dL_law_1625 ?_
  refine VP.callVW (c := r) (z := 6 * r) (c1 := 1) (z1 := 6) (k := 1) (hh := hhT) (N := mX5_toss) [_] dL_law_1626 tw_1 tw_2 tw_3 tw_5 tw_4 (by decide +kernel) (by decide +kernel) (by decide) rfl (Nat.le_of_ble_eq_true rfl) hc.1 rfl (x_toss l 6 X.2.1.2.2.2.2.2.2.2.2.2.2.2.2 X.2.1.2.2.2.2.2.2.2.1 h n K b KI S m hc hT hn9 _) (fun r1 h1 n1 q => ?_)
  obtain ⟨rfl, rfl, e1, e2⟩ := q
  refine VP.aload_n dL_law_1629 rfl ?_
  refine VP.la sc hL hi 1 (by omega) (by decide) rfl rfl dL_law_1630 dL_law_1631 dL_law_1633 dL_law_1634 dL_law_1635 ?_
  refine VP.callVv [_] dL_law_1636 lk_L_183 rfl (Nat.le_of_ble_eq_true rfl) (Nat.le_of_ble_eq_true rfl) hm0 rfl (m_toss l 10 _ _ K b KI S m hm hT _) ?_
  refine VP.icmp_eq (tgt := 1644) dL_law_1639 (by decide) (fun _ => ?_) (fun q => absurd rfl q)
  exact kn K b KI S _ n1 ⟨hI, hc, hm, g, h93⟩ e1 e2
theorem ew_5 : Cond.initialized mL_element.1.cls ∈ WG := inW 36 (by decide +kernel) rfl
set_option maxRecDepth 20000 in
set_option maxHeartbeats 4000000 in
theorem lc_34 {l : Launch} (X : PX l mL_law 14 QL) {L i : Nat} {xs : Nat → Int32} (sc : Sct X L xs) (hL : L ≤ 3072) (hi : i + 6 ≤ L) (K : KK) (b : Bool) (KI : KK) (S : SS) (h : MH) (n r : Nat) (hn9 : n + 1 < 1000000) (H : LI K b KI S h) (kn : NX X i n r) : VP X 1454 (lsL i) [] h n (r + 1) (6 * r + 6) := by
  obtain ⟨hI, hc, hm, g, h93⟩ := H
  obtain ⟨⟨m, hT⟩, -, hSI⟩ := id hI
  obtain ⟨th, po, ba, en, tt, hm0⟩ := hm.1
  refine VP.aload_n dL_law_1454 rfl ?_
  refine VP.la sc hL hi 1 (by omega) (by decide) rfl rfl dL_law_1455 dL_law_1456 dL_law_1458 dL_law_1459 dL_law_1460 ?_
  refine VP.la sc hL hi 2 (by omega) (by decide) rfl rfl dL_law_1461 dL_law_1462 dL_law_1464 dL_law_1465 dL_law_1466 ?_
  refine VP.aload_n dL_law_1467 rfl ?_
  refine VP.callSW (c := r) (z := 6 * r) (c1 := 1) (z1 := 6) (k := 4) (hh := hhE) (N := mL_element) [_, _, _, _] dL_law_1468 ew_1 ew_2 ew_5 ew_4 (by decide +kernel) (by decide +kernel) (by decide) rfl (Nat.le_of_ble_eq_true rfl) (l_element l 6 X.2.1.2.2.2.2.2.2.2.2.2.2.2.2 X.2.1.2.2.2.2.2.2.2.1 h n K b KI S m hc hT hSI hn9 _ _ g h93) (fun r1 h1 n1 q => ?_)
  obtain ⟨rfl, ⟨g1, rfl, eg⟩, e1, e2⟩ := q
  refine VP.istore dL_law_1471 (by decide) rfl ?_
  change VP X 1473 [some (.ref 4000000), some (.ref 0), some (.ref 78), some (.ref 93), some (.int (nI i)), some (.int (nI (elC S (xs (i + 1)) (xs (i + 2))))), none, none] [] _ _ _ _
  refine VP.aload_n dL_law_1473 rfl ?_
  refine VP.la sc hL hi 1 (by omega) (by decide) rfl rfl dL_law_1474 dL_law_1475 dL_law_1477 dL_law_1478 dL_law_1479 ?_
  refine VP.la sc hL hi 2 (by omega) (by decide) rfl rfl dL_law_1480 dL_law_1481 dL_law_1483 dL_law_1484 dL_law_1485 ?_
  have hc1 : ClsAt (hset h 93 (.inl (2, 1, .inr (.inl g1)))) K b KI S := hc.far (fun q hq => hset_ne _ _ (by omega))
  have hm1 : ModAt (hset h 93 (.inl (2, 1, .inr (.inl g1)))) K b KI S := hm.far (fun q a1 a2 => hset_ne _ _ (by omega))
  refine VP.callV (c := r) (z := 6 * r) (c1 := 0) (z1 := 0) [_, _] dL_law_1486 lk_L_168 rfl (Nat.le_of_ble_eq_true rfl) (Nat.le_of_ble_eq_true rfl) (o_ne hm0 (by omega)) rfl (m_element l 11 _ _ K b KI S m hm1 hT hSI _ _) (fun r2 h2 n2 q => ?_)
  obtain ⟨rfl, e8, hm2, ⟨po2, ba2, en2, tt2, h78⟩, ho2⟩ := q
  rw [e8]
  refine VP.lstore dL_law_1489 (by decide) rfl (fun w q => by cases q) ?_
  change VP X 1491 [some (.ref 4000000), some (.ref 0), some (.ref 78), some (.ref 93), some (.int (nI i)), some (.int (nI (elC S (xs (i + 1)) (xs (i + 2))))), some (.long (elV S (xs (i + 1)) (xs (i + 2)))), none] [] _ _ _ _
  refine VP.aload_n dL_law_1491 rfl ?_
  refine VP.callVv [] dL_law_1492 lk_L_169 rfl (Nat.le_of_ble_eq_true rfl) (Nat.le_of_ble_eq_true rfl) h78 rfl (m_thrown l 13 _ _ _ _ _ _ _ _ h78) ?_
  refine VP.iload dL_law_1495 rfl ?_
  refine VP.icmp_eq (tgt := 1502) dL_law_1497 (by decide) (fun _ => ?_) (fun q => absurd rfl q)
  have h293 : h2 93 = some (.inl (2, 1, .inr (.inl g1))) := (ho2 93 (by omega)).trans (hset_self _ _ _)
  have fin : VP X 1518 [some (.ref 4000000), some (.ref 0), some (.ref 78), some (.ref 93), some (.int (nI i)), some (.int (nI (elC S (xs (i + 1)) (xs (i + 2))))), some (.long (elV S (xs (i + 1)) (xs (i + 2)))), none] [] h2 n1 r (6 * r) := by
    refine VP.goto (tgt := 1644) dL_law_1518 (by decide) ?_
    refine VP.weak (ls1 := lsL i) (fun j v hj => ?_) (kn K b KI S h2 n1 ⟨hI, hc1.far (fun q hq => ho2 q (Or.inl hq)), hm2, g1, h293⟩ e1 e2)
    rcases (show j = 0 ∨ j = 1 ∨ j = 2 ∨ j = 3 ∨ j = 4 ∨ j = 5 ∨ j = 6 ∨ j = 7 ∨ 8 ≤ j by omega) with rfl | rfl | rfl | rfl | rfl | rfl | rfl | rfl | h8
    · exact hj
    · exact hj
    · exact hj
    · exact hj
    · exact hj
    · cases hj
    · cases hj
    · cases hj
    · rw [List.getElem?_eq_none (by show 8 ≤ j; exact h8)] at hj
      cases hj
  refine VP.iload dL_law_1502 rfl ?_
  refine VP.if_ne (tgt := 1518) dL_law_1504 (by decide) (fun _ => fin) (fun c0 => ?_)
  have ec : elC S (xs (i + 1)) (xs (i + 2)) = 0 := (nI_eq (by unfold elC; (repeat' split) <;> omega) (by omega)).mp c0
  refine VP.aload_n dL_law_1507 rfl ?_
  refine VP.iconst (v := nI 0) dL_law_1508 (by decide) ?_
  refine VP.lald dL_law_1509 h293 (vp_in_nI (by omega) (by decide)) ?_
  refine VP.lload dL_law_1510 rfl ?_
  refine VP.lcmp dL_law_1512 ?_
  refine VP.if_eq (tgt := 1518) dL_law_1513 (by decide) (fun _ => fin) (fun q => absurd ?_ q)
  rw [show g1 (nI 0).toNatClampNeg = elV S (xs (i + 1)) (xs (i + 2)) from eg ec]
  simp [lg_cmp]
