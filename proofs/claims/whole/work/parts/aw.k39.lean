/-! ===== the law: one round ===== -/
set_option maxHeartbeats 4000000 in
theorem lw_c0 {X : Cx} {nm : String} (hX : Ok X cL_law RL nm { frames := 2048, cells := 600000, slots := 7302250, locals := 84000 } (some .boolean)) (hE : LE (xD X)) {b n : Nat} {f : Nat → Int32} (hS : SX X b n f) (i : Nat) (hi : i + 6 ≤ n) (hn : n ≤ 3072) {L : La} {σ : Me} {s : Sx} {N : Nat} (hC : IC L σ s N) (hR : IR L σ s) (mc ms : Nat) (hmc : mc + 20 ≤ 600000) (hms : ms + 300 ≤ 7302250) (kk : ∀ L' σ' s' N', IC L' σ' s' N' → IR L' σ' s' → At X L' σ' (mc + 20) (ms + 300) [(0, .ref b), (1, .ref (L'.1 100)), (2, .ref (L'.1 0)), (3, .int (nI i))] 1542 []) : At X L σ mc ms [(0, .ref b), (1, .ref (L.1 100)), (2, .ref (L.1 0)), (3, .int (nI i))] 216 [] := by
  refine r_aload_n hX dL_law_216 rfl ?_
  refine r_aload_n hX dL_law_217 rfl ?_
  refine r_iload_n hX dL_law_218 rfl ?_
  refine r_iconst hX (nI 1) dL_law_219 rfl ?_
  refine r_iaddN hX dL_law_220 ?_
  refine r_sld hX hS (by omega) (by omega) dL_law_221 ?_
  refine r_callVNI (As := [.int (f (i + 1))]) (rest := []) hX (k_thing hE hC  (f (i + 1))) dL_law_222 cb_L_13 (hC.1.1.1 100 _ rfl) rfl rfl ⟨Nat.le_of_ble_eq_true rfl, Nat.le_of_ble_eq_true rfl⟩ ⟨by show mc + 0 ≤ 600000; omega, by show ms + 0 ≤ 7302250; omega⟩ (Nat.le_of_ble_eq_true rfl) (fun r L2 σ2 h => ?_)
  obtain ⟨rfl, ⟨N2, hC2⟩, hLo⟩ := h
  have hR2 := hR.lo hLo
  refine At.to (ls' := [(0, .ref b), (1, .ref (L2.1 100)), (2, .ref (L2.1 0)), (3, .int (nI i))]) (st' := [.int ((oThing s.1 (f (i + 1))).1)]) ?_ (by rw [hLo.2.1, (hLo.1 0 (by decide)).1]) rfl rfl
  refine r_aload_n hX dL_law_225 rfl ?_
  refine r_aload_n hX dL_law_226 rfl ?_
  refine r_iload_n hX dL_law_227 rfl ?_
  refine r_iconst hX (nI 1) dL_law_228 rfl ?_
  refine r_iaddN hX dL_law_229 ?_
  refine r_sld hX hS (by omega) (by omega) dL_law_230 ?_
  refine r_callVNI (As := [.int (f (i + 1))]) (rest := [.int ((oThing s.1 (f (i + 1))).1)]) hX (j_thing hE hC.2.2.1 hR2 (f (i + 1))) dL_law_231 cb_L_17 (hR2.1.1 0 _ rfl) rfl rfl ⟨Nat.le_of_ble_eq_true rfl, Nat.le_of_ble_eq_true rfl⟩ ⟨by show mc + 0 + 0 ≤ 600000; omega, by show ms + 0 + 0 ≤ 7302250; omega⟩ (Nat.le_of_ble_eq_true rfl) (fun r L3 σ3 h => ?_)
  obtain ⟨rfl, hL3, hR3, hHi⟩ := h
  replace hL3 := hL3.symm
  subst hL3
  have hC3 := hC2.hi hHi
  refine r_icmp_eq hX dL_law_234 (fun _ => ?_) (fun c => absurd rfl c)
  exact At.more (kk _ _ _ _ hC3 hR3) (by show mc + 0 + 0 ≤ mc + 20; omega) (by show ms + 0 + 0 ≤ ms + 300; omega)

set_option maxHeartbeats 4000000 in
theorem lw_c1 {X : Cx} {nm : String} (hX : Ok X cL_law RL nm { frames := 2048, cells := 600000, slots := 7302250, locals := 84000 } (some .boolean)) (hE : LE (xD X)) {b n : Nat} {f : Nat → Int32} (hS : SX X b n f) (i : Nat) (hi : i + 6 ≤ n) (hn : n ≤ 3072) {L : La} {σ : Me} {s : Sx} {N : Nat} (hC : IC L σ s N) (hR : IR L σ s) (mc ms : Nat) (hmc : mc + 20 ≤ 600000) (hms : ms + 300 ≤ 7302250) (kk : ∀ L' σ' s' N', IC L' σ' s' N' → IR L' σ' s' → At X L' σ' (mc + 20) (ms + 300) [(0, .ref b), (1, .ref (L'.1 100)), (2, .ref (L'.1 0)), (3, .int (nI i))] 1542 []) : At X L σ mc ms [(0, .ref b), (1, .ref (L.1 100)), (2, .ref (L.1 0)), (3, .int (nI i))] 239 [] := by
  refine r_aload_n hX dL_law_239 rfl ?_
  refine r_aload_n hX dL_law_240 rfl ?_
  refine r_iload_n hX dL_law_241 rfl ?_
  refine r_iconst hX (nI 1) dL_law_242 rfl ?_
  refine r_iaddN hX dL_law_243 ?_
  refine r_sld hX hS (by omega) (by omega) dL_law_244 ?_
  refine r_aload_n hX dL_law_245 rfl ?_
  refine r_iload_n hX dL_law_246 rfl ?_
  refine r_iconst hX (nI 2) dL_law_247 rfl ?_
  refine r_iaddN hX dL_law_248 ?_
  refine r_sld hX hS (by omega) (by omega) dL_law_249 ?_
  refine r_callVNI (As := [.int (f (i + 1)), .int (f (i + 2))]) (rest := []) hX (k_thingTold hE hC  (f (i + 1)) (f (i + 2))) dL_law_250 cb_L_18 (hC.1.1.1 100 _ rfl) rfl rfl ⟨Nat.le_of_ble_eq_true rfl, Nat.le_of_ble_eq_true rfl⟩ ⟨by show mc + 0 ≤ 600000; omega, by show ms + 0 ≤ 7302250; omega⟩ (Nat.le_of_ble_eq_true rfl) (fun r L2 σ2 h => ?_)
  obtain ⟨rfl, ⟨N2, hC2⟩, hLo⟩ := h
  have hR2 := hR.lo hLo
  refine At.to (ls' := [(0, .ref b), (1, .ref (L2.1 100)), (2, .ref (L2.1 0)), (3, .int (nI i))]) (st' := [.int (oThingTold s.1 (f (i + 1)) (f (i + 2)))]) ?_ (by rw [hLo.2.1, (hLo.1 0 (by decide)).1]) rfl rfl
  refine r_aload_n hX dL_law_253 rfl ?_
  refine r_aload_n hX dL_law_254 rfl ?_
  refine r_iload_n hX dL_law_255 rfl ?_
  refine r_iconst hX (nI 1) dL_law_256 rfl ?_
  refine r_iaddN hX dL_law_257 ?_
  refine r_sld hX hS (by omega) (by omega) dL_law_258 ?_
  refine r_aload_n hX dL_law_259 rfl ?_
  refine r_iload_n hX dL_law_260 rfl ?_
  refine r_iconst hX (nI 2) dL_law_261 rfl ?_
  refine r_iaddN hX dL_law_262 ?_
  refine r_sld hX hS (by omega) (by omega) dL_law_263 ?_
  refine r_callVNI (As := [.int (f (i + 1)), .int (f (i + 2))]) (rest := [.int (oThingTold s.1 (f (i + 1)) (f (i + 2)))]) hX (j_thingTold hE hC.2.2.1 hR2 (f (i + 1)) (f (i + 2))) dL_law_264 cb_L_22 (hR2.1.1 0 _ rfl) rfl rfl ⟨Nat.le_of_ble_eq_true rfl, Nat.le_of_ble_eq_true rfl⟩ ⟨by show mc + 0 + 0 ≤ 600000; omega, by show ms + 0 + 0 ≤ 7302250; omega⟩ (Nat.le_of_ble_eq_true rfl) (fun r L3 σ3 h => ?_)
  obtain ⟨rfl, hL3, hR3, hHi⟩ := h
  replace hL3 := hL3.symm
  subst hL3
  have hC3 := hC2.hi hHi
  refine r_icmp_eq hX dL_law_267 (fun _ => ?_) (fun c => absurd rfl c)
  exact At.more (kk _ _ _ _ hC3 hR3) (by show mc + 0 + 0 ≤ mc + 20; omega) (by show ms + 0 + 0 ≤ ms + 300; omega)

set_option maxHeartbeats 4000000 in
theorem lw_c2 {X : Cx} {nm : String} (hX : Ok X cL_law RL nm { frames := 2048, cells := 600000, slots := 7302250, locals := 84000 } (some .boolean)) (hE : LE (xD X)) {b n : Nat} {f : Nat → Int32} (hS : SX X b n f) (i : Nat) (hi : i + 6 ≤ n) (hn : n ≤ 3072) {L : La} {σ : Me} {s : Sx} {N : Nat} (hC : IC L σ s N) (hR : IR L σ s) (mc ms : Nat) (hmc : mc + 20 ≤ 600000) (hms : ms + 300 ≤ 7302250) (kk : ∀ L' σ' s' N', IC L' σ' s' N' → IR L' σ' s' → At X L' σ' (mc + 20) (ms + 300) [(0, .ref b), (1, .ref (L'.1 100)), (2, .ref (L'.1 0)), (3, .int (nI i))] 1542 []) : At X L σ mc ms [(0, .ref b), (1, .ref (L.1 100)), (2, .ref (L.1 0)), (3, .int (nI i))] 272 [] := by
  refine r_aload_n hX dL_law_272 rfl ?_
  refine r_aload_n hX dL_law_273 rfl ?_
  refine r_iload_n hX dL_law_274 rfl ?_
  refine r_iconst hX (nI 1) dL_law_275 rfl ?_
  refine r_iaddN hX dL_law_276 ?_
  refine r_sld hX hS (by omega) (by omega) dL_law_277 ?_
  refine r_aload_n hX dL_law_278 rfl ?_
  refine r_iload_n hX dL_law_279 rfl ?_
  refine r_iconst hX (nI 2) dL_law_280 rfl ?_
  refine r_iaddN hX dL_law_281 ?_
  refine r_sld hX hS (by omega) (by omega) dL_law_282 ?_
  refine r_aload_n hX dL_law_283 rfl ?_
  refine r_iload_n hX dL_law_284 rfl ?_
  refine r_iconst hX (nI 3) dL_law_285 rfl ?_
  refine r_iaddN hX dL_law_286 ?_
  refine r_sld hX hS (by omega) (by omega) dL_law_287 ?_
  refine r_callVNI (As := [.int (f (i + 1)), .int (f (i + 2)), .int (f (i + 3))]) (rest := []) hX (k_set hE hC  (f (i + 1)) (f (i + 2)) (f (i + 3))) dL_law_288 cb_L_23 (hC.1.1.1 100 _ rfl) rfl rfl ⟨Nat.le_of_ble_eq_true rfl, Nat.le_of_ble_eq_true rfl⟩ ⟨by show mc + 0 ≤ 600000; omega, by show ms + 0 ≤ 7302250; omega⟩ (Nat.le_of_ble_eq_true rfl) (fun r L2 σ2 h => ?_)
  obtain ⟨rfl, ⟨N2, hC2⟩, hLo⟩ := h
  have hR2 := hR.lo hLo
  refine At.to (ls' := [(0, .ref b), (1, .ref (L2.1 100)), (2, .ref (L2.1 0)), (3, .int (nI i))]) (st' := [.int ((oSet s.1 (f (i + 1)) (f (i + 2)) (f (i + 3))).1)]) ?_ (by rw [hLo.2.1, (hLo.1 0 (by decide)).1]) rfl rfl
  refine r_aload_n hX dL_law_291 rfl ?_
  refine r_aload_n hX dL_law_292 rfl ?_
  refine r_iload_n hX dL_law_293 rfl ?_
  refine r_iconst hX (nI 1) dL_law_294 rfl ?_
  refine r_iaddN hX dL_law_295 ?_
  refine r_sld hX hS (by omega) (by omega) dL_law_296 ?_
  refine r_aload_n hX dL_law_297 rfl ?_
  refine r_iload_n hX dL_law_298 rfl ?_
  refine r_iconst hX (nI 2) dL_law_299 rfl ?_
  refine r_iaddN hX dL_law_300 ?_
  refine r_sld hX hS (by omega) (by omega) dL_law_301 ?_
  refine r_aload_n hX dL_law_302 rfl ?_
  refine r_iload_n hX dL_law_303 rfl ?_
  refine r_iconst hX (nI 3) dL_law_304 rfl ?_
  refine r_iaddN hX dL_law_305 ?_
  refine r_sld hX hS (by omega) (by omega) dL_law_306 ?_
  refine r_callVNI (As := [.int (f (i + 1)), .int (f (i + 2)), .int (f (i + 3))]) (rest := [.int ((oSet s.1 (f (i + 1)) (f (i + 2)) (f (i + 3))).1)]) hX (j_set hE hC.2.2.1 hR2 (f (i + 1)) (f (i + 2)) (f (i + 3))) dL_law_307 cb_L_27 (hR2.1.1 0 _ rfl) rfl rfl ⟨Nat.le_of_ble_eq_true rfl, Nat.le_of_ble_eq_true rfl⟩ ⟨by show mc + 0 + 0 ≤ 600000; omega, by show ms + 0 + 0 ≤ 7302250; omega⟩ (Nat.le_of_ble_eq_true rfl) (fun r L3 σ3 h => ?_)
  obtain ⟨rfl, hL3, hR3, hHi⟩ := h
  replace hL3 := hL3.symm
  subst hL3
  have hC3 := hC2.hi hHi
  refine r_icmp_eq hX dL_law_310 (fun _ => ?_) (fun c => absurd rfl c)
  exact At.more (kk _ _ _ _ hC3 hR3) (by show mc + 0 + 0 ≤ mc + 20; omega) (by show ms + 0 + 0 ≤ ms + 300; omega)

set_option maxHeartbeats 4000000 in
theorem lw_c3 {X : Cx} {nm : String} (hX : Ok X cL_law RL nm { frames := 2048, cells := 600000, slots := 7302250, locals := 84000 } (some .boolean)) (hE : LE (xD X)) {b n : Nat} {f : Nat → Int32} (hS : SX X b n f) (i : Nat) (hi : i + 6 ≤ n) (hn : n ≤ 3072) {L : La} {σ : Me} {s : Sx} {N : Nat} (hC : IC L σ s N) (hR : IR L σ s) (mc ms : Nat) (hmc : mc + 20 ≤ 600000) (hms : ms + 300 ≤ 7302250) (kk : ∀ L' σ' s' N', IC L' σ' s' N' → IR L' σ' s' → At X L' σ' (mc + 20) (ms + 300) [(0, .ref b), (1, .ref (L'.1 100)), (2, .ref (L'.1 0)), (3, .int (nI i))] 1542 []) : At X L σ mc ms [(0, .ref b), (1, .ref (L.1 100)), (2, .ref (L.1 0)), (3, .int (nI i))] 315 [] := by
  refine r_aload_n hX dL_law_315 rfl ?_
  refine r_aload_n hX dL_law_316 rfl ?_
  refine r_iload_n hX dL_law_317 rfl ?_
  refine r_iconst hX (nI 1) dL_law_318 rfl ?_
  refine r_iaddN hX dL_law_319 ?_
  refine r_sld hX hS (by omega) (by omega) dL_law_320 ?_
  refine r_callVNI (As := [.int (f (i + 1))]) (rest := []) hX (k_name hE hC  (f (i + 1))) dL_law_321 cb_L_28 (hC.1.1.1 100 _ rfl) rfl rfl ⟨Nat.le_of_ble_eq_true rfl, Nat.le_of_ble_eq_true rfl⟩ ⟨by show mc + 0 ≤ 600000; omega, by show ms + 0 ≤ 7302250; omega⟩ (Nat.le_of_ble_eq_true rfl) (fun r L2 σ2 h => ?_)
  obtain ⟨rfl, ⟨N2, hC2⟩, hLo⟩ := h
  have hR2 := hR.lo hLo
  refine At.to (ls' := [(0, .ref b), (1, .ref (L2.1 100)), (2, .ref (L2.1 0)), (3, .int (nI i))]) (st' := [.int ((oName s.1 (f (i + 1))).1)]) ?_ (by rw [hLo.2.1, (hLo.1 0 (by decide)).1]) rfl rfl
  refine r_aload_n hX dL_law_324 rfl ?_
  refine r_aload_n hX dL_law_325 rfl ?_
  refine r_iload_n hX dL_law_326 rfl ?_
  refine r_iconst hX (nI 1) dL_law_327 rfl ?_
  refine r_iaddN hX dL_law_328 ?_
  refine r_sld hX hS (by omega) (by omega) dL_law_329 ?_
  refine r_callVNI (As := [.int (f (i + 1))]) (rest := [.int ((oName s.1 (f (i + 1))).1)]) hX (j_name hE hC.2.2.1 hR2 (f (i + 1))) dL_law_330 cb_L_31 (hR2.1.1 0 _ rfl) rfl rfl ⟨Nat.le_of_ble_eq_true rfl, Nat.le_of_ble_eq_true rfl⟩ ⟨by show mc + 0 + 0 ≤ 600000; omega, by show ms + 0 + 0 ≤ 7302250; omega⟩ (Nat.le_of_ble_eq_true rfl) (fun r L3 σ3 h => ?_)
  obtain ⟨rfl, hL3, hR3, hHi⟩ := h
  replace hL3 := hL3.symm
  subst hL3
  have hC3 := hC2.hi hHi
  refine r_icmp_eq hX dL_law_333 (fun _ => ?_) (fun c => absurd rfl c)
  exact At.more (kk _ _ _ _ hC3 hR3) (by show mc + 0 + 0 ≤ mc + 20; omega) (by show ms + 0 + 0 ≤ ms + 300; omega)

set_option maxHeartbeats 4000000 in
theorem lw_c4 {X : Cx} {nm : String} (hX : Ok X cL_law RL nm { frames := 2048, cells := 600000, slots := 7302250, locals := 84000 } (some .boolean)) (hE : LE (xD X)) {b n : Nat} {f : Nat → Int32} (hS : SX X b n f) (i : Nat) (hi : i + 6 ≤ n) (hn : n ≤ 3072) {L : La} {σ : Me} {s : Sx} {N : Nat} (hC : IC L σ s N) (hR : IR L σ s) (mc ms : Nat) (hmc : mc + 20 ≤ 600000) (hms : ms + 300 ≤ 7302250) (kk : ∀ L' σ' s' N', IC L' σ' s' N' → IR L' σ' s' → At X L' σ' (mc + 20) (ms + 300) [(0, .ref b), (1, .ref (L'.1 100)), (2, .ref (L'.1 0)), (3, .int (nI i))] 1542 []) : At X L σ mc ms [(0, .ref b), (1, .ref (L.1 100)), (2, .ref (L.1 0)), (3, .int (nI i))] 338 [] := by
  refine r_aload_n hX dL_law_338 rfl ?_
  refine r_aload_n hX dL_law_339 rfl ?_
  refine r_iload_n hX dL_law_340 rfl ?_
  refine r_iconst hX (nI 1) dL_law_341 rfl ?_
  refine r_iaddN hX dL_law_342 ?_
  refine r_sld hX hS (by omega) (by omega) dL_law_343 ?_
  refine r_aload_n hX dL_law_344 rfl ?_
  refine r_iload_n hX dL_law_345 rfl ?_
  refine r_iconst hX (nI 2) dL_law_346 rfl ?_
  refine r_iaddN hX dL_law_347 ?_
  refine r_sld hX hS (by omega) (by omega) dL_law_348 ?_
  refine r_callVNI (As := [.int (f (i + 1)), .int (f (i + 2))]) (rest := []) hX (k_nameTold hE hC  (f (i + 1)) (f (i + 2))) dL_law_349 cb_L_32 (hC.1.1.1 100 _ rfl) rfl rfl ⟨Nat.le_of_ble_eq_true rfl, Nat.le_of_ble_eq_true rfl⟩ ⟨by show mc + 0 ≤ 600000; omega, by show ms + 0 ≤ 7302250; omega⟩ (Nat.le_of_ble_eq_true rfl) (fun r L2 σ2 h => ?_)
  obtain ⟨rfl, ⟨N2, hC2⟩, hLo⟩ := h
  have hR2 := hR.lo hLo
  refine At.to (ls' := [(0, .ref b), (1, .ref (L2.1 100)), (2, .ref (L2.1 0)), (3, .int (nI i))]) (st' := [.int ((oNameTold s.1 (f (i + 1)) (f (i + 2))))]) ?_ (by rw [hLo.2.1, (hLo.1 0 (by decide)).1]) rfl rfl
  refine r_aload_n hX dL_law_352 rfl ?_
  refine r_aload_n hX dL_law_353 rfl ?_
  refine r_iload_n hX dL_law_354 rfl ?_
  refine r_iconst hX (nI 1) dL_law_355 rfl ?_
  refine r_iaddN hX dL_law_356 ?_
  refine r_sld hX hS (by omega) (by omega) dL_law_357 ?_
  refine r_aload_n hX dL_law_358 rfl ?_
  refine r_iload_n hX dL_law_359 rfl ?_
  refine r_iconst hX (nI 2) dL_law_360 rfl ?_
  refine r_iaddN hX dL_law_361 ?_
  refine r_sld hX hS (by omega) (by omega) dL_law_362 ?_
  refine r_callVNI (As := [.int (f (i + 1)), .int (f (i + 2))]) (rest := [.int ((oNameTold s.1 (f (i + 1)) (f (i + 2))))]) hX (j_nameTold hE hC.2.2.1 hR2 (f (i + 1)) (f (i + 2))) dL_law_363 cb_L_35 (hR2.1.1 0 _ rfl) rfl rfl ⟨Nat.le_of_ble_eq_true rfl, Nat.le_of_ble_eq_true rfl⟩ ⟨by show mc + 0 + 0 ≤ 600000; omega, by show ms + 0 + 0 ≤ 7302250; omega⟩ (Nat.le_of_ble_eq_true rfl) (fun r L3 σ3 h => ?_)
  obtain ⟨rfl, hL3, hR3, hHi⟩ := h
  replace hL3 := hL3.symm
  subst hL3
  have hC3 := hC2.hi hHi
  refine r_icmp_eq hX dL_law_366 (fun _ => ?_) (fun c => absurd rfl c)
  exact At.more (kk _ _ _ _ hC3 hR3) (by show mc + 0 + 0 ≤ mc + 20; omega) (by show ms + 0 + 0 ≤ ms + 300; omega)

set_option maxHeartbeats 4000000 in
theorem lw_c5 {X : Cx} {nm : String} (hX : Ok X cL_law RL nm { frames := 2048, cells := 600000, slots := 7302250, locals := 84000 } (some .boolean)) (hE : LE (xD X)) {b n : Nat} {f : Nat → Int32} (hS : SX X b n f) (i : Nat) (hi : i + 6 ≤ n) (hn : n ≤ 3072) {L : La} {σ : Me} {s : Sx} {N : Nat} (hC : IC L σ s N) (hR : IR L σ s) (mc ms : Nat) (hmc : mc + 20 ≤ 600000) (hms : ms + 300 ≤ 7302250) (kk : ∀ L' σ' s' N', IC L' σ' s' N' → IR L' σ' s' → At X L' σ' (mc + 20) (ms + 300) [(0, .ref b), (1, .ref (L'.1 100)), (2, .ref (L'.1 0)), (3, .int (nI i))] 1542 []) : At X L σ mc ms [(0, .ref b), (1, .ref (L.1 100)), (2, .ref (L.1 0)), (3, .int (nI i))] 371 [] := by
  refine r_aload_n hX dL_law_371 rfl ?_
  refine r_aload_n hX dL_law_372 rfl ?_
  refine r_iload_n hX dL_law_373 rfl ?_
  refine r_iconst hX (nI 1) dL_law_374 rfl ?_
  refine r_iaddN hX dL_law_375 ?_
  refine r_sld hX hS (by omega) (by omega) dL_law_376 ?_
  refine r_aload_n hX dL_law_377 rfl ?_
  refine r_iload_n hX dL_law_378 rfl ?_
  refine r_iconst hX (nI 2) dL_law_379 rfl ?_
  refine r_iaddN hX dL_law_380 ?_
  refine r_sld hX hS (by omega) (by omega) dL_law_381 ?_
  refine r_aload_n hX dL_law_382 rfl ?_
  refine r_iload_n hX dL_law_383 rfl ?_
  refine r_iconst hX (nI 3) dL_law_384 rfl ?_
  refine r_iaddN hX dL_law_385 ?_
  refine r_sld hX hS (by omega) (by omega) dL_law_386 ?_
  refine r_callVNI (As := [.int (f (i + 1)), .int (f (i + 2)), .int (f (i + 3))]) (rest := []) hX (k_word hE hC  (f (i + 1)) (f (i + 2)) (f (i + 3))) dL_law_387 cb_L_36 (hC.1.1.1 100 _ rfl) rfl rfl ⟨Nat.le_of_ble_eq_true rfl, Nat.le_of_ble_eq_true rfl⟩ ⟨by show mc + 0 ≤ 600000; omega, by show ms + 0 ≤ 7302250; omega⟩ (Nat.le_of_ble_eq_true rfl) (fun r L2 σ2 h => ?_)
  obtain ⟨rfl, ⟨N2, hC2⟩, hLo⟩ := h
  have hR2 := hR.lo hLo
  refine At.to (ls' := [(0, .ref b), (1, .ref (L2.1 100)), (2, .ref (L2.1 0)), (3, .int (nI i))]) (st' := [.int ((oWord s.1 (f (i + 1)) (f (i + 2)) (f (i + 3))).1)]) ?_ (by rw [hLo.2.1, (hLo.1 0 (by decide)).1]) rfl rfl
  refine r_aload_n hX dL_law_390 rfl ?_
  refine r_aload_n hX dL_law_391 rfl ?_
  refine r_iload_n hX dL_law_392 rfl ?_
  refine r_iconst hX (nI 1) dL_law_393 rfl ?_
  refine r_iaddN hX dL_law_394 ?_
  refine r_sld hX hS (by omega) (by omega) dL_law_395 ?_
  refine r_aload_n hX dL_law_396 rfl ?_
  refine r_iload_n hX dL_law_397 rfl ?_
  refine r_iconst hX (nI 2) dL_law_398 rfl ?_
  refine r_iaddN hX dL_law_399 ?_
  refine r_sld hX hS (by omega) (by omega) dL_law_400 ?_
  refine r_aload_n hX dL_law_401 rfl ?_
  refine r_iload_n hX dL_law_402 rfl ?_
  refine r_iconst hX (nI 3) dL_law_403 rfl ?_
  refine r_iaddN hX dL_law_404 ?_
  refine r_sld hX hS (by omega) (by omega) dL_law_405 ?_
  refine r_callVNI (As := [.int (f (i + 1)), .int (f (i + 2)), .int (f (i + 3))]) (rest := [.int ((oWord s.1 (f (i + 1)) (f (i + 2)) (f (i + 3))).1)]) hX (j_word hE hC.2.2.1 hR2 (f (i + 1)) (f (i + 2)) (f (i + 3))) dL_law_406 cb_L_39 (hR2.1.1 0 _ rfl) rfl rfl ⟨Nat.le_of_ble_eq_true rfl, Nat.le_of_ble_eq_true rfl⟩ ⟨by show mc + 0 + 0 ≤ 600000; omega, by show ms + 0 + 0 ≤ 7302250; omega⟩ (Nat.le_of_ble_eq_true rfl) (fun r L3 σ3 h => ?_)
  obtain ⟨rfl, hL3, hR3, hHi⟩ := h
  replace hL3 := hL3.symm
  subst hL3
  have hC3 := hC2.hi hHi
  refine r_icmp_eq hX dL_law_409 (fun _ => ?_) (fun c => absurd rfl c)
  exact At.more (kk _ _ _ _ hC3 hR3) (by show mc + 0 + 0 ≤ mc + 20; omega) (by show ms + 0 + 0 ≤ ms + 300; omega)

set_option maxHeartbeats 4000000 in
theorem lw_c6 {X : Cx} {nm : String} (hX : Ok X cL_law RL nm { frames := 2048, cells := 600000, slots := 7302250, locals := 84000 } (some .boolean)) (hE : LE (xD X)) {b n : Nat} {f : Nat → Int32} (hS : SX X b n f) (i : Nat) (hi : i + 6 ≤ n) (hn : n ≤ 3072) {L : La} {σ : Me} {s : Sx} {N : Nat} (hC : IC L σ s N) (hR : IR L σ s) (mc ms : Nat) (hmc : mc + 20 ≤ 600000) (hms : ms + 300 ≤ 7302250) (kk : ∀ L' σ' s' N', IC L' σ' s' N' → IR L' σ' s' → At X L' σ' (mc + 20) (ms + 300) [(0, .ref b), (1, .ref (L'.1 100)), (2, .ref (L'.1 0)), (3, .int (nI i))] 1542 []) : At X L σ mc ms [(0, .ref b), (1, .ref (L.1 100)), (2, .ref (L.1 0)), (3, .int (nI i))] 414 [] := by
  refine r_aload_n hX dL_law_414 rfl ?_
  refine r_aload_n hX dL_law_415 rfl ?_
  refine r_iload_n hX dL_law_416 rfl ?_
  refine r_iconst hX (nI 1) dL_law_417 rfl ?_
  refine r_iaddN hX dL_law_418 ?_
  refine r_sld hX hS (by omega) (by omega) dL_law_419 ?_
  refine r_aload_n hX dL_law_420 rfl ?_
  refine r_iload_n hX dL_law_421 rfl ?_
  refine r_iconst hX (nI 2) dL_law_422 rfl ?_
  refine r_iaddN hX dL_law_423 ?_
  refine r_sld hX hS (by omega) (by omega) dL_law_424 ?_
  refine r_callVNI (As := [.int (f (i + 1)), .int (f (i + 2))]) (rest := []) hX (k_told hE hC  (f (i + 1)) (f (i + 2))) dL_law_425 cb_L_40 (hC.1.1.1 100 _ rfl) rfl rfl ⟨Nat.le_of_ble_eq_true rfl, Nat.le_of_ble_eq_true rfl⟩ ⟨by show mc + 0 ≤ 600000; omega, by show ms + 0 ≤ 7302250; omega⟩ (Nat.le_of_ble_eq_true rfl) (fun r L2 σ2 h => ?_)
  obtain ⟨rfl, ⟨N2, hC2⟩, hLo⟩ := h
  have hR2 := hR.lo hLo
  refine At.to (ls' := [(0, .ref b), (1, .ref (L2.1 100)), (2, .ref (L2.1 0)), (3, .int (nI i))]) (st' := [.int (oTold s.1 (f (i + 1)) (f (i + 2)))]) ?_ (by rw [hLo.2.1, (hLo.1 0 (by decide)).1]) rfl rfl
  refine r_aload_n hX dL_law_428 rfl ?_
  refine r_aload_n hX dL_law_429 rfl ?_
  refine r_iload_n hX dL_law_430 rfl ?_
  refine r_iconst hX (nI 1) dL_law_431 rfl ?_
  refine r_iaddN hX dL_law_432 ?_
  refine r_sld hX hS (by omega) (by omega) dL_law_433 ?_
  refine r_aload_n hX dL_law_434 rfl ?_
  refine r_iload_n hX dL_law_435 rfl ?_
  refine r_iconst hX (nI 2) dL_law_436 rfl ?_
  refine r_iaddN hX dL_law_437 ?_
  refine r_sld hX hS (by omega) (by omega) dL_law_438 ?_
  refine r_callVNI (As := [.int (f (i + 1)), .int (f (i + 2))]) (rest := [.int (oTold s.1 (f (i + 1)) (f (i + 2)))]) hX (j_told hE hC.2.2.1 hR2 (f (i + 1)) (f (i + 2))) dL_law_439 cb_L_43 (hR2.1.1 0 _ rfl) rfl rfl ⟨Nat.le_of_ble_eq_true rfl, Nat.le_of_ble_eq_true rfl⟩ ⟨by show mc + 0 + 0 ≤ 600000; omega, by show ms + 0 + 0 ≤ 7302250; omega⟩ (Nat.le_of_ble_eq_true rfl) (fun r L3 σ3 h => ?_)
  obtain ⟨rfl, hL3, hR3, hHi⟩ := h
  replace hL3 := hL3.symm
  subst hL3
  have hC3 := hC2.hi hHi
  refine r_icmp_eq hX dL_law_442 (fun _ => ?_) (fun c => absurd rfl c)
  exact At.more (kk _ _ _ _ hC3 hR3) (by show mc + 0 + 0 ≤ mc + 20; omega) (by show ms + 0 + 0 ≤ ms + 300; omega)

set_option maxHeartbeats 4000000 in
theorem lw_c7 {X : Cx} {nm : String} (hX : Ok X cL_law RL nm { frames := 2048, cells := 600000, slots := 7302250, locals := 84000 } (some .boolean)) (hE : LE (xD X)) {b n : Nat} {f : Nat → Int32} (hS : SX X b n f) (i : Nat) (hi : i + 6 ≤ n) (hn : n ≤ 3072) {L : La} {σ : Me} {s : Sx} {N : Nat} (hC : IC L σ s N) (hR : IR L σ s) (mc ms : Nat) (hmc : mc + 20 ≤ 600000) (hms : ms + 300 ≤ 7302250) (kk : ∀ L' σ' s' N', IC L' σ' s' N' → IR L' σ' s' → At X L' σ' (mc + 20) (ms + 300) [(0, .ref b), (1, .ref (L'.1 100)), (2, .ref (L'.1 0)), (3, .int (nI i))] 1542 []) : At X L σ mc ms [(0, .ref b), (1, .ref (L.1 100)), (2, .ref (L.1 0)), (3, .int (nI i))] 447 [] := by
  refine r_aload_n hX dL_law_447 rfl ?_
  refine r_aload_n hX dL_law_448 rfl ?_
  refine r_iload_n hX dL_law_449 rfl ?_
  refine r_iconst hX (nI 1) dL_law_450 rfl ?_
  refine r_iaddN hX dL_law_451 ?_
  refine r_sld hX hS (by omega) (by omega) dL_law_452 ?_
  refine r_aload_n hX dL_law_453 rfl ?_
  refine r_iload_n hX dL_law_454 rfl ?_
  refine r_iconst hX (nI 2) dL_law_455 rfl ?_
  refine r_iaddN hX dL_law_456 ?_
  refine r_sld hX hS (by omega) (by omega) dL_law_457 ?_
  refine r_callVNI (As := [.int (f (i + 1)), .int (f (i + 2))]) (rest := []) hX (k_as hE hC  (f (i + 1)) (f (i + 2))) dL_law_458 cb_L_44 (hC.1.1.1 100 _ rfl) rfl rfl ⟨Nat.le_of_ble_eq_true rfl, Nat.le_of_ble_eq_true rfl⟩ ⟨by show mc + 0 ≤ 600000; omega, by show ms + 0 ≤ 7302250; omega⟩ (Nat.le_of_ble_eq_true rfl) (fun r L2 σ2 h => ?_)
  obtain ⟨rfl, ⟨N2, hC2⟩, hLo⟩ := h
  have hR2 := hR.lo hLo
  refine At.to (ls' := [(0, .ref b), (1, .ref (L2.1 100)), (2, .ref (L2.1 0)), (3, .int (nI i))]) (st' := [.int ((oAs s.1 (f (i + 1)) (f (i + 2))))]) ?_ (by rw [hLo.2.1, (hLo.1 0 (by decide)).1]) rfl rfl
  refine r_aload_n hX dL_law_461 rfl ?_
  refine r_aload_n hX dL_law_462 rfl ?_
  refine r_iload_n hX dL_law_463 rfl ?_
  refine r_iconst hX (nI 1) dL_law_464 rfl ?_
  refine r_iaddN hX dL_law_465 ?_
  refine r_sld hX hS (by omega) (by omega) dL_law_466 ?_
  refine r_aload_n hX dL_law_467 rfl ?_
  refine r_iload_n hX dL_law_468 rfl ?_
  refine r_iconst hX (nI 2) dL_law_469 rfl ?_
  refine r_iaddN hX dL_law_470 ?_
  refine r_sld hX hS (by omega) (by omega) dL_law_471 ?_
  refine r_callVNI (As := [.int (f (i + 1)), .int (f (i + 2))]) (rest := [.int ((oAs s.1 (f (i + 1)) (f (i + 2))))]) hX (j_as hE hC.2.2.1 hR2 (f (i + 1)) (f (i + 2))) dL_law_472 cb_L_47 (hR2.1.1 0 _ rfl) rfl rfl ⟨Nat.le_of_ble_eq_true rfl, Nat.le_of_ble_eq_true rfl⟩ ⟨by show mc + 0 + 0 ≤ 600000; omega, by show ms + 0 + 0 ≤ 7302250; omega⟩ (Nat.le_of_ble_eq_true rfl) (fun r L3 σ3 h => ?_)
  obtain ⟨rfl, hL3, hR3, hHi⟩ := h
  replace hL3 := hL3.symm
  subst hL3
  have hC3 := hC2.hi hHi
  refine r_icmp_eq hX dL_law_475 (fun _ => ?_) (fun c => absurd rfl c)
  exact At.more (kk _ _ _ _ hC3 hR3) (by show mc + 0 + 0 ≤ mc + 20; omega) (by show ms + 0 + 0 ≤ ms + 300; omega)

set_option maxHeartbeats 4000000 in
theorem lw_c8 {X : Cx} {nm : String} (hX : Ok X cL_law RL nm { frames := 2048, cells := 600000, slots := 7302250, locals := 84000 } (some .boolean)) (hE : LE (xD X)) {b n : Nat} {f : Nat → Int32} (hS : SX X b n f) (i : Nat) (hi : i + 6 ≤ n) (hn : n ≤ 3072) {L : La} {σ : Me} {s : Sx} {N : Nat} (hC : IC L σ s N) (hR : IR L σ s) (mc ms : Nat) (hmc : mc + 20 ≤ 600000) (hms : ms + 300 ≤ 7302250) (kk : ∀ L' σ' s' N', IC L' σ' s' N' → IR L' σ' s' → At X L' σ' (mc + 20) (ms + 300) [(0, .ref b), (1, .ref (L'.1 100)), (2, .ref (L'.1 0)), (3, .int (nI i))] 1542 []) : At X L σ mc ms [(0, .ref b), (1, .ref (L.1 100)), (2, .ref (L.1 0)), (3, .int (nI i))] 480 [] := by
  refine r_aload_n hX dL_law_480 rfl ?_
  refine r_aload_n hX dL_law_481 rfl ?_
  refine r_iload_n hX dL_law_482 rfl ?_
  refine r_iconst hX (nI 1) dL_law_483 rfl ?_
  refine r_iaddN hX dL_law_484 ?_
  refine r_sld hX hS (by omega) (by omega) dL_law_485 ?_
  refine r_aload_n hX dL_law_486 rfl ?_
  refine r_iload_n hX dL_law_487 rfl ?_
  refine r_iconst hX (nI 2) dL_law_488 rfl ?_
  refine r_iaddN hX dL_law_489 ?_
  refine r_sld hX hS (by omega) (by omega) dL_law_490 ?_
  refine r_callVNI (As := [.int (f (i + 1)), .int (f (i + 2))]) (rest := []) hX (k_turns hE hC  (f (i + 1)) (f (i + 2))) dL_law_491 cb_L_48 (hC.1.1.1 100 _ rfl) rfl rfl ⟨Nat.le_of_ble_eq_true rfl, Nat.le_of_ble_eq_true rfl⟩ ⟨by show mc + 0 ≤ 600000; omega, by show ms + 0 ≤ 7302250; omega⟩ (Nat.le_of_ble_eq_true rfl) (fun r L2 σ2 h => ?_)
  obtain ⟨rfl, ⟨N2, hC2⟩, hLo⟩ := h
  have hR2 := hR.lo hLo
  refine At.to (ls' := [(0, .ref b), (1, .ref (L2.1 100)), (2, .ref (L2.1 0)), (3, .int (nI i))]) (st' := [.int ((oTurns s.1 (f (i + 1)) (f (i + 2))).1)]) ?_ (by rw [hLo.2.1, (hLo.1 0 (by decide)).1]) rfl rfl
  refine r_aload_n hX dL_law_494 rfl ?_
  refine r_aload_n hX dL_law_495 rfl ?_
  refine r_iload_n hX dL_law_496 rfl ?_
  refine r_iconst hX (nI 1) dL_law_497 rfl ?_
  refine r_iaddN hX dL_law_498 ?_
  refine r_sld hX hS (by omega) (by omega) dL_law_499 ?_
  refine r_aload_n hX dL_law_500 rfl ?_
  refine r_iload_n hX dL_law_501 rfl ?_
  refine r_iconst hX (nI 2) dL_law_502 rfl ?_
  refine r_iaddN hX dL_law_503 ?_
  refine r_sld hX hS (by omega) (by omega) dL_law_504 ?_
  refine r_callVNI (As := [.int (f (i + 1)), .int (f (i + 2))]) (rest := [.int ((oTurns s.1 (f (i + 1)) (f (i + 2))).1)]) hX (j_turns hE hC.2.2.1 hR2 (f (i + 1)) (f (i + 2))) dL_law_505 cb_L_51 (hR2.1.1 0 _ rfl) rfl rfl ⟨Nat.le_of_ble_eq_true rfl, Nat.le_of_ble_eq_true rfl⟩ ⟨by show mc + 0 + 0 ≤ 600000; omega, by show ms + 0 + 0 ≤ 7302250; omega⟩ (Nat.le_of_ble_eq_true rfl) (fun r L3 σ3 h => ?_)
  obtain ⟨rfl, hL3, hR3, hHi⟩ := h
  replace hL3 := hL3.symm
  subst hL3
  have hC3 := hC2.hi hHi
  refine r_icmp_eq hX dL_law_508 (fun _ => ?_) (fun c => absurd rfl c)
  exact At.more (kk _ _ _ _ hC3 hR3) (by show mc + 0 + 0 ≤ mc + 20; omega) (by show ms + 0 + 0 ≤ ms + 300; omega)

set_option maxHeartbeats 4000000 in
theorem lw_c9 {X : Cx} {nm : String} (hX : Ok X cL_law RL nm { frames := 2048, cells := 600000, slots := 7302250, locals := 84000 } (some .boolean)) (hE : LE (xD X)) {b n : Nat} {f : Nat → Int32} (hS : SX X b n f) (i : Nat) (hi : i + 6 ≤ n) (hn : n ≤ 3072) {L : La} {σ : Me} {s : Sx} {N : Nat} (hC : IC L σ s N) (hR : IR L σ s) (mc ms : Nat) (hmc : mc + 20 ≤ 600000) (hms : ms + 300 ≤ 7302250) (kk : ∀ L' σ' s' N', IC L' σ' s' N' → IR L' σ' s' → At X L' σ' (mc + 20) (ms + 300) [(0, .ref b), (1, .ref (L'.1 100)), (2, .ref (L'.1 0)), (3, .int (nI i))] 1542 []) : At X L σ mc ms [(0, .ref b), (1, .ref (L.1 100)), (2, .ref (L.1 0)), (3, .int (nI i))] 513 [] := by
  refine r_aload_n hX dL_law_513 rfl ?_
  refine r_aload_n hX dL_law_514 rfl ?_
  refine r_iload_n hX dL_law_515 rfl ?_
  refine r_iconst hX (nI 1) dL_law_516 rfl ?_
  refine r_iaddN hX dL_law_517 ?_
  refine r_sld hX hS (by omega) (by omega) dL_law_518 ?_
  refine r_aload_n hX dL_law_519 rfl ?_
  refine r_iload_n hX dL_law_520 rfl ?_
  refine r_iconst hX (nI 2) dL_law_521 rfl ?_
  refine r_iaddN hX dL_law_522 ?_
  refine r_sld hX hS (by omega) (by omega) dL_law_523 ?_
  refine r_callVNI (As := [.int (f (i + 1)), .int (f (i + 2))]) (rest := []) hX (k_star hE hC  (f (i + 1)) (f (i + 2))) dL_law_524 cb_L_52 (hC.1.1.1 100 _ rfl) rfl rfl ⟨Nat.le_of_ble_eq_true rfl, Nat.le_of_ble_eq_true rfl⟩ ⟨by show mc + 0 ≤ 600000; omega, by show ms + 0 ≤ 7302250; omega⟩ (Nat.le_of_ble_eq_true rfl) (fun r L2 σ2 h => ?_)
  obtain ⟨rfl, ⟨N2, hC2⟩, hLo⟩ := h
  have hR2 := hR.lo hLo
  refine At.to (ls' := [(0, .ref b), (1, .ref (L2.1 100)), (2, .ref (L2.1 0)), (3, .int (nI i))]) (st' := [.int ((oStar s.1 (f (i + 1)) (f (i + 2))).1)]) ?_ (by rw [hLo.2.1, (hLo.1 0 (by decide)).1]) rfl rfl
  refine r_aload_n hX dL_law_527 rfl ?_
  refine r_aload_n hX dL_law_528 rfl ?_
  refine r_iload_n hX dL_law_529 rfl ?_
  refine r_iconst hX (nI 1) dL_law_530 rfl ?_
  refine r_iaddN hX dL_law_531 ?_
  refine r_sld hX hS (by omega) (by omega) dL_law_532 ?_
  refine r_aload_n hX dL_law_533 rfl ?_
  refine r_iload_n hX dL_law_534 rfl ?_
  refine r_iconst hX (nI 2) dL_law_535 rfl ?_
  refine r_iaddN hX dL_law_536 ?_
  refine r_sld hX hS (by omega) (by omega) dL_law_537 ?_
  refine r_callVNI (As := [.int (f (i + 1)), .int (f (i + 2))]) (rest := [.int ((oStar s.1 (f (i + 1)) (f (i + 2))).1)]) hX (j_star hE hC.2.2.1 hR2 (f (i + 1)) (f (i + 2))) dL_law_538 cb_L_55 (hR2.1.1 0 _ rfl) rfl rfl ⟨Nat.le_of_ble_eq_true rfl, Nat.le_of_ble_eq_true rfl⟩ ⟨by show mc + 0 + 0 ≤ 600000; omega, by show ms + 0 + 0 ≤ 7302250; omega⟩ (Nat.le_of_ble_eq_true rfl) (fun r L3 σ3 h => ?_)
  obtain ⟨rfl, hL3, hR3, hHi⟩ := h
  replace hL3 := hL3.symm
  subst hL3
  have hC3 := hC2.hi hHi
  refine r_icmp_eq hX dL_law_541 (fun _ => ?_) (fun c => absurd rfl c)
  exact At.more (kk _ _ _ _ hC3 hR3) (by show mc + 0 + 0 ≤ mc + 20; omega) (by show ms + 0 + 0 ≤ ms + 300; omega)

set_option maxHeartbeats 4000000 in
theorem lw_c10 {X : Cx} {nm : String} (hX : Ok X cL_law RL nm { frames := 2048, cells := 600000, slots := 7302250, locals := 84000 } (some .boolean)) (hE : LE (xD X)) {b n : Nat} {f : Nat → Int32} (hS : SX X b n f) (i : Nat) (hi : i + 6 ≤ n) (hn : n ≤ 3072) {L : La} {σ : Me} {s : Sx} {N : Nat} (hC : IC L σ s N) (hR : IR L σ s) (mc ms : Nat) (hmc : mc + 20 ≤ 600000) (hms : ms + 300 ≤ 7302250) (kk : ∀ L' σ' s' N', IC L' σ' s' N' → IR L' σ' s' → At X L' σ' (mc + 20) (ms + 300) [(0, .ref b), (1, .ref (L'.1 100)), (2, .ref (L'.1 0)), (3, .int (nI i))] 1542 []) : At X L σ mc ms [(0, .ref b), (1, .ref (L.1 100)), (2, .ref (L.1 0)), (3, .int (nI i))] 546 [] := by
  refine r_aload_n hX dL_law_546 rfl ?_
  refine r_aload_n hX dL_law_547 rfl ?_
  refine r_iload_n hX dL_law_548 rfl ?_
  refine r_iconst hX (nI 1) dL_law_549 rfl ?_
  refine r_iaddN hX dL_law_550 ?_
  refine r_sld hX hS (by omega) (by omega) dL_law_551 ?_
  refine r_callVNI (As := [.int (f (i + 1))]) (rest := []) hX (k_drop hE hC  (f (i + 1))) dL_law_552 cb_L_56 (hC.1.1.1 100 _ rfl) rfl rfl ⟨Nat.le_of_ble_eq_true rfl, Nat.le_of_ble_eq_true rfl⟩ ⟨by show mc + 0 ≤ 600000; omega, by show ms + 0 ≤ 7302250; omega⟩ (Nat.le_of_ble_eq_true rfl) (fun r L2 σ2 h => ?_)
  obtain ⟨rfl, ⟨N2, hC2⟩, hLo⟩ := h
  have hR2 := hR.lo hLo
  refine At.to (ls' := [(0, .ref b), (1, .ref (L2.1 100)), (2, .ref (L2.1 0)), (3, .int (nI i))]) (st' := [.int ((oDrop s.1 (f (i + 1))).1)]) ?_ (by rw [hLo.2.1, (hLo.1 0 (by decide)).1]) rfl rfl
  refine r_aload_n hX dL_law_555 rfl ?_
  refine r_aload_n hX dL_law_556 rfl ?_
  refine r_iload_n hX dL_law_557 rfl ?_
  refine r_iconst hX (nI 1) dL_law_558 rfl ?_
  refine r_iaddN hX dL_law_559 ?_
  refine r_sld hX hS (by omega) (by omega) dL_law_560 ?_
  refine r_callVNI (As := [.int (f (i + 1))]) (rest := [.int ((oDrop s.1 (f (i + 1))).1)]) hX (j_drop hE hC.2.2.1 hR2 (f (i + 1))) dL_law_561 cb_L_59 (hR2.1.1 0 _ rfl) rfl rfl ⟨Nat.le_of_ble_eq_true rfl, Nat.le_of_ble_eq_true rfl⟩ ⟨by show mc + 0 + 0 ≤ 600000; omega, by show ms + 0 + 0 ≤ 7302250; omega⟩ (Nat.le_of_ble_eq_true rfl) (fun r L3 σ3 h => ?_)
  obtain ⟨rfl, hL3, hR3, hHi⟩ := h
  replace hL3 := hL3.symm
  subst hL3
  have hC3 := hC2.hi hHi
  refine r_icmp_eq hX dL_law_564 (fun _ => ?_) (fun c => absurd rfl c)
  exact At.more (kk _ _ _ _ hC3 hR3) (by show mc + 0 + 0 ≤ mc + 20; omega) (by show ms + 0 + 0 ≤ ms + 300; omega)

set_option maxHeartbeats 4000000 in
theorem lw_c11 {X : Cx} {nm : String} (hX : Ok X cL_law RL nm { frames := 2048, cells := 600000, slots := 7302250, locals := 84000 } (some .boolean)) (hE : LE (xD X)) {b n : Nat} {f : Nat → Int32} (hS : SX X b n f) (i : Nat) (hi : i + 6 ≤ n) (hn : n ≤ 3072) {L : La} {σ : Me} {s : Sx} {N : Nat} (hC : IC L σ s N) (hR : IR L σ s) (mc ms : Nat) (hmc : mc + 20 ≤ 600000) (hms : ms + 300 ≤ 7302250) (kk : ∀ L' σ' s' N', IC L' σ' s' N' → IR L' σ' s' → At X L' σ' (mc + 20) (ms + 300) [(0, .ref b), (1, .ref (L'.1 100)), (2, .ref (L'.1 0)), (3, .int (nI i))] 1542 []) : At X L σ mc ms [(0, .ref b), (1, .ref (L.1 100)), (2, .ref (L.1 0)), (3, .int (nI i))] 569 [] := by
  refine r_aload_n hX dL_law_569 rfl ?_
  refine r_aload_n hX dL_law_570 rfl ?_
  refine r_iload_n hX dL_law_571 rfl ?_
  refine r_iconst hX (nI 1) dL_law_572 rfl ?_
  refine r_iaddN hX dL_law_573 ?_
  refine r_sld hX hS (by omega) (by omega) dL_law_574 ?_
  refine r_aload_n hX dL_law_575 rfl ?_
  refine r_iload_n hX dL_law_576 rfl ?_
  refine r_iconst hX (nI 2) dL_law_577 rfl ?_
  refine r_iaddN hX dL_law_578 ?_
  refine r_sld hX hS (by omega) (by omega) dL_law_579 ?_
  refine r_callVNI (As := [.int (f (i + 1)), .int (f (i + 2))]) (rest := []) hX (k_mean hE hC  (f (i + 1)) (f (i + 2))) dL_law_580 cb_L_60 (hC.1.1.1 100 _ rfl) rfl rfl ⟨Nat.le_of_ble_eq_true rfl, Nat.le_of_ble_eq_true rfl⟩ ⟨by show mc + 0 ≤ 600000; omega, by show ms + 0 ≤ 7302250; omega⟩ (Nat.le_of_ble_eq_true rfl) (fun r L2 σ2 h => ?_)
  obtain ⟨rfl, ⟨N2, hC2⟩, hLo⟩ := h
  have hR2 := hR.lo hLo
  refine At.to (ls' := [(0, .ref b), (1, .ref (L2.1 100)), (2, .ref (L2.1 0)), (3, .int (nI i))]) (st' := [.int (oMean s.1 (f (i + 1)) (f (i + 2)))]) ?_ (by rw [hLo.2.1, (hLo.1 0 (by decide)).1]) rfl rfl
  refine r_aload_n hX dL_law_583 rfl ?_
  refine r_aload_n hX dL_law_584 rfl ?_
  refine r_iload_n hX dL_law_585 rfl ?_
  refine r_iconst hX (nI 1) dL_law_586 rfl ?_
  refine r_iaddN hX dL_law_587 ?_
  refine r_sld hX hS (by omega) (by omega) dL_law_588 ?_
  refine r_aload_n hX dL_law_589 rfl ?_
  refine r_iload_n hX dL_law_590 rfl ?_
  refine r_iconst hX (nI 2) dL_law_591 rfl ?_
  refine r_iaddN hX dL_law_592 ?_
  refine r_sld hX hS (by omega) (by omega) dL_law_593 ?_
  refine r_callVNI (As := [.int (f (i + 1)), .int (f (i + 2))]) (rest := [.int (oMean s.1 (f (i + 1)) (f (i + 2)))]) hX (j_mean hE hC.2.2.1 hR2 (f (i + 1)) (f (i + 2))) dL_law_594 cb_L_63 (hR2.1.1 0 _ rfl) rfl rfl ⟨Nat.le_of_ble_eq_true rfl, Nat.le_of_ble_eq_true rfl⟩ ⟨by show mc + 0 + 0 ≤ 600000; omega, by show ms + 0 + 0 ≤ 7302250; omega⟩ (Nat.le_of_ble_eq_true rfl) (fun r L3 σ3 h => ?_)
  obtain ⟨rfl, hL3, hR3, hHi⟩ := h
  replace hL3 := hL3.symm
  subst hL3
  have hC3 := hC2.hi hHi
  refine r_icmp_eq hX dL_law_597 (fun _ => ?_) (fun c => absurd rfl c)
  exact At.more (kk _ _ _ _ hC3 hR3) (by show mc + 0 + 0 ≤ mc + 20; omega) (by show ms + 0 + 0 ≤ ms + 300; omega)

set_option maxHeartbeats 4000000 in
theorem lw_c12 {X : Cx} {nm : String} (hX : Ok X cL_law RL nm { frames := 2048, cells := 600000, slots := 7302250, locals := 84000 } (some .boolean)) (hE : LE (xD X)) {b n : Nat} {f : Nat → Int32} (hS : SX X b n f) (i : Nat) (hi : i + 6 ≤ n) (hn : n ≤ 3072) {L : La} {σ : Me} {s : Sx} {N : Nat} (hC : IC L σ s N) (hR : IR L σ s) (mc ms : Nat) (hmc : mc + 20 ≤ 600000) (hms : ms + 300 ≤ 7302250) (kk : ∀ L' σ' s' N', IC L' σ' s' N' → IR L' σ' s' → At X L' σ' (mc + 20) (ms + 300) [(0, .ref b), (1, .ref (L'.1 100)), (2, .ref (L'.1 0)), (3, .int (nI i))] 1542 []) : At X L σ mc ms [(0, .ref b), (1, .ref (L.1 100)), (2, .ref (L.1 0)), (3, .int (nI i))] 602 [] := by
  refine r_aload_n hX dL_law_602 rfl ?_
  refine r_aload_n hX dL_law_603 rfl ?_
  refine r_iload_n hX dL_law_604 rfl ?_
  refine r_iconst hX (nI 1) dL_law_605 rfl ?_
  refine r_iaddN hX dL_law_606 ?_
  refine r_sld hX hS (by omega) (by omega) dL_law_607 ?_
  refine r_callVNI (As := [.int (f (i + 1))]) (rest := []) hX (k_shelf hE hC  (f (i + 1))) dL_law_608 cb_L_64 (hC.1.1.1 100 _ rfl) rfl rfl ⟨Nat.le_of_ble_eq_true rfl, Nat.le_of_ble_eq_true rfl⟩ ⟨by show mc + 0 ≤ 600000; omega, by show ms + 0 ≤ 7302250; omega⟩ (Nat.le_of_ble_eq_true rfl) (fun r L2 σ2 h => ?_)
  obtain ⟨rfl, ⟨N2, hC2⟩, hLo⟩ := h
  have hR2 := hR.lo hLo
  refine At.to (ls' := [(0, .ref b), (1, .ref (L2.1 100)), (2, .ref (L2.1 0)), (3, .int (nI i))]) (st' := [.int (oShelf s.1 (f (i + 1)))]) ?_ (by rw [hLo.2.1, (hLo.1 0 (by decide)).1]) rfl rfl
  refine r_aload_n hX dL_law_611 rfl ?_
  refine r_aload_n hX dL_law_612 rfl ?_
  refine r_iload_n hX dL_law_613 rfl ?_
  refine r_iconst hX (nI 1) dL_law_614 rfl ?_
  refine r_iaddN hX dL_law_615 ?_
  refine r_sld hX hS (by omega) (by omega) dL_law_616 ?_
  refine r_callVNI (As := [.int (f (i + 1))]) (rest := [.int (oShelf s.1 (f (i + 1)))]) hX (j_shelf hE hC.2.2.1 hR2 (f (i + 1))) dL_law_617 cb_L_67 (hR2.1.1 0 _ rfl) rfl rfl ⟨Nat.le_of_ble_eq_true rfl, Nat.le_of_ble_eq_true rfl⟩ ⟨by show mc + 0 + 0 ≤ 600000; omega, by show ms + 0 + 0 ≤ 7302250; omega⟩ (Nat.le_of_ble_eq_true rfl) (fun r L3 σ3 h => ?_)
  obtain ⟨rfl, hL3, hR3, hHi⟩ := h
  replace hL3 := hL3.symm
  subst hL3
  have hC3 := hC2.hi hHi
  refine r_icmp_eq hX dL_law_620 (fun _ => ?_) (fun c => absurd rfl c)
  exact At.more (kk _ _ _ _ hC3 hR3) (by show mc + 0 + 0 ≤ mc + 20; omega) (by show ms + 0 + 0 ≤ ms + 300; omega)

set_option maxHeartbeats 4000000 in
theorem lw_c13 {X : Cx} {nm : String} (hX : Ok X cL_law RL nm { frames := 2048, cells := 600000, slots := 7302250, locals := 84000 } (some .boolean)) (hE : LE (xD X)) {b n : Nat} {f : Nat → Int32} (hS : SX X b n f) (i : Nat) (hi : i + 6 ≤ n) (hn : n ≤ 3072) {L : La} {σ : Me} {s : Sx} {N : Nat} (hC : IC L σ s N) (hR : IR L σ s) (mc ms : Nat) (hmc : mc + 20 ≤ 600000) (hms : ms + 300 ≤ 7302250) (kk : ∀ L' σ' s' N', IC L' σ' s' N' → IR L' σ' s' → At X L' σ' (mc + 20) (ms + 300) [(0, .ref b), (1, .ref (L'.1 100)), (2, .ref (L'.1 0)), (3, .int (nI i))] 1542 []) : At X L σ mc ms [(0, .ref b), (1, .ref (L.1 100)), (2, .ref (L.1 0)), (3, .int (nI i))] 625 [] := by
  refine r_aload_n hX dL_law_625 rfl ?_
  refine r_aload_n hX dL_law_626 rfl ?_
  refine r_iload_n hX dL_law_627 rfl ?_
  refine r_iconst hX (nI 1) dL_law_628 rfl ?_
  refine r_iaddN hX dL_law_629 ?_
  refine r_sld hX hS (by omega) (by omega) dL_law_630 ?_
  refine r_aload_n hX dL_law_631 rfl ?_
  refine r_iload_n hX dL_law_632 rfl ?_
  refine r_iconst hX (nI 2) dL_law_633 rfl ?_
  refine r_iaddN hX dL_law_634 ?_
  refine r_sld hX hS (by omega) (by omega) dL_law_635 ?_
  refine r_aload_n hX dL_law_636 rfl ?_
  refine r_iload_n hX dL_law_637 rfl ?_
  refine r_iconst hX (nI 3) dL_law_638 rfl ?_
  refine r_iaddN hX dL_law_639 ?_
  refine r_sld hX hS (by omega) (by omega) dL_law_640 ?_
  refine r_callVNI (As := [.int (f (i + 1)), .int (f (i + 2)), .int (f (i + 3))]) (rest := []) hX (k_alike hE hC  (f (i + 1)) (f (i + 2)) (f (i + 3))) dL_law_641 cb_L_68 (hC.1.1.1 100 _ rfl) rfl rfl ⟨Nat.le_of_ble_eq_true rfl, Nat.le_of_ble_eq_true rfl⟩ ⟨by show mc + 0 ≤ 600000; omega, by show ms + 0 ≤ 7302250; omega⟩ (Nat.le_of_ble_eq_true rfl) (fun r L2 σ2 h => ?_)
  obtain ⟨rfl, ⟨N2, hC2⟩, hLo⟩ := h
  have hR2 := hR.lo hLo
  refine At.to (ls' := [(0, .ref b), (1, .ref (L2.1 100)), (2, .ref (L2.1 0)), (3, .int (nI i))]) (st' := [.int ((oAlike s.1 (f (i + 1)) (f (i + 2)) (f (i + 3))))]) ?_ (by rw [hLo.2.1, (hLo.1 0 (by decide)).1]) rfl rfl
  refine r_aload_n hX dL_law_644 rfl ?_
  refine r_aload_n hX dL_law_645 rfl ?_
  refine r_iload_n hX dL_law_646 rfl ?_
  refine r_iconst hX (nI 1) dL_law_647 rfl ?_
  refine r_iaddN hX dL_law_648 ?_
  refine r_sld hX hS (by omega) (by omega) dL_law_649 ?_
  refine r_aload_n hX dL_law_650 rfl ?_
  refine r_iload_n hX dL_law_651 rfl ?_
  refine r_iconst hX (nI 2) dL_law_652 rfl ?_
  refine r_iaddN hX dL_law_653 ?_
  refine r_sld hX hS (by omega) (by omega) dL_law_654 ?_
  refine r_aload_n hX dL_law_655 rfl ?_
  refine r_iload_n hX dL_law_656 rfl ?_
  refine r_iconst hX (nI 3) dL_law_657 rfl ?_
  refine r_iaddN hX dL_law_658 ?_
  refine r_sld hX hS (by omega) (by omega) dL_law_659 ?_
  refine r_callVNI (As := [.int (f (i + 1)), .int (f (i + 2)), .int (f (i + 3))]) (rest := [.int ((oAlike s.1 (f (i + 1)) (f (i + 2)) (f (i + 3))))]) hX (j_alike hE hC.2.2.1 hR2 (f (i + 1)) (f (i + 2)) (f (i + 3))) dL_law_660 cb_L_71 (hR2.1.1 0 _ rfl) rfl rfl ⟨Nat.le_of_ble_eq_true rfl, Nat.le_of_ble_eq_true rfl⟩ ⟨by show mc + 0 + 0 ≤ 600000; omega, by show ms + 0 + 0 ≤ 7302250; omega⟩ (Nat.le_of_ble_eq_true rfl) (fun r L3 σ3 h => ?_)
  obtain ⟨rfl, hL3, hR3, hHi⟩ := h
  replace hL3 := hL3.symm
  subst hL3
  have hC3 := hC2.hi hHi
  refine r_icmp_eq hX dL_law_663 (fun _ => ?_) (fun c => absurd rfl c)
  exact At.more (kk _ _ _ _ hC3 hR3) (by show mc + 0 + 0 ≤ mc + 20; omega) (by show ms + 0 + 0 ≤ ms + 300; omega)

set_option maxHeartbeats 4000000 in
theorem lw_c14 {X : Cx} {nm : String} (hX : Ok X cL_law RL nm { frames := 2048, cells := 600000, slots := 7302250, locals := 84000 } (some .boolean)) (hE : LE (xD X)) {b n : Nat} {f : Nat → Int32} (hS : SX X b n f) (i : Nat) (hi : i + 6 ≤ n) (hn : n ≤ 3072) {L : La} {σ : Me} {s : Sx} {N : Nat} (hC : IC L σ s N) (hR : IR L σ s) (mc ms : Nat) (hmc : mc + 20 ≤ 600000) (hms : ms + 300 ≤ 7302250) (kk : ∀ L' σ' s' N', IC L' σ' s' N' → IR L' σ' s' → At X L' σ' (mc + 20) (ms + 300) [(0, .ref b), (1, .ref (L'.1 100)), (2, .ref (L'.1 0)), (3, .int (nI i))] 1542 []) : At X L σ mc ms [(0, .ref b), (1, .ref (L.1 100)), (2, .ref (L.1 0)), (3, .int (nI i))] 668 [] := by
  refine r_aload_n hX dL_law_668 rfl ?_
  refine r_aload_n hX dL_law_669 rfl ?_
  refine r_iload_n hX dL_law_670 rfl ?_
  refine r_iconst hX (nI 1) dL_law_671 rfl ?_
  refine r_iaddN hX dL_law_672 ?_
  refine r_sld hX hS (by omega) (by omega) dL_law_673 ?_
  refine r_aload_n hX dL_law_674 rfl ?_
  refine r_iload_n hX dL_law_675 rfl ?_
  refine r_iconst hX (nI 2) dL_law_676 rfl ?_
  refine r_iaddN hX dL_law_677 ?_
  refine r_sld hX hS (by omega) (by omega) dL_law_678 ?_
  refine r_callVNI (As := [.int (f (i + 1)), .int (f (i + 2))]) (rest := []) hX (k_group hE hC  (f (i + 1)) (f (i + 2))) dL_law_679 cb_L_72 (hC.1.1.1 100 _ rfl) rfl rfl ⟨Nat.le_of_ble_eq_true rfl, Nat.le_of_ble_eq_true rfl⟩ ⟨by show mc + 0 ≤ 600000; omega, by show ms + 0 ≤ 7302250; omega⟩ (Nat.le_of_ble_eq_true rfl) (fun r L2 σ2 h => ?_)
  obtain ⟨rfl, ⟨N2, hC2⟩, hLo⟩ := h
  have hR2 := hR.lo hLo
  refine At.to (ls' := [(0, .ref b), (1, .ref (L2.1 100)), (2, .ref (L2.1 0)), (3, .int (nI i))]) (st' := [.int (oGroup s.1 (f (i + 1)) (f (i + 2)))]) ?_ (by rw [hLo.2.1, (hLo.1 0 (by decide)).1]) rfl rfl
  refine r_aload_n hX dL_law_682 rfl ?_
  refine r_aload_n hX dL_law_683 rfl ?_
  refine r_iload_n hX dL_law_684 rfl ?_
  refine r_iconst hX (nI 1) dL_law_685 rfl ?_
  refine r_iaddN hX dL_law_686 ?_
  refine r_sld hX hS (by omega) (by omega) dL_law_687 ?_
  refine r_aload_n hX dL_law_688 rfl ?_
  refine r_iload_n hX dL_law_689 rfl ?_
  refine r_iconst hX (nI 2) dL_law_690 rfl ?_
  refine r_iaddN hX dL_law_691 ?_
  refine r_sld hX hS (by omega) (by omega) dL_law_692 ?_
  refine r_callVNI (As := [.int (f (i + 1)), .int (f (i + 2))]) (rest := [.int (oGroup s.1 (f (i + 1)) (f (i + 2)))]) hX (j_group hE hC.2.2.1 hR2 (f (i + 1)) (f (i + 2))) dL_law_693 cb_L_75 (hR2.1.1 0 _ rfl) rfl rfl ⟨Nat.le_of_ble_eq_true rfl, Nat.le_of_ble_eq_true rfl⟩ ⟨by show mc + 0 + 0 ≤ 600000; omega, by show ms + 0 + 0 ≤ 7302250; omega⟩ (Nat.le_of_ble_eq_true rfl) (fun r L3 σ3 h => ?_)
  obtain ⟨rfl, hL3, hR3, hHi⟩ := h
  replace hL3 := hL3.symm
  subst hL3
  have hC3 := hC2.hi hHi
  refine r_icmp_eq hX dL_law_696 (fun _ => ?_) (fun c => absurd rfl c)
  exact At.more (kk _ _ _ _ hC3 hR3) (by show mc + 0 + 0 ≤ mc + 20; omega) (by show ms + 0 + 0 ≤ ms + 300; omega)

set_option maxHeartbeats 4000000 in
theorem lw_c15 {X : Cx} {nm : String} (hX : Ok X cL_law RL nm { frames := 2048, cells := 600000, slots := 7302250, locals := 84000 } (some .boolean)) (hE : LE (xD X)) {b n : Nat} {f : Nat → Int32} (hS : SX X b n f) (i : Nat) (hi : i + 6 ≤ n) (hn : n ≤ 3072) {L : La} {σ : Me} {s : Sx} {N : Nat} (hC : IC L σ s N) (hR : IR L σ s) (mc ms : Nat) (hmc : mc + 20 ≤ 600000) (hms : ms + 300 ≤ 7302250) (kk : ∀ L' σ' s' N', IC L' σ' s' N' → IR L' σ' s' → At X L' σ' (mc + 20) (ms + 300) [(0, .ref b), (1, .ref (L'.1 100)), (2, .ref (L'.1 0)), (3, .int (nI i))] 1542 []) : At X L σ mc ms [(0, .ref b), (1, .ref (L.1 100)), (2, .ref (L.1 0)), (3, .int (nI i))] 701 [] := by
  refine r_aload_n hX dL_law_701 rfl ?_
  refine r_aload_n hX dL_law_702 rfl ?_
  refine r_iload_n hX dL_law_703 rfl ?_
  refine r_iconst hX (nI 1) dL_law_704 rfl ?_
  refine r_iaddN hX dL_law_705 ?_
  refine r_sld hX hS (by omega) (by omega) dL_law_706 ?_
  refine r_aload_n hX dL_law_707 rfl ?_
  refine r_iload_n hX dL_law_708 rfl ?_
  refine r_iconst hX (nI 2) dL_law_709 rfl ?_
  refine r_iaddN hX dL_law_710 ?_
  refine r_sld hX hS (by omega) (by omega) dL_law_711 ?_
  refine r_callVNI (As := [.int (f (i + 1)), .int (f (i + 2))]) (rest := []) hX (k_wave hE hC  (f (i + 1)) (f (i + 2))) dL_law_712 cb_L_76 (hC.1.1.1 100 _ rfl) rfl rfl ⟨Nat.le_of_ble_eq_true rfl, Nat.le_of_ble_eq_true rfl⟩ ⟨by show mc + 0 ≤ 600000; omega, by show ms + 0 ≤ 7302250; omega⟩ (Nat.le_of_ble_eq_true rfl) (fun r L2 σ2 h => ?_)
  obtain ⟨rfl, ⟨N2, hC2⟩, hLo⟩ := h
  have hR2 := hR.lo hLo
  refine At.to (ls' := [(0, .ref b), (1, .ref (L2.1 100)), (2, .ref (L2.1 0)), (3, .int (nI i))]) (st' := [.int ((oWave s.1 (f (i + 1)) (f (i + 2))))]) ?_ (by rw [hLo.2.1, (hLo.1 0 (by decide)).1]) rfl rfl
  refine r_aload_n hX dL_law_715 rfl ?_
  refine r_aload_n hX dL_law_716 rfl ?_
  refine r_iload_n hX dL_law_717 rfl ?_
  refine r_iconst hX (nI 1) dL_law_718 rfl ?_
  refine r_iaddN hX dL_law_719 ?_
  refine r_sld hX hS (by omega) (by omega) dL_law_720 ?_
  refine r_aload_n hX dL_law_721 rfl ?_
  refine r_iload_n hX dL_law_722 rfl ?_
  refine r_iconst hX (nI 2) dL_law_723 rfl ?_
  refine r_iaddN hX dL_law_724 ?_
  refine r_sld hX hS (by omega) (by omega) dL_law_725 ?_
  refine r_callVNI (As := [.int (f (i + 1)), .int (f (i + 2))]) (rest := [.int ((oWave s.1 (f (i + 1)) (f (i + 2))))]) hX (j_wave hE hC.2.2.1 hR2 (f (i + 1)) (f (i + 2))) dL_law_726 cb_L_79 (hR2.1.1 0 _ rfl) rfl rfl ⟨Nat.le_of_ble_eq_true rfl, Nat.le_of_ble_eq_true rfl⟩ ⟨by show mc + 0 + 0 ≤ 600000; omega, by show ms + 0 + 0 ≤ 7302250; omega⟩ (Nat.le_of_ble_eq_true rfl) (fun r L3 σ3 h => ?_)
  obtain ⟨rfl, hL3, hR3, hHi⟩ := h
  replace hL3 := hL3.symm
  subst hL3
  have hC3 := hC2.hi hHi
  refine r_icmp_eq hX dL_law_729 (fun _ => ?_) (fun c => absurd rfl c)
  exact At.more (kk _ _ _ _ hC3 hR3) (by show mc + 0 + 0 ≤ mc + 20; omega) (by show ms + 0 + 0 ≤ ms + 300; omega)

set_option maxHeartbeats 4000000 in
theorem lw_c16 {X : Cx} {nm : String} (hX : Ok X cL_law RL nm { frames := 2048, cells := 600000, slots := 7302250, locals := 84000 } (some .boolean)) (hE : LE (xD X)) {b n : Nat} {f : Nat → Int32} (hS : SX X b n f) (i : Nat) (hi : i + 6 ≤ n) (hn : n ≤ 3072) {L : La} {σ : Me} {s : Sx} {N : Nat} (hC : IC L σ s N) (hR : IR L σ s) (mc ms : Nat) (hmc : mc + 20 ≤ 600000) (hms : ms + 300 ≤ 7302250) (kk : ∀ L' σ' s' N', IC L' σ' s' N' → IR L' σ' s' → At X L' σ' (mc + 20) (ms + 300) [(0, .ref b), (1, .ref (L'.1 100)), (2, .ref (L'.1 0)), (3, .int (nI i))] 1542 []) : At X L σ mc ms [(0, .ref b), (1, .ref (L.1 100)), (2, .ref (L.1 0)), (3, .int (nI i))] 734 [] := by
  refine r_aload_n hX dL_law_734 rfl ?_
  refine r_aload_n hX dL_law_735 rfl ?_
  refine r_iload_n hX dL_law_736 rfl ?_
  refine r_iconst hX (nI 1) dL_law_737 rfl ?_
  refine r_iaddN hX dL_law_738 ?_
  refine r_sld hX hS (by omega) (by omega) dL_law_739 ?_
  refine r_aload_n hX dL_law_740 rfl ?_
  refine r_iload_n hX dL_law_741 rfl ?_
  refine r_iconst hX (nI 2) dL_law_742 rfl ?_
  refine r_iaddN hX dL_law_743 ?_
  refine r_sld hX hS (by omega) (by omega) dL_law_744 ?_
  refine r_callVNI (As := [.int (f (i + 1)), .int (f (i + 2))]) (rest := []) hX (k_changed hE hC  (f (i + 1)) (f (i + 2))) dL_law_745 cb_L_80 (hC.1.1.1 100 _ rfl) rfl rfl ⟨Nat.le_of_ble_eq_true rfl, Nat.le_of_ble_eq_true rfl⟩ ⟨by show mc + 0 ≤ 600000; omega, by show ms + 0 ≤ 7302250; omega⟩ (Nat.le_of_ble_eq_true rfl) (fun r L2 σ2 h => ?_)
  obtain ⟨rfl, ⟨N2, hC2⟩, hLo⟩ := h
  have hR2 := hR.lo hLo
  refine At.to (ls' := [(0, .ref b), (1, .ref (L2.1 100)), (2, .ref (L2.1 0)), (3, .int (nI i))]) (st' := [.int ((oChanged s.1 (f (i + 1)) (f (i + 2))))]) ?_ (by rw [hLo.2.1, (hLo.1 0 (by decide)).1]) rfl rfl
  refine r_aload_n hX dL_law_748 rfl ?_
  refine r_aload_n hX dL_law_749 rfl ?_
  refine r_iload_n hX dL_law_750 rfl ?_
  refine r_iconst hX (nI 1) dL_law_751 rfl ?_
  refine r_iaddN hX dL_law_752 ?_
  refine r_sld hX hS (by omega) (by omega) dL_law_753 ?_
  refine r_aload_n hX dL_law_754 rfl ?_
  refine r_iload_n hX dL_law_755 rfl ?_
  refine r_iconst hX (nI 2) dL_law_756 rfl ?_
  refine r_iaddN hX dL_law_757 ?_
  refine r_sld hX hS (by omega) (by omega) dL_law_758 ?_
  refine r_callVNI (As := [.int (f (i + 1)), .int (f (i + 2))]) (rest := [.int ((oChanged s.1 (f (i + 1)) (f (i + 2))))]) hX (j_changed hE hC.2.2.1 hR2 (f (i + 1)) (f (i + 2))) dL_law_759 cb_L_83 (hR2.1.1 0 _ rfl) rfl rfl ⟨Nat.le_of_ble_eq_true rfl, Nat.le_of_ble_eq_true rfl⟩ ⟨by show mc + 0 + 0 ≤ 600000; omega, by show ms + 0 + 0 ≤ 7302250; omega⟩ (Nat.le_of_ble_eq_true rfl) (fun r L3 σ3 h => ?_)
  obtain ⟨rfl, hL3, hR3, hHi⟩ := h
  replace hL3 := hL3.symm
  subst hL3
  have hC3 := hC2.hi hHi
  refine r_icmp_eq hX dL_law_762 (fun _ => ?_) (fun c => absurd rfl c)
  exact At.more (kk _ _ _ _ hC3 hR3) (by show mc + 0 + 0 ≤ mc + 20; omega) (by show ms + 0 + 0 ≤ ms + 300; omega)

set_option maxHeartbeats 4000000 in
theorem lw_c17 {X : Cx} {nm : String} (hX : Ok X cL_law RL nm { frames := 2048, cells := 600000, slots := 7302250, locals := 84000 } (some .boolean)) (hE : LE (xD X)) {b n : Nat} {f : Nat → Int32} (hS : SX X b n f) (i : Nat) (hi : i + 6 ≤ n) (hn : n ≤ 3072) {L : La} {σ : Me} {s : Sx} {N : Nat} (hC : IC L σ s N) (hR : IR L σ s) (mc ms : Nat) (hmc : mc + 20 ≤ 600000) (hms : ms + 300 ≤ 7302250) (kk : ∀ L' σ' s' N', IC L' σ' s' N' → IR L' σ' s' → At X L' σ' (mc + 20) (ms + 300) [(0, .ref b), (1, .ref (L'.1 100)), (2, .ref (L'.1 0)), (3, .int (nI i))] 1542 []) : At X L σ mc ms [(0, .ref b), (1, .ref (L.1 100)), (2, .ref (L.1 0)), (3, .int (nI i))] 767 [] := by
  refine r_aload_n hX dL_law_767 rfl ?_
  refine r_aload_n hX dL_law_768 rfl ?_
  refine r_iload_n hX dL_law_769 rfl ?_
  refine r_iconst hX (nI 1) dL_law_770 rfl ?_
  refine r_iaddN hX dL_law_771 ?_
  refine r_sld hX hS (by omega) (by omega) dL_law_772 ?_
  refine r_aload_n hX dL_law_773 rfl ?_
  refine r_iload_n hX dL_law_774 rfl ?_
  refine r_iconst hX (nI 2) dL_law_775 rfl ?_
  refine r_iaddN hX dL_law_776 ?_
  refine r_sld hX hS (by omega) (by omega) dL_law_777 ?_
  refine r_callVNI (As := [.int (f (i + 1)), .int (f (i + 2))]) (rest := []) hX (k_off hE hC  (f (i + 1)) (f (i + 2))) dL_law_778 cb_L_84 (hC.1.1.1 100 _ rfl) rfl rfl ⟨Nat.le_of_ble_eq_true rfl, Nat.le_of_ble_eq_true rfl⟩ ⟨by show mc + 0 ≤ 600000; omega, by show ms + 0 ≤ 7302250; omega⟩ (Nat.le_of_ble_eq_true rfl) (fun r L2 σ2 h => ?_)
  obtain ⟨rfl, ⟨N2, hC2⟩, hLo⟩ := h
  have hR2 := hR.lo hLo
  refine At.to (ls' := [(0, .ref b), (1, .ref (L2.1 100)), (2, .ref (L2.1 0)), (3, .int (nI i))]) (st' := [.int (oOff s.1 (f (i + 1)) (f (i + 2)))]) ?_ (by rw [hLo.2.1, (hLo.1 0 (by decide)).1]) rfl rfl
  refine r_aload_n hX dL_law_781 rfl ?_
  refine r_aload_n hX dL_law_782 rfl ?_
  refine r_iload_n hX dL_law_783 rfl ?_
  refine r_iconst hX (nI 1) dL_law_784 rfl ?_
  refine r_iaddN hX dL_law_785 ?_
  refine r_sld hX hS (by omega) (by omega) dL_law_786 ?_
  refine r_aload_n hX dL_law_787 rfl ?_
  refine r_iload_n hX dL_law_788 rfl ?_
  refine r_iconst hX (nI 2) dL_law_789 rfl ?_
  refine r_iaddN hX dL_law_790 ?_
  refine r_sld hX hS (by omega) (by omega) dL_law_791 ?_
  refine r_callVNI (As := [.int (f (i + 1)), .int (f (i + 2))]) (rest := [.int (oOff s.1 (f (i + 1)) (f (i + 2)))]) hX (j_off hE hC.2.2.1 hR2 (f (i + 1)) (f (i + 2))) dL_law_792 cb_L_87 (hR2.1.1 0 _ rfl) rfl rfl ⟨Nat.le_of_ble_eq_true rfl, Nat.le_of_ble_eq_true rfl⟩ ⟨by show mc + 0 + 0 ≤ 600000; omega, by show ms + 0 + 0 ≤ 7302250; omega⟩ (Nat.le_of_ble_eq_true rfl) (fun r L3 σ3 h => ?_)
  obtain ⟨rfl, hL3, hR3, hHi⟩ := h
  replace hL3 := hL3.symm
  subst hL3
  have hC3 := hC2.hi hHi
  refine r_icmp_eq hX dL_law_795 (fun _ => ?_) (fun c => absurd rfl c)
  exact At.more (kk _ _ _ _ hC3 hR3) (by show mc + 0 + 0 ≤ mc + 20; omega) (by show ms + 0 + 0 ≤ ms + 300; omega)

set_option maxHeartbeats 4000000 in
theorem lw_c18 {X : Cx} {nm : String} (hX : Ok X cL_law RL nm { frames := 2048, cells := 600000, slots := 7302250, locals := 84000 } (some .boolean)) (hE : LE (xD X)) {b n : Nat} {f : Nat → Int32} (hS : SX X b n f) (i : Nat) (hi : i + 6 ≤ n) (hn : n ≤ 3072) {L : La} {σ : Me} {s : Sx} {N : Nat} (hC : IC L σ s N) (hR : IR L σ s) (mc ms : Nat) (hmc : mc + 20 ≤ 600000) (hms : ms + 300 ≤ 7302250) (kk : ∀ L' σ' s' N', IC L' σ' s' N' → IR L' σ' s' → At X L' σ' (mc + 20) (ms + 300) [(0, .ref b), (1, .ref (L'.1 100)), (2, .ref (L'.1 0)), (3, .int (nI i))] 1542 []) : At X L σ mc ms [(0, .ref b), (1, .ref (L.1 100)), (2, .ref (L.1 0)), (3, .int (nI i))] 800 [] := by
  refine r_aload_n hX dL_law_800 rfl ?_
  refine r_aload_n hX dL_law_801 rfl ?_
  refine r_iload_n hX dL_law_802 rfl ?_
  refine r_iconst hX (nI 1) dL_law_803 rfl ?_
  refine r_iaddN hX dL_law_804 ?_
  refine r_sld hX hS (by omega) (by omega) dL_law_805 ?_
  refine r_callVNI (As := [.int (f (i + 1))]) (rest := []) hX (k_bound hE hC  (f (i + 1))) dL_law_806 cb_L_88 (hC.1.1.1 100 _ rfl) rfl rfl ⟨Nat.le_of_ble_eq_true rfl, Nat.le_of_ble_eq_true rfl⟩ ⟨by show mc + 0 ≤ 600000; omega, by show ms + 0 ≤ 7302250; omega⟩ (Nat.le_of_ble_eq_true rfl) (fun r L2 σ2 h => ?_)
  obtain ⟨rfl, ⟨N2, hC2⟩, hLo⟩ := h
  have hR2 := hR.lo hLo
  refine At.to (ls' := [(0, .ref b), (1, .ref (L2.1 100)), (2, .ref (L2.1 0)), (3, .int (nI i))]) (st' := [.int (oBound s.1 (f (i + 1)))]) ?_ (by rw [hLo.2.1, (hLo.1 0 (by decide)).1]) rfl rfl
  refine r_aload_n hX dL_law_809 rfl ?_
  refine r_aload_n hX dL_law_810 rfl ?_
  refine r_iload_n hX dL_law_811 rfl ?_
  refine r_iconst hX (nI 1) dL_law_812 rfl ?_
  refine r_iaddN hX dL_law_813 ?_
  refine r_sld hX hS (by omega) (by omega) dL_law_814 ?_
  refine r_callVNI (As := [.int (f (i + 1))]) (rest := [.int (oBound s.1 (f (i + 1)))]) hX (j_bound hE hC.2.2.1 hR2 (f (i + 1))) dL_law_815 cb_L_91 (hR2.1.1 0 _ rfl) rfl rfl ⟨Nat.le_of_ble_eq_true rfl, Nat.le_of_ble_eq_true rfl⟩ ⟨by show mc + 0 + 0 ≤ 600000; omega, by show ms + 0 + 0 ≤ 7302250; omega⟩ (Nat.le_of_ble_eq_true rfl) (fun r L3 σ3 h => ?_)
  obtain ⟨rfl, hL3, hR3, hHi⟩ := h
  replace hL3 := hL3.symm
  subst hL3
  have hC3 := hC2.hi hHi
  refine r_icmp_eq hX dL_law_818 (fun _ => ?_) (fun c => absurd rfl c)
  exact At.more (kk _ _ _ _ hC3 hR3) (by show mc + 0 + 0 ≤ mc + 20; omega) (by show ms + 0 + 0 ≤ ms + 300; omega)

set_option maxHeartbeats 4000000 in
theorem lw_c19 {X : Cx} {nm : String} (hX : Ok X cL_law RL nm { frames := 2048, cells := 600000, slots := 7302250, locals := 84000 } (some .boolean)) (hE : LE (xD X)) {b n : Nat} {f : Nat → Int32} (hS : SX X b n f) (i : Nat) (hi : i + 6 ≤ n) (hn : n ≤ 3072) {L : La} {σ : Me} {s : Sx} {N : Nat} (hC : IC L σ s N) (hR : IR L σ s) (mc ms : Nat) (hmc : mc + 20 ≤ 600000) (hms : ms + 300 ≤ 7302250) (kk : ∀ L' σ' s' N', IC L' σ' s' N' → IR L' σ' s' → At X L' σ' (mc + 20) (ms + 300) [(0, .ref b), (1, .ref (L'.1 100)), (2, .ref (L'.1 0)), (3, .int (nI i))] 1542 []) : At X L σ mc ms [(0, .ref b), (1, .ref (L.1 100)), (2, .ref (L.1 0)), (3, .int (nI i))] 823 [] := by
  refine r_aload_n hX dL_law_823 rfl ?_
  refine r_aload_n hX dL_law_824 rfl ?_
  refine r_iload_n hX dL_law_825 rfl ?_
  refine r_iconst hX (nI 1) dL_law_826 rfl ?_
  refine r_iaddN hX dL_law_827 ?_
  refine r_sld hX hS (by omega) (by omega) dL_law_828 ?_
  refine r_callVNI (As := [.int (f (i + 1))]) (rest := []) hX (k_clean hE hC  (f (i + 1))) dL_law_829 cb_L_92 (hC.1.1.1 100 _ rfl) rfl rfl ⟨Nat.le_of_ble_eq_true rfl, Nat.le_of_ble_eq_true rfl⟩ ⟨by show mc + 0 ≤ 600000; omega, by show ms + 0 ≤ 7302250; omega⟩ (Nat.le_of_ble_eq_true rfl) (fun r L2 σ2 h => ?_)
  obtain ⟨rfl, ⟨N2, hC2⟩, hLo⟩ := h
  have hR2 := hR.lo hLo
  refine At.to (ls' := [(0, .ref b), (1, .ref (L2.1 100)), (2, .ref (L2.1 0)), (3, .int (nI i))]) (st' := [.int ((oClean s.1 (f (i + 1))).1)]) ?_ (by rw [hLo.2.1, (hLo.1 0 (by decide)).1]) rfl rfl
  refine r_aload_n hX dL_law_832 rfl ?_
  refine r_aload_n hX dL_law_833 rfl ?_
  refine r_iload_n hX dL_law_834 rfl ?_
  refine r_iconst hX (nI 1) dL_law_835 rfl ?_
  refine r_iaddN hX dL_law_836 ?_
  refine r_sld hX hS (by omega) (by omega) dL_law_837 ?_
  refine r_callVNI (As := [.int (f (i + 1))]) (rest := [.int ((oClean s.1 (f (i + 1))).1)]) hX (j_clean hE hC.2.2.1 hR2 (f (i + 1))) dL_law_838 cb_L_95 (hR2.1.1 0 _ rfl) rfl rfl ⟨Nat.le_of_ble_eq_true rfl, Nat.le_of_ble_eq_true rfl⟩ ⟨by show mc + 0 + 0 ≤ 600000; omega, by show ms + 0 + 0 ≤ 7302250; omega⟩ (Nat.le_of_ble_eq_true rfl) (fun r L3 σ3 h => ?_)
  obtain ⟨rfl, hL3, hR3, hHi⟩ := h
  replace hL3 := hL3.symm
  subst hL3
  have hC3 := hC2.hi hHi
  refine r_icmp_eq hX dL_law_841 (fun _ => ?_) (fun c => absurd rfl c)
  exact At.more (kk _ _ _ _ hC3 hR3) (by show mc + 0 + 0 ≤ mc + 20; omega) (by show ms + 0 + 0 ≤ ms + 300; omega)

set_option maxHeartbeats 4000000 in
theorem lw_c20 {X : Cx} {nm : String} (hX : Ok X cL_law RL nm { frames := 2048, cells := 600000, slots := 7302250, locals := 84000 } (some .boolean)) (hE : LE (xD X)) {b n : Nat} {f : Nat → Int32} (hS : SX X b n f) (i : Nat) (hi : i + 6 ≤ n) (hn : n ≤ 3072) {L : La} {σ : Me} {s : Sx} {N : Nat} (hC : IC L σ s N) (hR : IR L σ s) (mc ms : Nat) (hmc : mc + 20 ≤ 600000) (hms : ms + 300 ≤ 7302250) (kk : ∀ L' σ' s' N', IC L' σ' s' N' → IR L' σ' s' → At X L' σ' (mc + 20) (ms + 300) [(0, .ref b), (1, .ref (L'.1 100)), (2, .ref (L'.1 0)), (3, .int (nI i))] 1542 []) : At X L σ mc ms [(0, .ref b), (1, .ref (L.1 100)), (2, .ref (L.1 0)), (3, .int (nI i))] 846 [] := by
  refine r_aload_n hX dL_law_846 rfl ?_
  refine r_aload_n hX dL_law_847 rfl ?_
  refine r_iload_n hX dL_law_848 rfl ?_
  refine r_iconst hX (nI 1) dL_law_849 rfl ?_
  refine r_iaddN hX dL_law_850 ?_
  refine r_sld hX hS (by omega) (by omega) dL_law_851 ?_
  refine r_aload_n hX dL_law_852 rfl ?_
  refine r_iload_n hX dL_law_853 rfl ?_
  refine r_iconst hX (nI 2) dL_law_854 rfl ?_
  refine r_iaddN hX dL_law_855 ?_
  refine r_sld hX hS (by omega) (by omega) dL_law_856 ?_
  refine r_callVNI (As := [.int (f (i + 1)), .int (f (i + 2))]) (rest := []) hX (k_buy hE hC  (f (i + 1)) (f (i + 2))) dL_law_857 cb_L_96 (hC.1.1.1 100 _ rfl) rfl rfl ⟨Nat.le_of_ble_eq_true rfl, Nat.le_of_ble_eq_true rfl⟩ ⟨by show mc + 0 ≤ 600000; omega, by show ms + 0 ≤ 7302250; omega⟩ (Nat.le_of_ble_eq_true rfl) (fun r L2 σ2 h => ?_)
  obtain ⟨rfl, ⟨N2, hC2⟩, hLo⟩ := h
  have hR2 := hR.lo hLo
  refine At.to (ls' := [(0, .ref b), (1, .ref (L2.1 100)), (2, .ref (L2.1 0)), (3, .int (nI i))]) (st' := [.int ((oBuy s.1 (f (i + 1)) (f (i + 2))).1)]) ?_ (by rw [hLo.2.1, (hLo.1 0 (by decide)).1]) rfl rfl
  refine r_aload_n hX dL_law_860 rfl ?_
  refine r_aload_n hX dL_law_861 rfl ?_
  refine r_iload_n hX dL_law_862 rfl ?_
  refine r_iconst hX (nI 1) dL_law_863 rfl ?_
  refine r_iaddN hX dL_law_864 ?_
  refine r_sld hX hS (by omega) (by omega) dL_law_865 ?_
  refine r_aload_n hX dL_law_866 rfl ?_
  refine r_iload_n hX dL_law_867 rfl ?_
  refine r_iconst hX (nI 2) dL_law_868 rfl ?_
  refine r_iaddN hX dL_law_869 ?_
  refine r_sld hX hS (by omega) (by omega) dL_law_870 ?_
  refine r_callVNI (As := [.int (f (i + 1)), .int (f (i + 2))]) (rest := [.int ((oBuy s.1 (f (i + 1)) (f (i + 2))).1)]) hX (j_buy hE hC.2.2.1 hR2 (f (i + 1)) (f (i + 2))) dL_law_871 cb_L_99 (hR2.1.1 0 _ rfl) rfl rfl ⟨Nat.le_of_ble_eq_true rfl, Nat.le_of_ble_eq_true rfl⟩ ⟨by show mc + 0 + 0 ≤ 600000; omega, by show ms + 0 + 0 ≤ 7302250; omega⟩ (Nat.le_of_ble_eq_true rfl) (fun r L3 σ3 h => ?_)
  obtain ⟨rfl, hL3, hR3, hHi⟩ := h
  replace hL3 := hL3.symm
  subst hL3
  have hC3 := hC2.hi hHi
  refine r_icmp_eq hX dL_law_874 (fun _ => ?_) (fun c => absurd rfl c)
  exact At.more (kk _ _ _ _ hC3 hR3) (by show mc + 0 + 0 ≤ mc + 20; omega) (by show ms + 0 + 0 ≤ ms + 300; omega)

set_option maxHeartbeats 4000000 in
theorem lw_c21 {X : Cx} {nm : String} (hX : Ok X cL_law RL nm { frames := 2048, cells := 600000, slots := 7302250, locals := 84000 } (some .boolean)) (hE : LE (xD X)) {b n : Nat} {f : Nat → Int32} (hS : SX X b n f) (i : Nat) (hi : i + 6 ≤ n) (hn : n ≤ 3072) {L : La} {σ : Me} {s : Sx} {N : Nat} (hC : IC L σ s N) (hR : IR L σ s) (mc ms : Nat) (hmc : mc + 20 ≤ 600000) (hms : ms + 300 ≤ 7302250) (kk : ∀ L' σ' s' N', IC L' σ' s' N' → IR L' σ' s' → At X L' σ' (mc + 20) (ms + 300) [(0, .ref b), (1, .ref (L'.1 100)), (2, .ref (L'.1 0)), (3, .int (nI i))] 1542 []) : At X L σ mc ms [(0, .ref b), (1, .ref (L.1 100)), (2, .ref (L.1 0)), (3, .int (nI i))] 879 [] := by
  refine r_aload_n hX dL_law_879 rfl ?_
  refine r_aload_n hX dL_law_880 rfl ?_
  refine r_iload_n hX dL_law_881 rfl ?_
  refine r_iconst hX (nI 1) dL_law_882 rfl ?_
  refine r_iaddN hX dL_law_883 ?_
  refine r_sld hX hS (by omega) (by omega) dL_law_884 ?_
  refine r_aload_n hX dL_law_885 rfl ?_
  refine r_iload_n hX dL_law_886 rfl ?_
  refine r_iconst hX (nI 2) dL_law_887 rfl ?_
  refine r_iaddN hX dL_law_888 ?_
  refine r_sld hX hS (by omega) (by omega) dL_law_889 ?_
  refine r_aload_n hX dL_law_890 rfl ?_
  refine r_iload_n hX dL_law_891 rfl ?_
  refine r_iconst hX (nI 3) dL_law_892 rfl ?_
  refine r_iaddN hX dL_law_893 ?_
  refine r_sld hX hS (by omega) (by omega) dL_law_894 ?_
  refine r_aload_n hX dL_law_895 rfl ?_
  refine r_iload_n hX dL_law_896 rfl ?_
  refine r_iconst hX (nI 4) dL_law_897 rfl ?_
  refine r_iaddN hX dL_law_898 ?_
  refine r_sld hX hS (by omega) (by omega) dL_law_899 ?_
  refine r_callVNI (As := [.int (f (i + 1)), .int (f (i + 2)), .int (f (i + 3)), .int (f (i + 4))]) (rest := []) hX (k_job hE hC  (f (i + 1)) (f (i + 2)) (f (i + 3)) (f (i + 4))) dL_law_900 cb_L_100 (hC.1.1.1 100 _ rfl) rfl rfl ⟨Nat.le_of_ble_eq_true rfl, Nat.le_of_ble_eq_true rfl⟩ ⟨by show mc + 0 ≤ 600000; omega, by show ms + 0 ≤ 7302250; omega⟩ (Nat.le_of_ble_eq_true rfl) (fun r L2 σ2 h => ?_)
  obtain ⟨rfl, ⟨N2, hC2⟩, hLo⟩ := h
  have hR2 := hR.lo hLo
  refine At.to (ls' := [(0, .ref b), (1, .ref (L2.1 100)), (2, .ref (L2.1 0)), (3, .int (nI i))]) (st' := [.int ((oJob s.1 (f (i + 1)) (f (i + 2)) (f (i + 3)) (f (i + 4))).1)]) ?_ (by rw [hLo.2.1, (hLo.1 0 (by decide)).1]) rfl rfl
  refine r_aload_n hX dL_law_903 rfl ?_
  refine r_aload_n hX dL_law_904 rfl ?_
  refine r_iload_n hX dL_law_905 rfl ?_
  refine r_iconst hX (nI 1) dL_law_906 rfl ?_
  refine r_iaddN hX dL_law_907 ?_
  refine r_sld hX hS (by omega) (by omega) dL_law_908 ?_
  refine r_aload_n hX dL_law_909 rfl ?_
  refine r_iload_n hX dL_law_910 rfl ?_
  refine r_iconst hX (nI 2) dL_law_911 rfl ?_
  refine r_iaddN hX dL_law_912 ?_
  refine r_sld hX hS (by omega) (by omega) dL_law_913 ?_
  refine r_aload_n hX dL_law_914 rfl ?_
  refine r_iload_n hX dL_law_915 rfl ?_
  refine r_iconst hX (nI 3) dL_law_916 rfl ?_
  refine r_iaddN hX dL_law_917 ?_
  refine r_sld hX hS (by omega) (by omega) dL_law_918 ?_
  refine r_aload_n hX dL_law_919 rfl ?_
  refine r_iload_n hX dL_law_920 rfl ?_
  refine r_iconst hX (nI 4) dL_law_921 rfl ?_
  refine r_iaddN hX dL_law_922 ?_
  refine r_sld hX hS (by omega) (by omega) dL_law_923 ?_
  refine r_callVNI (As := [.int (f (i + 1)), .int (f (i + 2)), .int (f (i + 3)), .int (f (i + 4))]) (rest := [.int ((oJob s.1 (f (i + 1)) (f (i + 2)) (f (i + 3)) (f (i + 4))).1)]) hX (j_job hE hC.2.2.1 hR2 (f (i + 1)) (f (i + 2)) (f (i + 3)) (f (i + 4))) dL_law_924 cb_L_104 (hR2.1.1 0 _ rfl) rfl rfl ⟨Nat.le_of_ble_eq_true rfl, Nat.le_of_ble_eq_true rfl⟩ ⟨by show mc + 0 + 0 ≤ 600000; omega, by show ms + 0 + 0 ≤ 7302250; omega⟩ (Nat.le_of_ble_eq_true rfl) (fun r L3 σ3 h => ?_)
  obtain ⟨rfl, hL3, hR3, hHi⟩ := h
  replace hL3 := hL3.symm
  subst hL3
  have hC3 := hC2.hi hHi
  refine r_icmp_eq hX dL_law_927 (fun _ => ?_) (fun c => absurd rfl c)
  exact At.more (kk _ _ _ _ hC3 hR3) (by show mc + 0 + 0 ≤ mc + 20; omega) (by show ms + 0 + 0 ≤ ms + 300; omega)

set_option maxHeartbeats 4000000 in
theorem lw_c22 {X : Cx} {nm : String} (hX : Ok X cL_law RL nm { frames := 2048, cells := 600000, slots := 7302250, locals := 84000 } (some .boolean)) (hE : LE (xD X)) {b n : Nat} {f : Nat → Int32} (hS : SX X b n f) (i : Nat) (hi : i + 6 ≤ n) (hn : n ≤ 3072) {L : La} {σ : Me} {s : Sx} {N : Nat} (hC : IC L σ s N) (hR : IR L σ s) (mc ms : Nat) (hmc : mc + 20 ≤ 600000) (hms : ms + 300 ≤ 7302250) (kk : ∀ L' σ' s' N', IC L' σ' s' N' → IR L' σ' s' → At X L' σ' (mc + 20) (ms + 300) [(0, .ref b), (1, .ref (L'.1 100)), (2, .ref (L'.1 0)), (3, .int (nI i))] 1542 []) : At X L σ mc ms [(0, .ref b), (1, .ref (L.1 100)), (2, .ref (L.1 0)), (3, .int (nI i))] 932 [] := by
  refine r_aload_n hX dL_law_932 rfl ?_
  refine r_aload_n hX dL_law_933 rfl ?_
  refine r_iload_n hX dL_law_934 rfl ?_
  refine r_iconst hX (nI 1) dL_law_935 rfl ?_
  refine r_iaddN hX dL_law_936 ?_
  refine r_sld hX hS (by omega) (by omega) dL_law_937 ?_
  refine r_callVNI (As := [.int (f (i + 1))]) (rest := []) hX (k_seed hE hC  (f (i + 1))) dL_law_938 cb_L_105 (hC.1.1.1 100 _ rfl) rfl rfl ⟨Nat.le_of_ble_eq_true rfl, Nat.le_of_ble_eq_true rfl⟩ ⟨by show mc + 0 ≤ 600000; omega, by show ms + 0 ≤ 7302250; omega⟩ (Nat.le_of_ble_eq_true rfl) (fun r L2 σ2 h => ?_)
  obtain ⟨rfl, ⟨N2, hC2⟩, hLo⟩ := h
  have hR2 := hR.lo hLo
  refine At.to (ls' := [(0, .ref b), (1, .ref (L2.1 100)), (2, .ref (L2.1 0)), (3, .int (nI i))]) (st' := [.int ((oSeed s.1 (f (i + 1))).1)]) ?_ (by rw [hLo.2.1, (hLo.1 0 (by decide)).1]) rfl rfl
  refine r_aload_n hX dL_law_941 rfl ?_
  refine r_aload_n hX dL_law_942 rfl ?_
  refine r_iload_n hX dL_law_943 rfl ?_
  refine r_iconst hX (nI 1) dL_law_944 rfl ?_
  refine r_iaddN hX dL_law_945 ?_
  refine r_sld hX hS (by omega) (by omega) dL_law_946 ?_
  refine r_callVNI (As := [.int (f (i + 1))]) (rest := [.int ((oSeed s.1 (f (i + 1))).1)]) hX (j_seed hE hC.2.2.1 hR2 (f (i + 1))) dL_law_947 cb_L_108 (hR2.1.1 0 _ rfl) rfl rfl ⟨Nat.le_of_ble_eq_true rfl, Nat.le_of_ble_eq_true rfl⟩ ⟨by show mc + 0 + 0 ≤ 600000; omega, by show ms + 0 + 0 ≤ 7302250; omega⟩ (Nat.le_of_ble_eq_true rfl) (fun r L3 σ3 h => ?_)
  obtain ⟨rfl, hL3, hR3, hHi⟩ := h
  replace hL3 := hL3.symm
  subst hL3
  have hC3 := hC2.hi hHi
  refine r_icmp_eq hX dL_law_950 (fun _ => ?_) (fun c => absurd rfl c)
  exact At.more (kk _ _ _ _ hC3 hR3) (by show mc + 0 + 0 ≤ mc + 20; omega) (by show ms + 0 + 0 ≤ ms + 300; omega)

set_option maxHeartbeats 4000000 in
theorem lw_c23 {X : Cx} {nm : String} (hX : Ok X cL_law RL nm { frames := 2048, cells := 600000, slots := 7302250, locals := 84000 } (some .boolean)) (hE : LE (xD X)) {b n : Nat} {f : Nat → Int32} (hS : SX X b n f) (i : Nat) (hi : i + 6 ≤ n) (hn : n ≤ 3072) {L : La} {σ : Me} {s : Sx} {N : Nat} (hC : IC L σ s N) (hR : IR L σ s) (mc ms : Nat) (hmc : mc + 20 ≤ 600000) (hms : ms + 300 ≤ 7302250) (kk : ∀ L' σ' s' N', IC L' σ' s' N' → IR L' σ' s' → At X L' σ' (mc + 20) (ms + 300) [(0, .ref b), (1, .ref (L'.1 100)), (2, .ref (L'.1 0)), (3, .int (nI i))] 1542 []) : At X L σ mc ms [(0, .ref b), (1, .ref (L.1 100)), (2, .ref (L.1 0)), (3, .int (nI i))] 955 [] := by
  refine r_aload_n hX dL_law_955 rfl ?_
  refine r_aload_n hX dL_law_956 rfl ?_
  refine r_iload_n hX dL_law_957 rfl ?_
  refine r_iconst hX (nI 1) dL_law_958 rfl ?_
  refine r_iaddN hX dL_law_959 ?_
  refine r_sld hX hS (by omega) (by omega) dL_law_960 ?_
  refine r_aload_n hX dL_law_961 rfl ?_
  refine r_iload_n hX dL_law_962 rfl ?_
  refine r_iconst hX (nI 2) dL_law_963 rfl ?_
  refine r_iaddN hX dL_law_964 ?_
  refine r_sld hX hS (by omega) (by omega) dL_law_965 ?_
  refine r_aload_n hX dL_law_966 rfl ?_
  refine r_iload_n hX dL_law_967 rfl ?_
  refine r_iconst hX (nI 3) dL_law_968 rfl ?_
  refine r_iaddN hX dL_law_969 ?_
  refine r_sld hX hS (by omega) (by omega) dL_law_970 ?_
  refine r_callVNI (As := [.int (f (i + 1)), .int (f (i + 2)), .int (f (i + 3))]) (rest := []) hX (k_feed hE hC  (f (i + 1)) (f (i + 2)) (f (i + 3))) dL_law_971 cb_L_109 (hC.1.1.1 100 _ rfl) rfl rfl ⟨Nat.le_of_ble_eq_true rfl, Nat.le_of_ble_eq_true rfl⟩ ⟨by show mc + 0 ≤ 600000; omega, by show ms + 0 ≤ 7302250; omega⟩ (Nat.le_of_ble_eq_true rfl) (fun r L2 σ2 h => ?_)
  obtain ⟨rfl, ⟨N2, hC2⟩, hLo⟩ := h
  have hR2 := hR.lo hLo
  refine At.to (ls' := [(0, .ref b), (1, .ref (L2.1 100)), (2, .ref (L2.1 0)), (3, .int (nI i))]) (st' := [.int ((oFeed s.2.2.1 (f (i + 1)) (f (i + 2)) (f (i + 3))).1)]) ?_ (by rw [hLo.2.1, (hLo.1 0 (by decide)).1]) rfl rfl
  refine r_aload_n hX dL_law_974 rfl ?_
  refine r_aload_n hX dL_law_975 rfl ?_
  refine r_iload_n hX dL_law_976 rfl ?_
  refine r_iconst hX (nI 1) dL_law_977 rfl ?_
  refine r_iaddN hX dL_law_978 ?_
  refine r_sld hX hS (by omega) (by omega) dL_law_979 ?_
  refine r_aload_n hX dL_law_980 rfl ?_
  refine r_iload_n hX dL_law_981 rfl ?_
  refine r_iconst hX (nI 2) dL_law_982 rfl ?_
  refine r_iaddN hX dL_law_983 ?_
  refine r_sld hX hS (by omega) (by omega) dL_law_984 ?_
  refine r_aload_n hX dL_law_985 rfl ?_
  refine r_iload_n hX dL_law_986 rfl ?_
  refine r_iconst hX (nI 3) dL_law_987 rfl ?_
  refine r_iaddN hX dL_law_988 ?_
  refine r_sld hX hS (by omega) (by omega) dL_law_989 ?_
  refine r_callVNI (As := [.int (f (i + 1)), .int (f (i + 2)), .int (f (i + 3))]) (rest := [.int ((oFeed s.2.2.1 (f (i + 1)) (f (i + 2)) (f (i + 3))).1)]) hX (j_feed hE hC.2.2.1 hR2 (f (i + 1)) (f (i + 2)) (f (i + 3))) dL_law_990 cb_L_112 (hR2.1.1 0 _ rfl) rfl rfl ⟨Nat.le_of_ble_eq_true rfl, Nat.le_of_ble_eq_true rfl⟩ ⟨by show mc + 0 + 0 ≤ 600000; omega, by show ms + 0 + 0 ≤ 7302250; omega⟩ (Nat.le_of_ble_eq_true rfl) (fun r L3 σ3 h => ?_)
  obtain ⟨rfl, hL3, hR3, hHi⟩ := h
  replace hL3 := hL3.symm
  subst hL3
  have hC3 := hC2.hi hHi
  refine r_icmp_eq hX dL_law_993 (fun _ => ?_) (fun c => absurd rfl c)
  exact At.more (kk _ _ _ _ hC3 hR3) (by show mc + 0 + 0 ≤ mc + 20; omega) (by show ms + 0 + 0 ≤ ms + 300; omega)

set_option maxHeartbeats 4000000 in
theorem lw_c24 {X : Cx} {nm : String} (hX : Ok X cL_law RL nm { frames := 2048, cells := 600000, slots := 7302250, locals := 84000 } (some .boolean)) (hE : LE (xD X)) {b n : Nat} {f : Nat → Int32} (hS : SX X b n f) (i : Nat) (hi : i + 6 ≤ n) (hn : n ≤ 3072) {L : La} {σ : Me} {s : Sx} {N : Nat} (hC : IC L σ s N) (hR : IR L σ s) (mc ms : Nat) (hmc : mc + 20 ≤ 600000) (hms : ms + 300 ≤ 7302250) (kk : ∀ L' σ' s' N', IC L' σ' s' N' → IR L' σ' s' → At X L' σ' (mc + 20) (ms + 300) [(0, .ref b), (1, .ref (L'.1 100)), (2, .ref (L'.1 0)), (3, .int (nI i))] 1542 []) : At X L σ mc ms [(0, .ref b), (1, .ref (L.1 100)), (2, .ref (L.1 0)), (3, .int (nI i))] 998 [] := by
  refine r_aload_n hX dL_law_998 rfl ?_
  refine r_aload_n hX dL_law_999 rfl ?_
  refine r_iload_n hX dL_law_1000 rfl ?_
  refine r_iconst hX (nI 1) dL_law_1001 rfl ?_
  refine r_iaddN hX dL_law_1002 ?_
  refine r_sld hX hS (by omega) (by omega) dL_law_1003 ?_
  refine r_callVNI (As := [.int (f (i + 1))]) (rest := []) hX (k_trim hE hC  (f (i + 1))) dL_law_1004 cb_L_113 (hC.1.1.1 100 _ rfl) rfl rfl ⟨Nat.le_of_ble_eq_true rfl, Nat.le_of_ble_eq_true rfl⟩ ⟨by show mc + 0 ≤ 600000; omega, by show ms + 0 ≤ 7302250; omega⟩ (Nat.le_of_ble_eq_true rfl) (fun r L2 σ2 h => ?_)
  obtain ⟨rfl, ⟨N2, hC2⟩, hLo⟩ := h
  have hR2 := hR.lo hLo
  refine At.to (ls' := [(0, .ref b), (1, .ref (L2.1 100)), (2, .ref (L2.1 0)), (3, .int (nI i))]) (st' := [.int ((oTrim s.2.2.1 (f (i + 1))).1)]) ?_ (by rw [hLo.2.1, (hLo.1 0 (by decide)).1]) rfl rfl
  refine r_aload_n hX dL_law_1007 rfl ?_
  refine r_aload_n hX dL_law_1008 rfl ?_
  refine r_iload_n hX dL_law_1009 rfl ?_
  refine r_iconst hX (nI 1) dL_law_1010 rfl ?_
  refine r_iaddN hX dL_law_1011 ?_
  refine r_sld hX hS (by omega) (by omega) dL_law_1012 ?_
  refine r_callVNI (As := [.int (f (i + 1))]) (rest := [.int ((oTrim s.2.2.1 (f (i + 1))).1)]) hX (j_trim hE hC.2.2.1 hR2 (f (i + 1))) dL_law_1013 cb_L_116 (hR2.1.1 0 _ rfl) rfl rfl ⟨Nat.le_of_ble_eq_true rfl, Nat.le_of_ble_eq_true rfl⟩ ⟨by show mc + 0 + 0 ≤ 600000; omega, by show ms + 0 + 0 ≤ 7302250; omega⟩ (Nat.le_of_ble_eq_true rfl) (fun r L3 σ3 h => ?_)
  obtain ⟨rfl, hL3, hR3, hHi⟩ := h
  replace hL3 := hL3.symm
  subst hL3
  have hC3 := hC2.hi hHi
  refine r_icmp_eq hX dL_law_1016 (fun _ => ?_) (fun c => absurd rfl c)
  exact At.more (kk _ _ _ _ hC3 hR3) (by show mc + 0 + 0 ≤ mc + 20; omega) (by show ms + 0 + 0 ≤ ms + 300; omega)

set_option maxHeartbeats 4000000 in
theorem lw_c25 {X : Cx} {nm : String} (hX : Ok X cL_law RL nm { frames := 2048, cells := 600000, slots := 7302250, locals := 84000 } (some .boolean)) (hE : LE (xD X)) {b n : Nat} {f : Nat → Int32} (hS : SX X b n f) (i : Nat) (hi : i + 6 ≤ n) (hn : n ≤ 3072) {L : La} {σ : Me} {s : Sx} {N : Nat} (hC : IC L σ s N) (hR : IR L σ s) (mc ms : Nat) (hmc : mc + 20 ≤ 600000) (hms : ms + 300 ≤ 7302250) (kk : ∀ L' σ' s' N', IC L' σ' s' N' → IR L' σ' s' → At X L' σ' (mc + 20) (ms + 300) [(0, .ref b), (1, .ref (L'.1 100)), (2, .ref (L'.1 0)), (3, .int (nI i))] 1542 []) : At X L σ mc ms [(0, .ref b), (1, .ref (L.1 100)), (2, .ref (L.1 0)), (3, .int (nI i))] 1021 [] := by
  refine r_aload_n hX dL_law_1021 rfl ?_
  refine r_callVNI (As := []) (rest := []) hX (k_text hE hC  ) dL_law_1022 cb_L_117 (hC.1.1.1 100 _ rfl) rfl rfl ⟨Nat.le_of_ble_eq_true rfl, Nat.le_of_ble_eq_true rfl⟩ ⟨by show mc + 3 ≤ 600000; omega, by show ms + 196 ≤ 7302250; omega⟩ (Nat.le_of_ble_eq_true rfl) (fun r L2 σ2 h => ?_)
  obtain ⟨rfl, ⟨N2, hC2⟩, hLo⟩ := h
  have hR2 := hR.lo hLo
  refine At.to (ls' := [(0, .ref b), (1, .ref (L2.1 100)), (2, .ref (L2.1 0)), (3, .int (nI i))]) (st' := [.int ((oText s.1 s.2.2.1).1)]) ?_ (by rw [hLo.2.1, (hLo.1 0 (by decide)).1]) rfl rfl
  refine r_aload_n hX dL_law_1025 rfl ?_
  refine r_callVNI (As := []) (rest := [.int ((oText s.1 s.2.2.1).1)]) hX (j_text hE hC.2.2.1 hR2 ) dL_law_1026 cb_L_121 (hR2.1.1 0 _ rfl) rfl rfl ⟨Nat.le_of_ble_eq_true rfl, Nat.le_of_ble_eq_true rfl⟩ ⟨by show mc + 3 + 0 ≤ 600000; omega, by show ms + 196 + 0 ≤ 7302250; omega⟩ (Nat.le_of_ble_eq_true rfl) (fun r L3 σ3 h => ?_)
  obtain ⟨rfl, hL3, hR3, hHi⟩ := h
  replace hL3 := hL3.symm
  subst hL3
  have hC3 := hC2.hi hHi
  refine r_icmp_eq hX dL_law_1029 (fun _ => ?_) (fun c => absurd rfl c)
  exact At.more (kk _ _ _ _ hC3 hR3) (by show mc + 3 + 0 ≤ mc + 20; omega) (by show ms + 196 + 0 ≤ ms + 300; omega)

set_option maxHeartbeats 4000000 in
theorem lw_c26 {X : Cx} {nm : String} (hX : Ok X cL_law RL nm { frames := 2048, cells := 600000, slots := 7302250, locals := 84000 } (some .boolean)) (hE : LE (xD X)) {b n : Nat} {f : Nat → Int32} (hS : SX X b n f) (i : Nat) (hi : i + 6 ≤ n) (hn : n ≤ 3072) {L : La} {σ : Me} {s : Sx} {N : Nat} (hC : IC L σ s N) (hR : IR L σ s) (mc ms : Nat) (hmc : mc + 20 ≤ 600000) (hms : ms + 300 ≤ 7302250) (kk : ∀ L' σ' s' N', IC L' σ' s' N' → IR L' σ' s' → At X L' σ' (mc + 20) (ms + 300) [(0, .ref b), (1, .ref (L'.1 100)), (2, .ref (L'.1 0)), (3, .int (nI i))] 1542 []) : At X L σ mc ms [(0, .ref b), (1, .ref (L.1 100)), (2, .ref (L.1 0)), (3, .int (nI i))] 1034 [] := by
  refine r_aload_n hX dL_law_1034 rfl ?_
  refine r_aload_n hX dL_law_1035 rfl ?_
  refine r_iload_n hX dL_law_1036 rfl ?_
  refine r_iconst hX (nI 1) dL_law_1037 rfl ?_
  refine r_iaddN hX dL_law_1038 ?_
  refine r_sld hX hS (by omega) (by omega) dL_law_1039 ?_
  refine r_aload_n hX dL_law_1040 rfl ?_
  refine r_iload_n hX dL_law_1041 rfl ?_
  refine r_iconst hX (nI 2) dL_law_1042 rfl ?_
  refine r_iaddN hX dL_law_1043 ?_
  refine r_sld hX hS (by omega) (by omega) dL_law_1044 ?_
  refine r_callVNI (As := [.int (f (i + 1)), .int (f (i + 2))]) (rest := []) hX (k_textTold hE hC  (f (i + 1)) (f (i + 2))) dL_law_1045 cb_L_122 (hC.1.1.1 100 _ rfl) rfl rfl ⟨Nat.le_of_ble_eq_true rfl, Nat.le_of_ble_eq_true rfl⟩ ⟨by show mc + 0 ≤ 600000; omega, by show ms + 0 ≤ 7302250; omega⟩ (Nat.le_of_ble_eq_true rfl) (fun r L2 σ2 h => ?_)
  obtain ⟨rfl, ⟨N2, hC2⟩, hLo⟩ := h
  have hR2 := hR.lo hLo
  refine At.to (ls' := [(0, .ref b), (1, .ref (L2.1 100)), (2, .ref (L2.1 0)), (3, .int (nI i))]) (st' := [.int ((oTextTold s.1 (f (i + 1)) (f (i + 2))))]) ?_ (by rw [hLo.2.1, (hLo.1 0 (by decide)).1]) rfl rfl
  refine r_aload_n hX dL_law_1048 rfl ?_
  refine r_aload_n hX dL_law_1049 rfl ?_
  refine r_iload_n hX dL_law_1050 rfl ?_
  refine r_iconst hX (nI 1) dL_law_1051 rfl ?_
  refine r_iaddN hX dL_law_1052 ?_
  refine r_sld hX hS (by omega) (by omega) dL_law_1053 ?_
  refine r_aload_n hX dL_law_1054 rfl ?_
  refine r_iload_n hX dL_law_1055 rfl ?_
  refine r_iconst hX (nI 2) dL_law_1056 rfl ?_
  refine r_iaddN hX dL_law_1057 ?_
  refine r_sld hX hS (by omega) (by omega) dL_law_1058 ?_
  refine r_callVNI (As := [.int (f (i + 1)), .int (f (i + 2))]) (rest := [.int ((oTextTold s.1 (f (i + 1)) (f (i + 2))))]) hX (j_textTold hE hC.2.2.1 hR2 (f (i + 1)) (f (i + 2))) dL_law_1059 cb_L_125 (hR2.1.1 0 _ rfl) rfl rfl ⟨Nat.le_of_ble_eq_true rfl, Nat.le_of_ble_eq_true rfl⟩ ⟨by show mc + 0 + 0 ≤ 600000; omega, by show ms + 0 + 0 ≤ 7302250; omega⟩ (Nat.le_of_ble_eq_true rfl) (fun r L3 σ3 h => ?_)
  obtain ⟨rfl, hL3, hR3, hHi⟩ := h
  replace hL3 := hL3.symm
  subst hL3
  have hC3 := hC2.hi hHi
  refine r_icmp_eq hX dL_law_1062 (fun _ => ?_) (fun c => absurd rfl c)
  exact At.more (kk _ _ _ _ hC3 hR3) (by show mc + 0 + 0 ≤ mc + 20; omega) (by show ms + 0 + 0 ≤ ms + 300; omega)

set_option maxHeartbeats 4000000 in
theorem lw_c27 {X : Cx} {nm : String} (hX : Ok X cL_law RL nm { frames := 2048, cells := 600000, slots := 7302250, locals := 84000 } (some .boolean)) (hE : LE (xD X)) {b n : Nat} {f : Nat → Int32} (hS : SX X b n f) (i : Nat) (hi : i + 6 ≤ n) (hn : n ≤ 3072) {L : La} {σ : Me} {s : Sx} {N : Nat} (hC : IC L σ s N) (hR : IR L σ s) (mc ms : Nat) (hmc : mc + 20 ≤ 600000) (hms : ms + 300 ≤ 7302250) (kk : ∀ L' σ' s' N', IC L' σ' s' N' → IR L' σ' s' → At X L' σ' (mc + 20) (ms + 300) [(0, .ref b), (1, .ref (L'.1 100)), (2, .ref (L'.1 0)), (3, .int (nI i))] 1542 []) : At X L σ mc ms [(0, .ref b), (1, .ref (L.1 100)), (2, .ref (L.1 0)), (3, .int (nI i))] 1067 [] := by
  refine r_aload_n hX dL_law_1067 rfl ?_
  refine r_aload_n hX dL_law_1068 rfl ?_
  refine r_iload_n hX dL_law_1069 rfl ?_
  refine r_iconst hX (nI 1) dL_law_1070 rfl ?_
  refine r_iaddN hX dL_law_1071 ?_
  refine r_sld hX hS (by omega) (by omega) dL_law_1072 ?_
  refine r_callVNI (As := [.int (f (i + 1))]) (rest := []) hX (k_why hE hC  (f (i + 1))) dL_law_1073 cb_L_126 (hC.1.1.1 100 _ rfl) rfl rfl ⟨Nat.le_of_ble_eq_true rfl, Nat.le_of_ble_eq_true rfl⟩ ⟨by show mc + 0 ≤ 600000; omega, by show ms + 0 ≤ 7302250; omega⟩ (Nat.le_of_ble_eq_true rfl) (fun r L2 σ2 h => ?_)
  obtain ⟨rfl, ⟨N2, hC2⟩, hLo⟩ := h
  have hR2 := hR.lo hLo
  refine At.to (ls' := [(0, .ref b), (1, .ref (L2.1 100)), (2, .ref (L2.1 0)), (3, .int (nI i))]) (st' := [.int ((oWhy s.1 (f (i + 1))))]) ?_ (by rw [hLo.2.1, (hLo.1 0 (by decide)).1]) rfl rfl
  refine r_aload_n hX dL_law_1076 rfl ?_
  refine r_aload_n hX dL_law_1077 rfl ?_
  refine r_iload_n hX dL_law_1078 rfl ?_
  refine r_iconst hX (nI 1) dL_law_1079 rfl ?_
  refine r_iaddN hX dL_law_1080 ?_
  refine r_sld hX hS (by omega) (by omega) dL_law_1081 ?_
  refine r_callVNI (As := [.int (f (i + 1))]) (rest := [.int ((oWhy s.1 (f (i + 1))))]) hX (j_why hE hC.2.2.1 hR2 (f (i + 1))) dL_law_1082 cb_L_129 (hR2.1.1 0 _ rfl) rfl rfl ⟨Nat.le_of_ble_eq_true rfl, Nat.le_of_ble_eq_true rfl⟩ ⟨by show mc + 0 + 0 ≤ 600000; omega, by show ms + 0 + 0 ≤ 7302250; omega⟩ (Nat.le_of_ble_eq_true rfl) (fun r L3 σ3 h => ?_)
  obtain ⟨rfl, hL3, hR3, hHi⟩ := h
  replace hL3 := hL3.symm
  subst hL3
  have hC3 := hC2.hi hHi
  refine r_icmp_eq hX dL_law_1085 (fun _ => ?_) (fun c => absurd rfl c)
  exact At.more (kk _ _ _ _ hC3 hR3) (by show mc + 0 + 0 ≤ mc + 20; omega) (by show ms + 0 + 0 ≤ ms + 300; omega)

set_option maxHeartbeats 4000000 in
theorem lw_c28 {X : Cx} {nm : String} (hX : Ok X cL_law RL nm { frames := 2048, cells := 600000, slots := 7302250, locals := 84000 } (some .boolean)) (hE : LE (xD X)) {b n : Nat} {f : Nat → Int32} (hS : SX X b n f) (i : Nat) (hi : i + 6 ≤ n) (hn : n ≤ 3072) {L : La} {σ : Me} {s : Sx} {N : Nat} (hC : IC L σ s N) (hR : IR L σ s) (mc ms : Nat) (hmc : mc + 20 ≤ 600000) (hms : ms + 300 ≤ 7302250) (kk : ∀ L' σ' s' N', IC L' σ' s' N' → IR L' σ' s' → At X L' σ' (mc + 20) (ms + 300) [(0, .ref b), (1, .ref (L'.1 100)), (2, .ref (L'.1 0)), (3, .int (nI i))] 1542 []) : At X L σ mc ms [(0, .ref b), (1, .ref (L.1 100)), (2, .ref (L.1 0)), (3, .int (nI i))] 1090 [] := by
  refine r_aload_n hX dL_law_1090 rfl ?_
  refine r_aload_n hX dL_law_1091 rfl ?_
  refine r_iload_n hX dL_law_1092 rfl ?_
  refine r_iconst hX (nI 1) dL_law_1093 rfl ?_
  refine r_iaddN hX dL_law_1094 ?_
  refine r_sld hX hS (by omega) (by omega) dL_law_1095 ?_
  refine r_aload_n hX dL_law_1096 rfl ?_
  refine r_iload_n hX dL_law_1097 rfl ?_
  refine r_iconst hX (nI 2) dL_law_1098 rfl ?_
  refine r_iaddN hX dL_law_1099 ?_
  refine r_sld hX hS (by omega) (by omega) dL_law_1100 ?_
  refine r_aload_n hX dL_law_1101 rfl ?_
  refine r_iload_n hX dL_law_1102 rfl ?_
  refine r_iconst hX (nI 3) dL_law_1103 rfl ?_
  refine r_iaddN hX dL_law_1104 ?_
  refine r_sld hX hS (by omega) (by omega) dL_law_1105 ?_
  refine r_callVNI (As := [.int (f (i + 1)), .int (f (i + 2)), .int (f (i + 3))]) (rest := []) hX (k_sheet hE hC  (f (i + 1)) (f (i + 2)) (f (i + 3))) dL_law_1106 cb_L_130 (hC.1.1.1 100 _ rfl) rfl rfl ⟨Nat.le_of_ble_eq_true rfl, Nat.le_of_ble_eq_true rfl⟩ ⟨by show mc + 0 ≤ 600000; omega, by show ms + 0 ≤ 7302250; omega⟩ (Nat.le_of_ble_eq_true rfl) (fun r L2 σ2 h => ?_)
  obtain ⟨rfl, ⟨N2, hC2⟩, hLo⟩ := h
  have hR2 := hR.lo hLo
  refine At.to (ls' := [(0, .ref b), (1, .ref (L2.1 100)), (2, .ref (L2.1 0)), (3, .int (nI i))]) (st' := [.int ((oSheet s.2.2.2.1 (f (i + 1)) (f (i + 2)) (f (i + 3))).1)]) ?_ (by rw [hLo.2.1, (hLo.1 0 (by decide)).1]) rfl rfl
  refine r_aload_n hX dL_law_1109 rfl ?_
  refine r_aload_n hX dL_law_1110 rfl ?_
  refine r_iload_n hX dL_law_1111 rfl ?_
  refine r_iconst hX (nI 1) dL_law_1112 rfl ?_
  refine r_iaddN hX dL_law_1113 ?_
  refine r_sld hX hS (by omega) (by omega) dL_law_1114 ?_
  refine r_aload_n hX dL_law_1115 rfl ?_
  refine r_iload_n hX dL_law_1116 rfl ?_
  refine r_iconst hX (nI 2) dL_law_1117 rfl ?_
  refine r_iaddN hX dL_law_1118 ?_
  refine r_sld hX hS (by omega) (by omega) dL_law_1119 ?_
  refine r_aload_n hX dL_law_1120 rfl ?_
  refine r_iload_n hX dL_law_1121 rfl ?_
  refine r_iconst hX (nI 3) dL_law_1122 rfl ?_
  refine r_iaddN hX dL_law_1123 ?_
  refine r_sld hX hS (by omega) (by omega) dL_law_1124 ?_
  refine r_callVNI (As := [.int (f (i + 1)), .int (f (i + 2)), .int (f (i + 3))]) (rest := [.int ((oSheet s.2.2.2.1 (f (i + 1)) (f (i + 2)) (f (i + 3))).1)]) hX (j_sheet hE hC.2.2.1 hR2 (f (i + 1)) (f (i + 2)) (f (i + 3))) dL_law_1125 cb_L_133 (hR2.1.1 0 _ rfl) rfl rfl ⟨Nat.le_of_ble_eq_true rfl, Nat.le_of_ble_eq_true rfl⟩ ⟨by show mc + 0 + 0 ≤ 600000; omega, by show ms + 0 + 0 ≤ 7302250; omega⟩ (Nat.le_of_ble_eq_true rfl) (fun r L3 σ3 h => ?_)
  obtain ⟨rfl, hL3, hR3, hHi⟩ := h
  replace hL3 := hL3.symm
  subst hL3
  have hC3 := hC2.hi hHi
  refine r_icmp_eq hX dL_law_1128 (fun _ => ?_) (fun c => absurd rfl c)
  exact At.more (kk _ _ _ _ hC3 hR3) (by show mc + 0 + 0 ≤ mc + 20; omega) (by show ms + 0 + 0 ≤ ms + 300; omega)

set_option maxHeartbeats 4000000 in
theorem lw_c29 {X : Cx} {nm : String} (hX : Ok X cL_law RL nm { frames := 2048, cells := 600000, slots := 7302250, locals := 84000 } (some .boolean)) (hE : LE (xD X)) {b n : Nat} {f : Nat → Int32} (hS : SX X b n f) (i : Nat) (hi : i + 6 ≤ n) (hn : n ≤ 3072) {L : La} {σ : Me} {s : Sx} {N : Nat} (hC : IC L σ s N) (hR : IR L σ s) (mc ms : Nat) (hmc : mc + 20 ≤ 600000) (hms : ms + 300 ≤ 7302250) (kk : ∀ L' σ' s' N', IC L' σ' s' N' → IR L' σ' s' → At X L' σ' (mc + 20) (ms + 300) [(0, .ref b), (1, .ref (L'.1 100)), (2, .ref (L'.1 0)), (3, .int (nI i))] 1542 []) : At X L σ mc ms [(0, .ref b), (1, .ref (L.1 100)), (2, .ref (L.1 0)), (3, .int (nI i))] 1133 [] := by
  refine r_aload_n hX dL_law_1133 rfl ?_
  refine r_aload_n hX dL_law_1134 rfl ?_
  refine r_iload_n hX dL_law_1135 rfl ?_
  refine r_iconst hX (nI 1) dL_law_1136 rfl ?_
  refine r_iaddN hX dL_law_1137 ?_
  refine r_sld hX hS (by omega) (by omega) dL_law_1138 ?_
  refine r_aload_n hX dL_law_1139 rfl ?_
  refine r_iload_n hX dL_law_1140 rfl ?_
  refine r_iconst hX (nI 2) dL_law_1141 rfl ?_
  refine r_iaddN hX dL_law_1142 ?_
  refine r_sld hX hS (by omega) (by omega) dL_law_1143 ?_
  refine r_aload_n hX dL_law_1144 rfl ?_
  refine r_iload_n hX dL_law_1145 rfl ?_
  refine r_iconst hX (nI 3) dL_law_1146 rfl ?_
  refine r_iaddN hX dL_law_1147 ?_
  refine r_sld hX hS (by omega) (by omega) dL_law_1148 ?_
  refine r_callVNI (As := [.int (f (i + 1)), .int (f (i + 2)), .int (f (i + 3))]) (rest := []) hX (k_mark hE hC  (f (i + 1)) (f (i + 2)) (f (i + 3))) dL_law_1149 cb_L_134 (hC.1.1.1 100 _ rfl) rfl rfl ⟨Nat.le_of_ble_eq_true rfl, Nat.le_of_ble_eq_true rfl⟩ ⟨by show mc + 0 ≤ 600000; omega, by show ms + 0 ≤ 7302250; omega⟩ (Nat.le_of_ble_eq_true rfl) (fun r L2 σ2 h => ?_)
  obtain ⟨rfl, ⟨N2, hC2⟩, hLo⟩ := h
  have hR2 := hR.lo hLo
  refine At.to (ls' := [(0, .ref b), (1, .ref (L2.1 100)), (2, .ref (L2.1 0)), (3, .int (nI i))]) (st' := [.int ((oMark s.2.2.2.1 (f (i + 1)) (f (i + 2)) (f (i + 3))).1)]) ?_ (by rw [hLo.2.1, (hLo.1 0 (by decide)).1]) rfl rfl
  refine r_aload_n hX dL_law_1152 rfl ?_
  refine r_aload_n hX dL_law_1153 rfl ?_
  refine r_iload_n hX dL_law_1154 rfl ?_
  refine r_iconst hX (nI 1) dL_law_1155 rfl ?_
  refine r_iaddN hX dL_law_1156 ?_
  refine r_sld hX hS (by omega) (by omega) dL_law_1157 ?_
  refine r_aload_n hX dL_law_1158 rfl ?_
  refine r_iload_n hX dL_law_1159 rfl ?_
  refine r_iconst hX (nI 2) dL_law_1160 rfl ?_
  refine r_iaddN hX dL_law_1161 ?_
  refine r_sld hX hS (by omega) (by omega) dL_law_1162 ?_
  refine r_aload_n hX dL_law_1163 rfl ?_
  refine r_iload_n hX dL_law_1164 rfl ?_
  refine r_iconst hX (nI 3) dL_law_1165 rfl ?_
  refine r_iaddN hX dL_law_1166 ?_
  refine r_sld hX hS (by omega) (by omega) dL_law_1167 ?_
  refine r_callVNI (As := [.int (f (i + 1)), .int (f (i + 2)), .int (f (i + 3))]) (rest := [.int ((oMark s.2.2.2.1 (f (i + 1)) (f (i + 2)) (f (i + 3))).1)]) hX (j_mark hE hC.2.2.1 hR2 (f (i + 1)) (f (i + 2)) (f (i + 3))) dL_law_1168 cb_L_137 (hR2.1.1 0 _ rfl) rfl rfl ⟨Nat.le_of_ble_eq_true rfl, Nat.le_of_ble_eq_true rfl⟩ ⟨by show mc + 0 + 0 ≤ 600000; omega, by show ms + 0 + 0 ≤ 7302250; omega⟩ (Nat.le_of_ble_eq_true rfl) (fun r L3 σ3 h => ?_)
  obtain ⟨rfl, hL3, hR3, hHi⟩ := h
  replace hL3 := hL3.symm
  subst hL3
  have hC3 := hC2.hi hHi
  refine r_icmp_eq hX dL_law_1171 (fun _ => ?_) (fun c => absurd rfl c)
  exact At.more (kk _ _ _ _ hC3 hR3) (by show mc + 0 + 0 ≤ mc + 20; omega) (by show ms + 0 + 0 ≤ ms + 300; omega)

set_option maxHeartbeats 4000000 in
theorem lw_c30 {X : Cx} {nm : String} (hX : Ok X cL_law RL nm { frames := 2048, cells := 600000, slots := 7302250, locals := 84000 } (some .boolean)) (hE : LE (xD X)) {b n : Nat} {f : Nat → Int32} (hS : SX X b n f) (i : Nat) (hi : i + 6 ≤ n) (hn : n ≤ 3072) {L : La} {σ : Me} {s : Sx} {N : Nat} (hC : IC L σ s N) (hR : IR L σ s) (mc ms : Nat) (hmc : mc + 20 ≤ 600000) (hms : ms + 300 ≤ 7302250) (kk : ∀ L' σ' s' N', IC L' σ' s' N' → IR L' σ' s' → At X L' σ' (mc + 20) (ms + 300) [(0, .ref b), (1, .ref (L'.1 100)), (2, .ref (L'.1 0)), (3, .int (nI i))] 1542 []) : At X L σ mc ms [(0, .ref b), (1, .ref (L.1 100)), (2, .ref (L.1 0)), (3, .int (nI i))] 1176 [] := by
  refine r_aload_n hX dL_law_1176 rfl ?_
  refine r_aload_n hX dL_law_1177 rfl ?_
  refine r_iload_n hX dL_law_1178 rfl ?_
  refine r_iconst hX (nI 1) dL_law_1179 rfl ?_
  refine r_iaddN hX dL_law_1180 ?_
  refine r_sld hX hS (by omega) (by omega) dL_law_1181 ?_
  refine r_aload_n hX dL_law_1182 rfl ?_
  refine r_iload_n hX dL_law_1183 rfl ?_
  refine r_iconst hX (nI 2) dL_law_1184 rfl ?_
  refine r_iaddN hX dL_law_1185 ?_
  refine r_sld hX hS (by omega) (by omega) dL_law_1186 ?_
  refine r_callVNI (As := [.int (f (i + 1)), .int (f (i + 2))]) (rest := []) hX (k_pour hE hC  (f (i + 1)) (f (i + 2))) dL_law_1187 cb_L_138 (hC.1.1.1 100 _ rfl) rfl rfl ⟨Nat.le_of_ble_eq_true rfl, Nat.le_of_ble_eq_true rfl⟩ ⟨by show mc + 0 ≤ 600000; omega, by show ms + 0 ≤ 7302250; omega⟩ (Nat.le_of_ble_eq_true rfl) (fun r L2 σ2 h => ?_)
  obtain ⟨rfl, ⟨N2, hC2⟩, hLo⟩ := h
  have hR2 := hR.lo hLo
  refine At.to (ls' := [(0, .ref b), (1, .ref (L2.1 100)), (2, .ref (L2.1 0)), (3, .int (nI i))]) (st' := [.int ((oPour s.1 s.2.2.2.1 (f (i + 1)) (f (i + 2))).1)]) ?_ (by rw [hLo.2.1, (hLo.1 0 (by decide)).1]) rfl rfl
  refine r_aload_n hX dL_law_1190 rfl ?_
  refine r_aload_n hX dL_law_1191 rfl ?_
  refine r_iload_n hX dL_law_1192 rfl ?_
  refine r_iconst hX (nI 1) dL_law_1193 rfl ?_
  refine r_iaddN hX dL_law_1194 ?_
  refine r_sld hX hS (by omega) (by omega) dL_law_1195 ?_
  refine r_aload_n hX dL_law_1196 rfl ?_
  refine r_iload_n hX dL_law_1197 rfl ?_
  refine r_iconst hX (nI 2) dL_law_1198 rfl ?_
  refine r_iaddN hX dL_law_1199 ?_
  refine r_sld hX hS (by omega) (by omega) dL_law_1200 ?_
  refine r_callVNI (As := [.int (f (i + 1)), .int (f (i + 2))]) (rest := [.int ((oPour s.1 s.2.2.2.1 (f (i + 1)) (f (i + 2))).1)]) hX (j_pour hE hC.2.2.1 hR2 (f (i + 1)) (f (i + 2))) dL_law_1201 cb_L_141 (hR2.1.1 0 _ rfl) rfl rfl ⟨Nat.le_of_ble_eq_true rfl, Nat.le_of_ble_eq_true rfl⟩ ⟨by show mc + 0 + 0 ≤ 600000; omega, by show ms + 0 + 0 ≤ 7302250; omega⟩ (Nat.le_of_ble_eq_true rfl) (fun r L3 σ3 h => ?_)
  obtain ⟨rfl, hL3, hR3, hHi⟩ := h
  replace hL3 := hL3.symm
  subst hL3
  have hC3 := hC2.hi hHi
  refine r_icmp_eq hX dL_law_1204 (fun _ => ?_) (fun c => absurd rfl c)
  exact At.more (kk _ _ _ _ hC3 hR3) (by show mc + 0 + 0 ≤ mc + 20; omega) (by show ms + 0 + 0 ≤ ms + 300; omega)

set_option maxHeartbeats 4000000 in
theorem lw_c31 {X : Cx} {nm : String} (hX : Ok X cL_law RL nm { frames := 2048, cells := 600000, slots := 7302250, locals := 84000 } (some .boolean)) (hE : LE (xD X)) {b n : Nat} {f : Nat → Int32} (hS : SX X b n f) (i : Nat) (hi : i + 6 ≤ n) (hn : n ≤ 3072) {L : La} {σ : Me} {s : Sx} {N : Nat} (hC : IC L σ s N) (hR : IR L σ s) (mc ms : Nat) (hmc : mc + 20 ≤ 600000) (hms : ms + 300 ≤ 7302250) (kk : ∀ L' σ' s' N', IC L' σ' s' N' → IR L' σ' s' → At X L' σ' (mc + 20) (ms + 300) [(0, .ref b), (1, .ref (L'.1 100)), (2, .ref (L'.1 0)), (3, .int (nI i))] 1542 []) : At X L σ mc ms [(0, .ref b), (1, .ref (L.1 100)), (2, .ref (L.1 0)), (3, .int (nI i))] 1209 [] := by
  refine r_aload_n hX dL_law_1209 rfl ?_
  refine r_aload_n hX dL_law_1210 rfl ?_
  refine r_iload_n hX dL_law_1211 rfl ?_
  refine r_iconst hX (nI 1) dL_law_1212 rfl ?_
  refine r_iaddN hX dL_law_1213 ?_
  refine r_sld hX hS (by omega) (by omega) dL_law_1214 ?_
  refine r_callVNI (As := [.int (f (i + 1))]) (rest := []) hX (k_reads hE hC  (f (i + 1))) dL_law_1215 cb_L_142 (hC.1.1.1 100 _ rfl) rfl rfl ⟨Nat.le_of_ble_eq_true rfl, Nat.le_of_ble_eq_true rfl⟩ ⟨by show mc + 0 ≤ 600000; omega, by show ms + 0 ≤ 7302250; omega⟩ (Nat.le_of_ble_eq_true rfl) (fun r L2 σ2 h => ?_)
  obtain ⟨rfl, ⟨N2, hC2⟩, hLo⟩ := h
  have hR2 := hR.lo hLo
  refine At.to (ls' := [(0, .ref b), (1, .ref (L2.1 100)), (2, .ref (L2.1 0)), (3, .int (nI i))]) (st' := [.int ((oReads s.1 s.2.2.2.1 (f (i + 1))))]) ?_ (by rw [hLo.2.1, (hLo.1 0 (by decide)).1]) rfl rfl
  refine r_aload_n hX dL_law_1218 rfl ?_
  refine r_aload_n hX dL_law_1219 rfl ?_
  refine r_iload_n hX dL_law_1220 rfl ?_
  refine r_iconst hX (nI 1) dL_law_1221 rfl ?_
  refine r_iaddN hX dL_law_1222 ?_
  refine r_sld hX hS (by omega) (by omega) dL_law_1223 ?_
  refine r_callVNI (As := [.int (f (i + 1))]) (rest := [.int ((oReads s.1 s.2.2.2.1 (f (i + 1))))]) hX (j_reads hE hC.2.2.1 hR2 (f (i + 1))) dL_law_1224 cb_L_145 (hR2.1.1 0 _ rfl) rfl rfl ⟨Nat.le_of_ble_eq_true rfl, Nat.le_of_ble_eq_true rfl⟩ ⟨by show mc + 0 + 0 ≤ 600000; omega, by show ms + 0 + 0 ≤ 7302250; omega⟩ (Nat.le_of_ble_eq_true rfl) (fun r L3 σ3 h => ?_)
  obtain ⟨rfl, hL3, hR3, hHi⟩ := h
  replace hL3 := hL3.symm
  subst hL3
  have hC3 := hC2.hi hHi
  refine r_icmp_eq hX dL_law_1227 (fun _ => ?_) (fun c => absurd rfl c)
  exact At.more (kk _ _ _ _ hC3 hR3) (by show mc + 0 + 0 ≤ mc + 20; omega) (by show ms + 0 + 0 ≤ ms + 300; omega)

set_option maxHeartbeats 4000000 in
theorem lw_c32 {X : Cx} {nm : String} (hX : Ok X cL_law RL nm { frames := 2048, cells := 600000, slots := 7302250, locals := 84000 } (some .boolean)) (hE : LE (xD X)) {b n : Nat} {f : Nat → Int32} (hS : SX X b n f) (i : Nat) (hi : i + 6 ≤ n) (hn : n ≤ 3072) {L : La} {σ : Me} {s : Sx} {N : Nat} (hC : IC L σ s N) (hR : IR L σ s) (mc ms : Nat) (hmc : mc + 20 ≤ 600000) (hms : ms + 300 ≤ 7302250) (kk : ∀ L' σ' s' N', IC L' σ' s' N' → IR L' σ' s' → At X L' σ' (mc + 20) (ms + 300) [(0, .ref b), (1, .ref (L'.1 100)), (2, .ref (L'.1 0)), (3, .int (nI i))] 1542 []) : At X L σ mc ms [(0, .ref b), (1, .ref (L.1 100)), (2, .ref (L.1 0)), (3, .int (nI i))] 1232 [] := by
  refine r_aload_n hX dL_law_1232 rfl ?_
  refine r_aload_n hX dL_law_1233 rfl ?_
  refine r_iload_n hX dL_law_1234 rfl ?_
  refine r_iconst hX (nI 1) dL_law_1235 rfl ?_
  refine r_iaddN hX dL_law_1236 ?_
  refine r_sld hX hS (by omega) (by omega) dL_law_1237 ?_
  refine r_aload_n hX dL_law_1238 rfl ?_
  refine r_iload_n hX dL_law_1239 rfl ?_
  refine r_iconst hX (nI 2) dL_law_1240 rfl ?_
  refine r_iaddN hX dL_law_1241 ?_
  refine r_sld hX hS (by omega) (by omega) dL_law_1242 ?_
  refine r_aload_n hX dL_law_1243 rfl ?_
  refine r_iload_n hX dL_law_1244 rfl ?_
  refine r_iconst hX (nI 3) dL_law_1245 rfl ?_
  refine r_iaddN hX dL_law_1246 ?_
  refine r_sld hX hS (by omega) (by omega) dL_law_1247 ?_
  refine r_aload_n hX dL_law_1248 rfl ?_
  refine r_iload_n hX dL_law_1249 rfl ?_
  refine r_iconst hX (nI 4) dL_law_1250 rfl ?_
  refine r_iaddN hX dL_law_1251 ?_
  refine r_sld hX hS (by omega) (by omega) dL_law_1252 ?_
  refine r_aload_n hX dL_law_1253 rfl ?_
  refine r_iload_n hX dL_law_1254 rfl ?_
  refine r_iconst hX (nI 5) dL_law_1255 rfl ?_
  refine r_iaddN hX dL_law_1256 ?_
  refine r_sld hX hS (by omega) (by omega) dL_law_1257 ?_
  refine r_callVNI (As := [.int (f (i + 1)), .int (f (i + 2)), .int (f (i + 3)), .int (f (i + 4)), .int (f (i + 5))]) (rest := []) hX (k_copy hE hC  (f (i + 1)) (f (i + 2)) (f (i + 3)) (f (i + 4)) (f (i + 5))) dL_law_1258 cb_L_146 (hC.1.1.1 100 _ rfl) rfl rfl ⟨Nat.le_of_ble_eq_true rfl, Nat.le_of_ble_eq_true rfl⟩ ⟨by show mc + 0 ≤ 600000; omega, by show ms + 0 ≤ 7302250; omega⟩ (Nat.le_of_ble_eq_true rfl) (fun r L2 σ2 h => ?_)
  obtain ⟨rfl, ⟨N2, hC2⟩, hLo⟩ := h
  have hR2 := hR.lo hLo
  refine At.to (ls' := [(0, .ref b), (1, .ref (L2.1 100)), (2, .ref (L2.1 0)), (3, .int (nI i))]) (st' := [.int ((oCopy s.2.2.2.1 (f (i + 1)) (f (i + 2)) (f (i + 3)) (f (i + 4)) (f (i + 5))).1)]) ?_ (by rw [hLo.2.1, (hLo.1 0 (by decide)).1]) rfl rfl
  refine r_aload_n hX dL_law_1261 rfl ?_
  refine r_aload_n hX dL_law_1262 rfl ?_
  refine r_iload_n hX dL_law_1263 rfl ?_
  refine r_iconst hX (nI 1) dL_law_1264 rfl ?_
  refine r_iaddN hX dL_law_1265 ?_
  refine r_sld hX hS (by omega) (by omega) dL_law_1266 ?_
  refine r_aload_n hX dL_law_1267 rfl ?_
  refine r_iload_n hX dL_law_1268 rfl ?_
  refine r_iconst hX (nI 2) dL_law_1269 rfl ?_
  refine r_iaddN hX dL_law_1270 ?_
  refine r_sld hX hS (by omega) (by omega) dL_law_1271 ?_
  refine r_aload_n hX dL_law_1272 rfl ?_
  refine r_iload_n hX dL_law_1273 rfl ?_
  refine r_iconst hX (nI 3) dL_law_1274 rfl ?_
  refine r_iaddN hX dL_law_1275 ?_
  refine r_sld hX hS (by omega) (by omega) dL_law_1276 ?_
  refine r_aload_n hX dL_law_1277 rfl ?_
  refine r_iload_n hX dL_law_1278 rfl ?_
  refine r_iconst hX (nI 4) dL_law_1279 rfl ?_
  refine r_iaddN hX dL_law_1280 ?_
  refine r_sld hX hS (by omega) (by omega) dL_law_1281 ?_
  refine r_aload_n hX dL_law_1282 rfl ?_
  refine r_iload_n hX dL_law_1283 rfl ?_
  refine r_iconst hX (nI 5) dL_law_1284 rfl ?_
  refine r_iaddN hX dL_law_1285 ?_
  refine r_sld hX hS (by omega) (by omega) dL_law_1286 ?_
  refine r_callVNI (As := [.int (f (i + 1)), .int (f (i + 2)), .int (f (i + 3)), .int (f (i + 4)), .int (f (i + 5))]) (rest := [.int ((oCopy s.2.2.2.1 (f (i + 1)) (f (i + 2)) (f (i + 3)) (f (i + 4)) (f (i + 5))).1)]) hX (j_copy hE hC.2.2.1 hR2 (f (i + 1)) (f (i + 2)) (f (i + 3)) (f (i + 4)) (f (i + 5))) dL_law_1287 cb_L_150 (hR2.1.1 0 _ rfl) rfl rfl ⟨Nat.le_of_ble_eq_true rfl, Nat.le_of_ble_eq_true rfl⟩ ⟨by show mc + 0 + 0 ≤ 600000; omega, by show ms + 0 + 0 ≤ 7302250; omega⟩ (Nat.le_of_ble_eq_true rfl) (fun r L3 σ3 h => ?_)
  obtain ⟨rfl, hL3, hR3, hHi⟩ := h
  replace hL3 := hL3.symm
  subst hL3
  have hC3 := hC2.hi hHi
  refine r_icmp_eq hX dL_law_1290 (fun _ => ?_) (fun c => absurd rfl c)
  exact At.more (kk _ _ _ _ hC3 hR3) (by show mc + 0 + 0 ≤ mc + 20; omega) (by show ms + 0 + 0 ≤ ms + 300; omega)

set_option maxHeartbeats 4000000 in
theorem lw_c33 {X : Cx} {nm : String} (hX : Ok X cL_law RL nm { frames := 2048, cells := 600000, slots := 7302250, locals := 84000 } (some .boolean)) (hE : LE (xD X)) {b n : Nat} {f : Nat → Int32} (hS : SX X b n f) (i : Nat) (hi : i + 6 ≤ n) (hn : n ≤ 3072) {L : La} {σ : Me} {s : Sx} {N : Nat} (hC : IC L σ s N) (hR : IR L σ s) (mc ms : Nat) (hmc : mc + 20 ≤ 600000) (hms : ms + 300 ≤ 7302250) (kk : ∀ L' σ' s' N', IC L' σ' s' N' → IR L' σ' s' → At X L' σ' (mc + 20) (ms + 300) [(0, .ref b), (1, .ref (L'.1 100)), (2, .ref (L'.1 0)), (3, .int (nI i))] 1542 []) : At X L σ mc ms [(0, .ref b), (1, .ref (L.1 100)), (2, .ref (L.1 0)), (3, .int (nI i))] 1295 [] := by
  refine r_aload_n hX dL_law_1295 rfl ?_
  refine r_aload_n hX dL_law_1296 rfl ?_
  refine r_iload_n hX dL_law_1297 rfl ?_
  refine r_iconst hX (nI 1) dL_law_1298 rfl ?_
  refine r_iaddN hX dL_law_1299 ?_
  refine r_sld hX hS (by omega) (by omega) dL_law_1300 ?_
  refine r_aload_n hX dL_law_1301 rfl ?_
  refine r_iload_n hX dL_law_1302 rfl ?_
  refine r_iconst hX (nI 2) dL_law_1303 rfl ?_
  refine r_iaddN hX dL_law_1304 ?_
  refine r_sld hX hS (by omega) (by omega) dL_law_1305 ?_
  refine r_aload_n hX dL_law_1306 rfl ?_
  refine r_iload_n hX dL_law_1307 rfl ?_
  refine r_iconst hX (nI 3) dL_law_1308 rfl ?_
  refine r_iaddN hX dL_law_1309 ?_
  refine r_sld hX hS (by omega) (by omega) dL_law_1310 ?_
  refine r_callVNI (As := [.int (f (i + 1)), .int (f (i + 2)), .int (f (i + 3))]) (rest := []) hX (k_lay hE hC  (f (i + 1)) (f (i + 2)) (f (i + 3))) dL_law_1311 cb_L_151 (hC.1.1.1 100 _ rfl) rfl rfl ⟨Nat.le_of_ble_eq_true rfl, Nat.le_of_ble_eq_true rfl⟩ ⟨by show mc + 2 ≤ 600000; omega, by show ms + 27 ≤ 7302250; omega⟩ (Nat.le_of_ble_eq_true rfl) (fun r L2 σ2 h => ?_)
  obtain ⟨rfl, ⟨N2, hC2⟩, hLo⟩ := h
  have hR2 := hR.lo hLo
  refine At.to (ls' := [(0, .ref b), (1, .ref (L2.1 100)), (2, .ref (L2.1 0)), (3, .int (nI i))]) (st' := [.int ((oLay s.1 s.2.2.2.1 s.2.2.2.2.2 (f (i + 1)) (f (i + 2)) (f (i + 3))).1)]) ?_ (by rw [hLo.2.1, (hLo.1 0 (by decide)).1]) rfl rfl
  refine r_aload_n hX dL_law_1314 rfl ?_
  refine r_aload_n hX dL_law_1315 rfl ?_
  refine r_iload_n hX dL_law_1316 rfl ?_
  refine r_iconst hX (nI 1) dL_law_1317 rfl ?_
  refine r_iaddN hX dL_law_1318 ?_
  refine r_sld hX hS (by omega) (by omega) dL_law_1319 ?_
  refine r_aload_n hX dL_law_1320 rfl ?_
  refine r_iload_n hX dL_law_1321 rfl ?_
  refine r_iconst hX (nI 2) dL_law_1322 rfl ?_
  refine r_iaddN hX dL_law_1323 ?_
  refine r_sld hX hS (by omega) (by omega) dL_law_1324 ?_
  refine r_aload_n hX dL_law_1325 rfl ?_
  refine r_iload_n hX dL_law_1326 rfl ?_
  refine r_iconst hX (nI 3) dL_law_1327 rfl ?_
  refine r_iaddN hX dL_law_1328 ?_
  refine r_sld hX hS (by omega) (by omega) dL_law_1329 ?_
  refine r_callVNI (As := [.int (f (i + 1)), .int (f (i + 2)), .int (f (i + 3))]) (rest := [.int ((oLay s.1 s.2.2.2.1 s.2.2.2.2.2 (f (i + 1)) (f (i + 2)) (f (i + 3))).1)]) hX (j_lay hE hC.2.2.1 hR2 (f (i + 1)) (f (i + 2)) (f (i + 3))) dL_law_1330 cb_L_154 (hR2.1.1 0 _ rfl) rfl rfl ⟨Nat.le_of_ble_eq_true rfl, Nat.le_of_ble_eq_true rfl⟩ ⟨by show mc + 2 + 0 ≤ 600000; omega, by show ms + 27 + 0 ≤ 7302250; omega⟩ (Nat.le_of_ble_eq_true rfl) (fun r L3 σ3 h => ?_)
  obtain ⟨rfl, hL3, hR3, hHi⟩ := h
  replace hL3 := hL3.symm
  subst hL3
  have hC3 := hC2.hi hHi
  refine r_icmp_eq hX dL_law_1333 (fun _ => ?_) (fun c => absurd rfl c)
  exact At.more (kk _ _ _ _ hC3 hR3) (by show mc + 2 + 0 ≤ mc + 20; omega) (by show ms + 27 + 0 ≤ ms + 300; omega)

set_option maxHeartbeats 4000000 in
theorem lw_c34 {X : Cx} {nm : String} (hX : Ok X cL_law RL nm { frames := 2048, cells := 600000, slots := 7302250, locals := 84000 } (some .boolean)) (hE : LE (xD X)) {b n : Nat} {f : Nat → Int32} (hS : SX X b n f) (i : Nat) (hi : i + 6 ≤ n) (hn : n ≤ 3072) {L : La} {σ : Me} {s : Sx} {N : Nat} (hC : IC L σ s N) (hR : IR L σ s) (mc ms : Nat) (hmc : mc + 20 ≤ 600000) (hms : ms + 300 ≤ 7302250) (kk : ∀ L' σ' s' N', IC L' σ' s' N' → IR L' σ' s' → At X L' σ' (mc + 20) (ms + 300) [(0, .ref b), (1, .ref (L'.1 100)), (2, .ref (L'.1 0)), (3, .int (nI i))] 1542 []) : At X L σ mc ms [(0, .ref b), (1, .ref (L.1 100)), (2, .ref (L.1 0)), (3, .int (nI i))] 1338 [] := by
  refine r_aload_n hX dL_law_1338 rfl ?_
  refine r_aload_n hX dL_law_1339 rfl ?_
  refine r_iload_n hX dL_law_1340 rfl ?_
  refine r_iconst hX (nI 1) dL_law_1341 rfl ?_
  refine r_iaddN hX dL_law_1342 ?_
  refine r_sld hX hS (by omega) (by omega) dL_law_1343 ?_
  refine r_aload_n hX dL_law_1344 rfl ?_
  refine r_iload_n hX dL_law_1345 rfl ?_
  refine r_iconst hX (nI 2) dL_law_1346 rfl ?_
  refine r_iaddN hX dL_law_1347 ?_
  refine r_sld hX hS (by omega) (by omega) dL_law_1348 ?_
  refine r_callVNI (As := [.int (f (i + 1)), .int (f (i + 2))]) (rest := []) hX (k_ask hE hC  (f (i + 1)) (f (i + 2))) dL_law_1349 cb_L_155 (hC.1.1.1 100 _ rfl) rfl rfl ⟨Nat.le_of_ble_eq_true rfl, Nat.le_of_ble_eq_true rfl⟩ ⟨by show mc + 0 ≤ 600000; omega, by show ms + 0 ≤ 7302250; omega⟩ (Nat.le_of_ble_eq_true rfl) (fun r L2 σ2 h => ?_)
  obtain ⟨rfl, ⟨N2, hC2⟩, hLo⟩ := h
  have hR2 := hR.lo hLo
  refine At.to (ls' := [(0, .ref b), (1, .ref (L2.1 100)), (2, .ref (L2.1 0)), (3, .int (nI i))]) (st' := [.int ((oAsk s.2.2.2.2.2 (f (i + 1)) (f (i + 2))))]) ?_ (by rw [hLo.2.1, (hLo.1 0 (by decide)).1]) rfl rfl
  refine r_aload_n hX dL_law_1352 rfl ?_
  refine r_aload_n hX dL_law_1353 rfl ?_
  refine r_iload_n hX dL_law_1354 rfl ?_
  refine r_iconst hX (nI 1) dL_law_1355 rfl ?_
  refine r_iaddN hX dL_law_1356 ?_
  refine r_sld hX hS (by omega) (by omega) dL_law_1357 ?_
  refine r_aload_n hX dL_law_1358 rfl ?_
  refine r_iload_n hX dL_law_1359 rfl ?_
  refine r_iconst hX (nI 2) dL_law_1360 rfl ?_
  refine r_iaddN hX dL_law_1361 ?_
  refine r_sld hX hS (by omega) (by omega) dL_law_1362 ?_
  refine r_callVNI (As := [.int (f (i + 1)), .int (f (i + 2))]) (rest := [.int ((oAsk s.2.2.2.2.2 (f (i + 1)) (f (i + 2))))]) hX (j_ask hE hC.2.2.1 hR2 (f (i + 1)) (f (i + 2))) dL_law_1363 cb_L_158 (hR2.1.1 0 _ rfl) rfl rfl ⟨Nat.le_of_ble_eq_true rfl, Nat.le_of_ble_eq_true rfl⟩ ⟨by show mc + 0 + 0 ≤ 600000; omega, by show ms + 0 + 0 ≤ 7302250; omega⟩ (Nat.le_of_ble_eq_true rfl) (fun r L3 σ3 h => ?_)
  obtain ⟨rfl, hL3, hR3, hHi⟩ := h
  replace hL3 := hL3.symm
  subst hL3
  have hC3 := hC2.hi hHi
  refine r_icmp_eq hX dL_law_1366 (fun _ => ?_) (fun c => absurd rfl c)
  exact At.more (kk _ _ _ _ hC3 hR3) (by show mc + 0 + 0 ≤ mc + 20; omega) (by show ms + 0 + 0 ≤ ms + 300; omega)

set_option maxHeartbeats 4000000 in
theorem lw_c35 {X : Cx} {nm : String} (hX : Ok X cL_law RL nm { frames := 2048, cells := 600000, slots := 7302250, locals := 84000 } (some .boolean)) (hE : LE (xD X)) {b n : Nat} {f : Nat → Int32} (hS : SX X b n f) (i : Nat) (hi : i + 6 ≤ n) (hn : n ≤ 3072) {L : La} {σ : Me} {s : Sx} {N : Nat} (hC : IC L σ s N) (hR : IR L σ s) (mc ms : Nat) (hmc : mc + 20 ≤ 600000) (hms : ms + 300 ≤ 7302250) (kk : ∀ L' σ' s' N', IC L' σ' s' N' → IR L' σ' s' → At X L' σ' (mc + 20) (ms + 300) [(0, .ref b), (1, .ref (L'.1 100)), (2, .ref (L'.1 0)), (3, .int (nI i))] 1542 []) : At X L σ mc ms [(0, .ref b), (1, .ref (L.1 100)), (2, .ref (L.1 0)), (3, .int (nI i))] 1371 [] := by
  refine r_aload_n hX dL_law_1371 rfl ?_
  refine r_aload_n hX dL_law_1372 rfl ?_
  refine r_iload_n hX dL_law_1373 rfl ?_
  refine r_iconst hX (nI 1) dL_law_1374 rfl ?_
  refine r_iaddN hX dL_law_1375 ?_
  refine r_sld hX hS (by omega) (by omega) dL_law_1376 ?_
  refine r_aload_n hX dL_law_1377 rfl ?_
  refine r_iload_n hX dL_law_1378 rfl ?_
  refine r_iconst hX (nI 2) dL_law_1379 rfl ?_
  refine r_iaddN hX dL_law_1380 ?_
  refine r_sld hX hS (by omega) (by omega) dL_law_1381 ?_
  refine r_callVNI (As := [.int (f (i + 1)), .int (f (i + 2))]) (rest := []) hX (k_item hE hC  (f (i + 1)) (f (i + 2))) dL_law_1382 cb_L_159 (hC.1.1.1 100 _ rfl) rfl rfl ⟨Nat.le_of_ble_eq_true rfl, Nat.le_of_ble_eq_true rfl⟩ ⟨by show mc + 0 ≤ 600000; omega, by show ms + 0 ≤ 7302250; omega⟩ (Nat.le_of_ble_eq_true rfl) (fun r L2 σ2 h => ?_)
  obtain ⟨rfl, ⟨N2, hC2⟩, hLo⟩ := h
  have hR2 := hR.lo hLo
  refine At.to (ls' := [(0, .ref b), (1, .ref (L2.1 100)), (2, .ref (L2.1 0)), (3, .int (nI i))]) (st' := [.int ((oItem s.2.2.2.2.2 (f (i + 1)) (f (i + 2))))]) ?_ (by rw [hLo.2.1, (hLo.1 0 (by decide)).1]) rfl rfl
  refine r_aload_n hX dL_law_1385 rfl ?_
  refine r_aload_n hX dL_law_1386 rfl ?_
  refine r_iload_n hX dL_law_1387 rfl ?_
  refine r_iconst hX (nI 1) dL_law_1388 rfl ?_
  refine r_iaddN hX dL_law_1389 ?_
  refine r_sld hX hS (by omega) (by omega) dL_law_1390 ?_
  refine r_aload_n hX dL_law_1391 rfl ?_
  refine r_iload_n hX dL_law_1392 rfl ?_
  refine r_iconst hX (nI 2) dL_law_1393 rfl ?_
  refine r_iaddN hX dL_law_1394 ?_
  refine r_sld hX hS (by omega) (by omega) dL_law_1395 ?_
  refine r_callVNI (As := [.int (f (i + 1)), .int (f (i + 2))]) (rest := [.int ((oItem s.2.2.2.2.2 (f (i + 1)) (f (i + 2))))]) hX (j_item hE hC.2.2.1 hR2 (f (i + 1)) (f (i + 2))) dL_law_1396 cb_L_162 (hR2.1.1 0 _ rfl) rfl rfl ⟨Nat.le_of_ble_eq_true rfl, Nat.le_of_ble_eq_true rfl⟩ ⟨by show mc + 0 + 0 ≤ 600000; omega, by show ms + 0 + 0 ≤ 7302250; omega⟩ (Nat.le_of_ble_eq_true rfl) (fun r L3 σ3 h => ?_)
  obtain ⟨rfl, hL3, hR3, hHi⟩ := h
  replace hL3 := hL3.symm
  subst hL3
  have hC3 := hC2.hi hHi
  refine r_icmp_eq hX dL_law_1399 (fun _ => ?_) (fun c => absurd rfl c)
  exact At.more (kk _ _ _ _ hC3 hR3) (by show mc + 0 + 0 ≤ mc + 20; omega) (by show ms + 0 + 0 ≤ ms + 300; omega)

set_option maxHeartbeats 4000000 in
theorem lw_c36 {X : Cx} {nm : String} (hX : Ok X cL_law RL nm { frames := 2048, cells := 600000, slots := 7302250, locals := 84000 } (some .boolean)) (hE : LE (xD X)) {b n : Nat} {f : Nat → Int32} (hS : SX X b n f) (i : Nat) (hi : i + 6 ≤ n) (hn : n ≤ 3072) {L : La} {σ : Me} {s : Sx} {N : Nat} (hC : IC L σ s N) (hR : IR L σ s) (mc ms : Nat) (hmc : mc + 20 ≤ 600000) (hms : ms + 300 ≤ 7302250) (kk : ∀ L' σ' s' N', IC L' σ' s' N' → IR L' σ' s' → At X L' σ' (mc + 20) (ms + 300) [(0, .ref b), (1, .ref (L'.1 100)), (2, .ref (L'.1 0)), (3, .int (nI i))] 1542 []) : At X L σ mc ms [(0, .ref b), (1, .ref (L.1 100)), (2, .ref (L.1 0)), (3, .int (nI i))] 1404 [] := by
  refine r_aload_n hX dL_law_1404 rfl ?_
  refine r_aload_n hX dL_law_1405 rfl ?_
  refine r_iload_n hX dL_law_1406 rfl ?_
  refine r_iconst hX (nI 1) dL_law_1407 rfl ?_
  refine r_iaddN hX dL_law_1408 ?_
  refine r_sld hX hS (by omega) (by omega) dL_law_1409 ?_
  refine r_aload_n hX dL_law_1410 rfl ?_
  refine r_iload_n hX dL_law_1411 rfl ?_
  refine r_iconst hX (nI 2) dL_law_1412 rfl ?_
  refine r_iaddN hX dL_law_1413 ?_
  refine r_sld hX hS (by omega) (by omega) dL_law_1414 ?_
  refine r_callVNI (As := [.int (f (i + 1)), .int (f (i + 2))]) (rest := []) hX (k_rest hE hC  (f (i + 1)) (f (i + 2))) dL_law_1415 cb_L_163 (hC.1.1.1 100 _ rfl) rfl rfl ⟨Nat.le_of_ble_eq_true rfl, Nat.le_of_ble_eq_true rfl⟩ ⟨by show mc + 0 ≤ 600000; omega, by show ms + 0 ≤ 7302250; omega⟩ (Nat.le_of_ble_eq_true rfl) (fun r L2 σ2 h => ?_)
  obtain ⟨rfl, ⟨N2, hC2⟩, hLo⟩ := h
  have hR2 := hR.lo hLo
  refine At.to (ls' := [(0, .ref b), (1, .ref (L2.1 100)), (2, .ref (L2.1 0)), (3, .int (nI i))]) (st' := [.int ((oRest s.2.2.2.2.2 (f (i + 1)) (f (i + 2))))]) ?_ (by rw [hLo.2.1, (hLo.1 0 (by decide)).1]) rfl rfl
  refine r_aload_n hX dL_law_1418 rfl ?_
  refine r_aload_n hX dL_law_1419 rfl ?_
  refine r_iload_n hX dL_law_1420 rfl ?_
  refine r_iconst hX (nI 1) dL_law_1421 rfl ?_
  refine r_iaddN hX dL_law_1422 ?_
  refine r_sld hX hS (by omega) (by omega) dL_law_1423 ?_
  refine r_aload_n hX dL_law_1424 rfl ?_
  refine r_iload_n hX dL_law_1425 rfl ?_
  refine r_iconst hX (nI 2) dL_law_1426 rfl ?_
  refine r_iaddN hX dL_law_1427 ?_
  refine r_sld hX hS (by omega) (by omega) dL_law_1428 ?_
  refine r_callVNI (As := [.int (f (i + 1)), .int (f (i + 2))]) (rest := [.int ((oRest s.2.2.2.2.2 (f (i + 1)) (f (i + 2))))]) hX (j_rest hE hC.2.2.1 hR2 (f (i + 1)) (f (i + 2))) dL_law_1429 cb_L_166 (hR2.1.1 0 _ rfl) rfl rfl ⟨Nat.le_of_ble_eq_true rfl, Nat.le_of_ble_eq_true rfl⟩ ⟨by show mc + 0 + 0 ≤ 600000; omega, by show ms + 0 + 0 ≤ 7302250; omega⟩ (Nat.le_of_ble_eq_true rfl) (fun r L3 σ3 h => ?_)
  obtain ⟨rfl, hL3, hR3, hHi⟩ := h
  replace hL3 := hL3.symm
  subst hL3
  have hC3 := hC2.hi hHi
  refine r_icmp_eq hX dL_law_1432 (fun _ => ?_) (fun c => absurd rfl c)
  exact At.more (kk _ _ _ _ hC3 hR3) (by show mc + 0 + 0 ≤ mc + 20; omega) (by show ms + 0 + 0 ≤ ms + 300; omega)

set_option maxHeartbeats 4000000 in
theorem lw_c37 {X : Cx} {nm : String} (hX : Ok X cL_law RL nm { frames := 2048, cells := 600000, slots := 7302250, locals := 84000 } (some .boolean)) (hE : LE (xD X)) {b n : Nat} {f : Nat → Int32} (hS : SX X b n f) (i : Nat) (hi : i + 6 ≤ n) (hn : n ≤ 3072) {L : La} {σ : Me} {s : Sx} {N : Nat} (hC : IC L σ s N) (hR : IR L σ s) (mc ms : Nat) (hmc : mc + 20 ≤ 600000) (hms : ms + 300 ≤ 7302250) (kk : ∀ L' σ' s' N', IC L' σ' s' N' → IR L' σ' s' → At X L' σ' (mc + 20) (ms + 300) [(0, .ref b), (1, .ref (L'.1 100)), (2, .ref (L'.1 0)), (3, .int (nI i))] 1542 []) : At X L σ mc ms [(0, .ref b), (1, .ref (L.1 100)), (2, .ref (L.1 0)), (3, .int (nI i))] 1437 [] := by
  refine r_aload_n hX dL_law_1437 rfl ?_
  refine r_aload_n hX dL_law_1438 rfl ?_
  refine r_iload_n hX dL_law_1439 rfl ?_
  refine r_iconst hX (nI 1) dL_law_1440 rfl ?_
  refine r_iaddN hX dL_law_1441 ?_
  refine r_sld hX hS (by omega) (by omega) dL_law_1442 ?_
  refine r_callVNI (As := [.int (f (i + 1))]) (rest := []) hX (k_tell hE hC  (f (i + 1))) dL_law_1443 cb_L_167 (hC.1.1.1 100 _ rfl) rfl rfl ⟨Nat.le_of_ble_eq_true rfl, Nat.le_of_ble_eq_true rfl⟩ ⟨by show mc + 0 ≤ 600000; omega, by show ms + 0 ≤ 7302250; omega⟩ (Nat.le_of_ble_eq_true rfl) (fun r L2 σ2 h => ?_)
  obtain ⟨rfl, ⟨N2, hC2⟩, hLo⟩ := h
  have hR2 := hR.lo hLo
  refine At.to (ls' := [(0, .ref b), (1, .ref (L2.1 100)), (2, .ref (L2.1 0)), (3, .int (nI i))]) (st' := [.int ((oTell s.2.2.2.2.1 (f (i + 1))).1)]) ?_ (by rw [hLo.2.1, (hLo.1 0 (by decide)).1]) rfl rfl
  refine r_aload_n hX dL_law_1446 rfl ?_
  refine r_aload_n hX dL_law_1447 rfl ?_
  refine r_iload_n hX dL_law_1448 rfl ?_
  refine r_iconst hX (nI 1) dL_law_1449 rfl ?_
  refine r_iaddN hX dL_law_1450 ?_
  refine r_sld hX hS (by omega) (by omega) dL_law_1451 ?_
  refine r_callVNI (As := [.int (f (i + 1))]) (rest := [.int ((oTell s.2.2.2.2.1 (f (i + 1))).1)]) hX (j_tell hE hC.2.2.1 hR2 (f (i + 1))) dL_law_1452 cb_L_170 (hR2.1.1 0 _ rfl) rfl rfl ⟨Nat.le_of_ble_eq_true rfl, Nat.le_of_ble_eq_true rfl⟩ ⟨by show mc + 0 + 0 ≤ 600000; omega, by show ms + 0 + 0 ≤ 7302250; omega⟩ (Nat.le_of_ble_eq_true rfl) (fun r L3 σ3 h => ?_)
  obtain ⟨rfl, hL3, hR3, hHi⟩ := h
  replace hL3 := hL3.symm
  subst hL3
  have hC3 := hC2.hi hHi
  refine r_icmp_eq hX dL_law_1455 (fun _ => ?_) (fun c => absurd rfl c)
  exact At.more (kk _ _ _ _ hC3 hR3) (by show mc + 0 + 0 ≤ mc + 20; omega) (by show ms + 0 + 0 ≤ ms + 300; omega)

set_option maxHeartbeats 4000000 in
theorem lw_c38 {X : Cx} {nm : String} (hX : Ok X cL_law RL nm { frames := 2048, cells := 600000, slots := 7302250, locals := 84000 } (some .boolean)) (hE : LE (xD X)) {b n : Nat} {f : Nat → Int32} (hS : SX X b n f) (i : Nat) (hi : i + 6 ≤ n) (hn : n ≤ 3072) {L : La} {σ : Me} {s : Sx} {N : Nat} (hC : IC L σ s N) (hR : IR L σ s) (mc ms : Nat) (hmc : mc + 20 ≤ 600000) (hms : ms + 300 ≤ 7302250) (kk : ∀ L' σ' s' N', IC L' σ' s' N' → IR L' σ' s' → At X L' σ' (mc + 20) (ms + 300) [(0, .ref b), (1, .ref (L'.1 100)), (2, .ref (L'.1 0)), (3, .int (nI i))] 1542 []) : At X L σ mc ms [(0, .ref b), (1, .ref (L.1 100)), (2, .ref (L.1 0)), (3, .int (nI i))] 1460 [] := by
  rcases hK : s.2.1 with _ | B
  · skip
    refine r_aload_n hX dL_law_1460 rfl ?_
    refine r_aload_n hX dL_law_1461 rfl ?_
    refine r_iload_n hX dL_law_1462 rfl ?_
    refine r_iconst hX (nI 1) dL_law_1463 rfl ?_
    refine r_iaddN hX dL_law_1464 ?_
    refine r_sld hX hS (by omega) (by omega) dL_law_1465 ?_
    refine r_aload_n hX dL_law_1466 rfl ?_
    refine r_iload_n hX dL_law_1467 rfl ?_
    refine r_iconst hX (nI 2) dL_law_1468 rfl ?_
    refine r_iaddN hX dL_law_1469 ?_
    refine r_sld hX hS (by omega) (by omega) dL_law_1470 ?_
    refine r_callVNI (As := [.int (f (i + 1)), .int (f (i + 2))]) (rest := []) hX (k_checkN hE hC hK (f (i + 1)) (f (i + 2))) dL_law_1471 cb_L_171 (hC.1.1.1 100 _ rfl) rfl rfl ⟨Nat.le_of_ble_eq_true rfl, Nat.le_of_ble_eq_true rfl⟩ ⟨by show mc + 0 ≤ 600000; omega, by show ms + 0 ≤ 7302250; omega⟩ (Nat.le_of_ble_eq_true rfl) (fun r L2 σ2 h => ?_)
    obtain ⟨rfl, ⟨N2, hC2⟩, hLo⟩ := h
    have hR2 := hR.lo hLo
    refine At.to (ls' := [(0, .ref b), (1, .ref (L2.1 100)), (2, .ref (L2.1 0)), (3, .int (nI i))]) (st' := [.int (oCheck s.2.2.2.2.1 s.2.1 (f (i + 1)) (f (i + 2)))]) ?_ (by rw [hLo.2.1, (hLo.1 0 (by decide)).1]) rfl rfl
    refine r_aload_n hX dL_law_1474 rfl ?_
    refine r_aload_n hX dL_law_1475 rfl ?_
    refine r_iload_n hX dL_law_1476 rfl ?_
    refine r_iconst hX (nI 1) dL_law_1477 rfl ?_
    refine r_iaddN hX dL_law_1478 ?_
    refine r_sld hX hS (by omega) (by omega) dL_law_1479 ?_
    refine r_aload_n hX dL_law_1480 rfl ?_
    refine r_iload_n hX dL_law_1481 rfl ?_
    refine r_iconst hX (nI 2) dL_law_1482 rfl ?_
    refine r_iaddN hX dL_law_1483 ?_
    refine r_sld hX hS (by omega) (by omega) dL_law_1484 ?_
    refine r_callVNI (As := [.int (f (i + 1)), .int (f (i + 2))]) (rest := [.int (oCheck s.2.2.2.2.1 s.2.1 (f (i + 1)) (f (i + 2)))]) hX (j_check hE hC.2.2.1 hR2 (f (i + 1)) (f (i + 2))) dL_law_1485 cb_L_174 (hR2.1.1 0 _ rfl) rfl rfl ⟨Nat.le_of_ble_eq_true rfl, Nat.le_of_ble_eq_true rfl⟩ ⟨by show mc + 0 + 0 ≤ 600000; omega, by show ms + 0 + 0 ≤ 7302250; omega⟩ (Nat.le_of_ble_eq_true rfl) (fun r L3 σ3 h => ?_)
    obtain ⟨rfl, hL3, hR3, hHi⟩ := h
    replace hL3 := hL3.symm
    subst hL3
    have hC3 := hC2.hi hHi
    refine r_icmp_eq hX dL_law_1488 (fun _ => ?_) (fun c => absurd rfl c)
    exact At.more (kk _ _ _ _ hC3 hR3) (by show mc + 0 + 0 ≤ mc + 20; omega) (by show ms + 0 + 0 ≤ ms + 300; omega)
  · rcases hC.1.2.2.2.1 with hT | hT
    · skip
      refine r_aload_n hX dL_law_1460 rfl ?_
      refine r_aload_n hX dL_law_1461 rfl ?_
      refine r_iload_n hX dL_law_1462 rfl ?_
      refine r_iconst hX (nI 1) dL_law_1463 rfl ?_
      refine r_iaddN hX dL_law_1464 ?_
      refine r_sld hX hS (by omega) (by omega) dL_law_1465 ?_
      refine r_aload_n hX dL_law_1466 rfl ?_
      refine r_iload_n hX dL_law_1467 rfl ?_
      refine r_iconst hX (nI 2) dL_law_1468 rfl ?_
      refine r_iaddN hX dL_law_1469 ?_
      refine r_sld hX hS (by omega) (by omega) dL_law_1470 ?_
      refine r_callVNI (As := [.int (f (i + 1)), .int (f (i + 2))]) (rest := []) hX (k_check0 hE hC hK hT (f (i + 1)) (f (i + 2))) dL_law_1471 cb_L_171 (hC.1.1.1 100 _ rfl) rfl rfl ⟨Nat.le_of_ble_eq_true rfl, Nat.le_of_ble_eq_true rfl⟩ ⟨by show mc + 14 ≤ 600000; omega, by show ms + 275 ≤ 7302250; omega⟩ (Nat.le_of_ble_eq_true rfl) (fun r L2 σ2 h => ?_)
      obtain ⟨rfl, ⟨N2, hC2⟩, hLo⟩ := h
      have hR2 := hR.lo hLo
      refine At.to (ls' := [(0, .ref b), (1, .ref (L2.1 100)), (2, .ref (L2.1 0)), (3, .int (nI i))]) (st' := [.int (oCheck s.2.2.2.2.1 s.2.1 (f (i + 1)) (f (i + 2)))]) ?_ (by rw [hLo.2.1, (hLo.1 0 (by decide)).1]) rfl rfl
      refine r_aload_n hX dL_law_1474 rfl ?_
      refine r_aload_n hX dL_law_1475 rfl ?_
      refine r_iload_n hX dL_law_1476 rfl ?_
      refine r_iconst hX (nI 1) dL_law_1477 rfl ?_
      refine r_iaddN hX dL_law_1478 ?_
      refine r_sld hX hS (by omega) (by omega) dL_law_1479 ?_
      refine r_aload_n hX dL_law_1480 rfl ?_
      refine r_iload_n hX dL_law_1481 rfl ?_
      refine r_iconst hX (nI 2) dL_law_1482 rfl ?_
      refine r_iaddN hX dL_law_1483 ?_
      refine r_sld hX hS (by omega) (by omega) dL_law_1484 ?_
      refine r_callVNI (As := [.int (f (i + 1)), .int (f (i + 2))]) (rest := [.int (oCheck s.2.2.2.2.1 s.2.1 (f (i + 1)) (f (i + 2)))]) hX (j_check hE hC.2.2.1 hR2 (f (i + 1)) (f (i + 2))) dL_law_1485 cb_L_174 (hR2.1.1 0 _ rfl) rfl rfl ⟨Nat.le_of_ble_eq_true rfl, Nat.le_of_ble_eq_true rfl⟩ ⟨by show mc + 14 + 0 ≤ 600000; omega, by show ms + 275 + 0 ≤ 7302250; omega⟩ (Nat.le_of_ble_eq_true rfl) (fun r L3 σ3 h => ?_)
      obtain ⟨rfl, hL3, hR3, hHi⟩ := h
      replace hL3 := hL3.symm
      subst hL3
      have hC3 := hC2.hi hHi
      refine r_icmp_eq hX dL_law_1488 (fun _ => ?_) (fun c => absurd rfl c)
      exact At.more (kk _ _ _ _ hC3 hR3) (by show mc + 14 + 0 ≤ mc + 20; omega) (by show ms + 275 + 0 ≤ ms + 300; omega)
    · skip
      refine r_aload_n hX dL_law_1460 rfl ?_
      refine r_aload_n hX dL_law_1461 rfl ?_
      refine r_iload_n hX dL_law_1462 rfl ?_
      refine r_iconst hX (nI 1) dL_law_1463 rfl ?_
      refine r_iaddN hX dL_law_1464 ?_
      refine r_sld hX hS (by omega) (by omega) dL_law_1465 ?_
      refine r_aload_n hX dL_law_1466 rfl ?_
      refine r_iload_n hX dL_law_1467 rfl ?_
      refine r_iconst hX (nI 2) dL_law_1468 rfl ?_
      refine r_iaddN hX dL_law_1469 ?_
      refine r_sld hX hS (by omega) (by omega) dL_law_1470 ?_
      refine r_callVNI (As := [.int (f (i + 1)), .int (f (i + 2))]) (rest := []) hX (k_check1 hE hC hK hT (f (i + 1)) (f (i + 2))) dL_law_1471 cb_L_171 (hC.1.1.1 100 _ rfl) rfl rfl ⟨Nat.le_of_ble_eq_true rfl, Nat.le_of_ble_eq_true rfl⟩ ⟨by show mc + 0 ≤ 600000; omega, by show ms + 0 ≤ 7302250; omega⟩ (Nat.le_of_ble_eq_true rfl) (fun r L2 σ2 h => ?_)
      obtain ⟨rfl, ⟨N2, hC2⟩, hLo⟩ := h
      have hR2 := hR.lo hLo
      refine At.to (ls' := [(0, .ref b), (1, .ref (L2.1 100)), (2, .ref (L2.1 0)), (3, .int (nI i))]) (st' := [.int (oCheck s.2.2.2.2.1 s.2.1 (f (i + 1)) (f (i + 2)))]) ?_ (by rw [hLo.2.1, (hLo.1 0 (by decide)).1]) rfl rfl
      refine r_aload_n hX dL_law_1474 rfl ?_
      refine r_aload_n hX dL_law_1475 rfl ?_
      refine r_iload_n hX dL_law_1476 rfl ?_
      refine r_iconst hX (nI 1) dL_law_1477 rfl ?_
      refine r_iaddN hX dL_law_1478 ?_
      refine r_sld hX hS (by omega) (by omega) dL_law_1479 ?_
      refine r_aload_n hX dL_law_1480 rfl ?_
      refine r_iload_n hX dL_law_1481 rfl ?_
      refine r_iconst hX (nI 2) dL_law_1482 rfl ?_
      refine r_iaddN hX dL_law_1483 ?_
      refine r_sld hX hS (by omega) (by omega) dL_law_1484 ?_
      refine r_callVNI (As := [.int (f (i + 1)), .int (f (i + 2))]) (rest := [.int (oCheck s.2.2.2.2.1 s.2.1 (f (i + 1)) (f (i + 2)))]) hX (j_check hE hC.2.2.1 hR2 (f (i + 1)) (f (i + 2))) dL_law_1485 cb_L_174 (hR2.1.1 0 _ rfl) rfl rfl ⟨Nat.le_of_ble_eq_true rfl, Nat.le_of_ble_eq_true rfl⟩ ⟨by show mc + 0 + 0 ≤ 600000; omega, by show ms + 0 + 0 ≤ 7302250; omega⟩ (Nat.le_of_ble_eq_true rfl) (fun r L3 σ3 h => ?_)
      obtain ⟨rfl, hL3, hR3, hHi⟩ := h
      replace hL3 := hL3.symm
      subst hL3
      have hC3 := hC2.hi hHi
      refine r_icmp_eq hX dL_law_1488 (fun _ => ?_) (fun c => absurd rfl c)
      exact At.more (kk _ _ _ _ hC3 hR3) (by show mc + 0 + 0 ≤ mc + 20; omega) (by show ms + 0 + 0 ≤ ms + 300; omega)

set_option maxHeartbeats 4000000 in
theorem lw_c39 {X : Cx} {nm : String} (hX : Ok X cL_law RL nm { frames := 2048, cells := 600000, slots := 7302250, locals := 84000 } (some .boolean)) (hE : LE (xD X)) {b n : Nat} {f : Nat → Int32} (hS : SX X b n f) (i : Nat) (hi : i + 6 ≤ n) (hn : n ≤ 3072) {L : La} {σ : Me} {s : Sx} {N : Nat} (hC : IC L σ s N) (hR : IR L σ s) (mc ms : Nat) (hmc : mc + 20 ≤ 600000) (hms : ms + 300 ≤ 7302250) (kk : ∀ L' σ' s' N', IC L' σ' s' N' → IR L' σ' s' → At X L' σ' (mc + 20) (ms + 300) [(0, .ref b), (1, .ref (L'.1 100)), (2, .ref (L'.1 0)), (3, .int (nI i))] 1542 []) : At X L σ mc ms [(0, .ref b), (1, .ref (L.1 100)), (2, .ref (L.1 0)), (3, .int (nI i))] 1493 [] := by
  rcases hK : s.2.1 with _ | B
  · skip
    refine r_aload_n hX dL_law_1493 rfl ?_
    refine r_callVNI (As := []) (rest := []) hX (k_keep0 hE hC hK ) dL_law_1494 cb_L_175 (hC.1.1.1 100 _ rfl) rfl rfl ⟨Nat.le_of_ble_eq_true rfl, Nat.le_of_ble_eq_true rfl⟩ ⟨by show mc + 14 ≤ 600000; omega, by show ms + 275 ≤ 7302250; omega⟩ (Nat.le_of_ble_eq_true rfl) (fun r L2 σ2 h => ?_)
    obtain ⟨rfl, ⟨N2, hC2⟩, hLo⟩ := h
    have hR2 := hR.lo hLo
    refine At.to (ls' := [(0, .ref b), (1, .ref (L2.1 100)), (2, .ref (L2.1 0)), (3, .int (nI i))]) (st' := [.int (nI (aW s.1))]) ?_ (by rw [hLo.2.1, (hLo.1 0 (by decide)).1]) rfl rfl
    refine r_aload_n hX dL_law_1497 rfl ?_
    refine r_callVNI (As := []) (rest := [.int (nI (aW s.1))]) hX (j_keep hE hC.2.2.1 hR2 ) dL_law_1498 cb_L_178 (hR2.1.1 0 _ rfl) rfl rfl ⟨Nat.le_of_ble_eq_true rfl, Nat.le_of_ble_eq_true rfl⟩ ⟨by show mc + 14 + 0 ≤ 600000; omega, by show ms + 275 + 0 ≤ 7302250; omega⟩ (Nat.le_of_ble_eq_true rfl) (fun r L3 σ3 h => ?_)
    obtain ⟨rfl, hL3, hR3, hHi⟩ := h
    replace hL3 := hL3.symm
    subst hL3
    have hC3 := hC2.hi hHi
    refine r_icmp_eq hX dL_law_1501 (fun _ => ?_) (fun c => absurd rfl c)
    exact At.more (kk _ _ _ _ hC3 hR3) (by show mc + 14 + 0 ≤ mc + 20; omega) (by show ms + 275 + 0 ≤ ms + 300; omega)
  · skip
    refine r_aload_n hX dL_law_1493 rfl ?_
    refine r_callVNI (As := []) (rest := []) hX (k_keep1 hE hC hK ) dL_law_1494 cb_L_175 (hC.1.1.1 100 _ rfl) rfl rfl ⟨Nat.le_of_ble_eq_true rfl, Nat.le_of_ble_eq_true rfl⟩ ⟨by show mc + 0 ≤ 600000; omega, by show ms + 0 ≤ 7302250; omega⟩ (Nat.le_of_ble_eq_true rfl) (fun r L2 σ2 h => ?_)
    obtain ⟨rfl, ⟨N2, hC2⟩, hLo⟩ := h
    have hR2 := hR.lo hLo
    refine At.to (ls' := [(0, .ref b), (1, .ref (L2.1 100)), (2, .ref (L2.1 0)), (3, .int (nI i))]) (st' := [.int (nI (aW s.1))]) ?_ (by rw [hLo.2.1, (hLo.1 0 (by decide)).1]) rfl rfl
    refine r_aload_n hX dL_law_1497 rfl ?_
    refine r_callVNI (As := []) (rest := [.int (nI (aW s.1))]) hX (j_keep hE hC.2.2.1 hR2 ) dL_law_1498 cb_L_178 (hR2.1.1 0 _ rfl) rfl rfl ⟨Nat.le_of_ble_eq_true rfl, Nat.le_of_ble_eq_true rfl⟩ ⟨by show mc + 0 + 0 ≤ 600000; omega, by show ms + 0 + 0 ≤ 7302250; omega⟩ (Nat.le_of_ble_eq_true rfl) (fun r L3 σ3 h => ?_)
    obtain ⟨rfl, hL3, hR3, hHi⟩ := h
    replace hL3 := hL3.symm
    subst hL3
    have hC3 := hC2.hi hHi
    refine r_icmp_eq hX dL_law_1501 (fun _ => ?_) (fun c => absurd rfl c)
    exact At.more (kk _ _ _ _ hC3 hR3) (by show mc + 0 + 0 ≤ mc + 20; omega) (by show ms + 0 + 0 ≤ ms + 300; omega)

set_option maxHeartbeats 4000000 in
theorem lw_c40 {X : Cx} {nm : String} (hX : Ok X cL_law RL nm { frames := 2048, cells := 600000, slots := 7302250, locals := 84000 } (some .boolean)) (hE : LE (xD X)) {b n : Nat} {f : Nat → Int32} (hS : SX X b n f) (i : Nat) (hi : i + 6 ≤ n) (hn : n ≤ 3072) {L : La} {σ : Me} {s : Sx} {N : Nat} (hC : IC L σ s N) (hR : IR L σ s) (mc ms : Nat) (hmc : mc + 20 ≤ 600000) (hms : ms + 300 ≤ 7302250) (kk : ∀ L' σ' s' N', IC L' σ' s' N' → IR L' σ' s' → At X L' σ' (mc + 20) (ms + 300) [(0, .ref b), (1, .ref (L'.1 100)), (2, .ref (L'.1 0)), (3, .int (nI i))] 1542 []) : At X L σ mc ms [(0, .ref b), (1, .ref (L.1 100)), (2, .ref (L.1 0)), (3, .int (nI i))] 1506 [] := by
  rcases hK : s.2.1 with _ | B
  · skip
    refine r_aload_n hX dL_law_1506 rfl ?_
    refine r_callVNI (As := []) (rest := []) hX (k_back0 hE hC hK ) dL_law_1507 cb_L_179 (hC.1.1.1 100 _ rfl) rfl rfl ⟨Nat.le_of_ble_eq_true rfl, Nat.le_of_ble_eq_true rfl⟩ ⟨by show mc + 0 ≤ 600000; omega, by show ms + 0 ≤ 7302250; omega⟩ (Nat.le_of_ble_eq_true rfl) (fun r L2 σ2 h => ?_)
    obtain ⟨rfl, ⟨N2, hC2⟩, hLo⟩ := h
    have hR2 := hR.lo hLo
    refine At.to (ls' := [(0, .ref b), (1, .ref (L2.1 100)), (2, .ref (L2.1 0)), (3, .int (nI i))]) (st' := [.int (oBack s.2.1)]) ?_ (by rw [hLo.2.1, (hLo.1 0 (by decide)).1]) rfl rfl
    refine r_aload_n hX dL_law_1510 rfl ?_
    refine r_callVNI (As := []) (rest := [.int (oBack s.2.1)]) hX (j_back hE hC.2.2.1 hR2 ) dL_law_1511 cb_L_182 (hR2.1.1 0 _ rfl) rfl rfl ⟨Nat.le_of_ble_eq_true rfl, Nat.le_of_ble_eq_true rfl⟩ ⟨by show mc + 0 + 0 ≤ 600000; omega, by show ms + 0 + 0 ≤ 7302250; omega⟩ (Nat.le_of_ble_eq_true rfl) (fun r L3 σ3 h => ?_)
    obtain ⟨rfl, hL3, hR3, hHi⟩ := h
    replace hL3 := hL3.symm
    subst hL3
    have hC3 := hC2.hi hHi
    refine r_icmp_eq hX dL_law_1514 (fun _ => ?_) (fun c => absurd rfl c)
    exact At.more (kk _ _ _ _ hC3 hR3) (by show mc + 0 + 0 ≤ mc + 20; omega) (by show ms + 0 + 0 ≤ ms + 300; omega)
  · skip
    refine r_aload_n hX dL_law_1506 rfl ?_
    refine r_callVNI (As := []) (rest := []) hX (k_back1 hE hC hK ) dL_law_1507 cb_L_179 (hC.1.1.1 100 _ rfl) rfl rfl ⟨Nat.le_of_ble_eq_true rfl, Nat.le_of_ble_eq_true rfl⟩ ⟨by show mc + 0 ≤ 600000; omega, by show ms + 0 ≤ 7302250; omega⟩ (Nat.le_of_ble_eq_true rfl) (fun r L2 σ2 h => ?_)
    obtain ⟨rfl, ⟨N2, hC2⟩, hLo⟩ := h
    have hR2 := hR.lo hLo
    refine At.to (ls' := [(0, .ref b), (1, .ref (L2.1 100)), (2, .ref (L2.1 0)), (3, .int (nI i))]) (st' := [.int (oBack s.2.1)]) ?_ (by rw [hLo.2.1, (hLo.1 0 (by decide)).1]) rfl rfl
    refine r_aload_n hX dL_law_1510 rfl ?_
    refine r_callVNI (As := []) (rest := [.int (oBack s.2.1)]) hX (j_back hE hC.2.2.1 hR2 ) dL_law_1511 cb_L_182 (hR2.1.1 0 _ rfl) rfl rfl ⟨Nat.le_of_ble_eq_true rfl, Nat.le_of_ble_eq_true rfl⟩ ⟨by show mc + 0 + 0 ≤ 600000; omega, by show ms + 0 + 0 ≤ 7302250; omega⟩ (Nat.le_of_ble_eq_true rfl) (fun r L3 σ3 h => ?_)
    obtain ⟨rfl, hL3, hR3, hHi⟩ := h
    replace hL3 := hL3.symm
    subst hL3
    have hC3 := hC2.hi hHi
    refine r_icmp_eq hX dL_law_1514 (fun _ => ?_) (fun c => absurd rfl c)
    exact At.more (kk _ _ _ _ hC3 hR3) (by show mc + 0 + 0 ≤ mc + 20; omega) (by show ms + 0 + 0 ≤ ms + 300; omega)

set_option maxHeartbeats 4000000 in
theorem lw_c41 {X : Cx} {nm : String} (hX : Ok X cL_law RL nm { frames := 2048, cells := 600000, slots := 7302250, locals := 84000 } (some .boolean)) (hE : LE (xD X)) {b n : Nat} {f : Nat → Int32} (hS : SX X b n f) (i : Nat) (hi : i + 6 ≤ n) (hn : n ≤ 3072) {L : La} {σ : Me} {s : Sx} {N : Nat} (hC : IC L σ s N) (hR : IR L σ s) (mc ms : Nat) (hmc : mc + 20 ≤ 600000) (hms : ms + 300 ≤ 7302250) (kk : ∀ L' σ' s' N', IC L' σ' s' N' → IR L' σ' s' → At X L' σ' (mc + 20) (ms + 300) [(0, .ref b), (1, .ref (L'.1 100)), (2, .ref (L'.1 0)), (3, .int (nI i))] 1542 []) : At X L σ mc ms [(0, .ref b), (1, .ref (L.1 100)), (2, .ref (L.1 0)), (3, .int (nI i))] 1519 [] := by
  refine r_aload_n hX dL_law_1519 rfl ?_
  refine r_aload_n hX dL_law_1520 rfl ?_
  refine r_iload_n hX dL_law_1521 rfl ?_
  refine r_iconst hX (nI 1) dL_law_1522 rfl ?_
  refine r_iaddN hX dL_law_1523 ?_
  refine r_sld hX hS (by omega) (by omega) dL_law_1524 ?_
  refine r_callVNI (As := [.int (f (i + 1))]) (rest := []) hX (k_count hE hC  (f (i + 1))) dL_law_1525 cb_L_183 (hC.1.1.1 100 _ rfl) rfl rfl ⟨Nat.le_of_ble_eq_true rfl, Nat.le_of_ble_eq_true rfl⟩ ⟨by show mc + 0 ≤ 600000; omega, by show ms + 0 ≤ 7302250; omega⟩ (Nat.le_of_ble_eq_true rfl) (fun r L2 σ2 h => ?_)
  obtain ⟨rfl, ⟨N2, hC2⟩, hLo⟩ := h
  have hR2 := hR.lo hLo
  refine At.to (ls' := [(0, .ref b), (1, .ref (L2.1 100)), (2, .ref (L2.1 0)), (3, .int (nI i))]) (st' := [.int ((oCount s.1 s.2.2.1 s.2.2.2.2.1 (f (i + 1))))]) ?_ (by rw [hLo.2.1, (hLo.1 0 (by decide)).1]) rfl rfl
  refine r_aload_n hX dL_law_1528 rfl ?_
  refine r_aload_n hX dL_law_1529 rfl ?_
  refine r_iload_n hX dL_law_1530 rfl ?_
  refine r_iconst hX (nI 1) dL_law_1531 rfl ?_
  refine r_iaddN hX dL_law_1532 ?_
  refine r_sld hX hS (by omega) (by omega) dL_law_1533 ?_
  refine r_callVNI (As := [.int (f (i + 1))]) (rest := [.int ((oCount s.1 s.2.2.1 s.2.2.2.2.1 (f (i + 1))))]) hX (j_count hE hC.2.2.1 hR2 (f (i + 1))) dL_law_1534 cb_L_186 (hR2.1.1 0 _ rfl) rfl rfl ⟨Nat.le_of_ble_eq_true rfl, Nat.le_of_ble_eq_true rfl⟩ ⟨by show mc + 0 + 0 ≤ 600000; omega, by show ms + 0 + 0 ≤ 7302250; omega⟩ (Nat.le_of_ble_eq_true rfl) (fun r L3 σ3 h => ?_)
  obtain ⟨rfl, hL3, hR3, hHi⟩ := h
  replace hL3 := hL3.symm
  subst hL3
  have hC3 := hC2.hi hHi
  refine r_icmp_eq hX dL_law_1537 (fun _ => ?_) (fun c => absurd rfl c)
  exact At.more (kk _ _ _ _ hC3 hR3) (by show mc + 0 + 0 ≤ mc + 20; omega) (by show ms + 0 + 0 ≤ ms + 300; omega)
