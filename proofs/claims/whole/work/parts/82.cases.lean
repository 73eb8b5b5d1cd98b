/-! ===== the law: a case of each method ===== -/
abbrev LJ (p : Program) (l : Launch) (e : Env) (s : State) (m : MethodId) (below : List Frame) (meth : Method) (c : Code) (D : va_G) (b : Nat) (pc : Nat) (ls : List (Nat × Value)) (st : List Value) (ws : va_W) : Prop := Vj p l e room_1 s m #[Value.ref b] below meth c 4 D (fun q => s.heap.size ≤ q) 109 7119 (lw_Z below #[Value.ref b] s) pc ls st ws
theorem RB_R {r : Room} (h : RB r) {n : Nat} (hn : n ≤ 100) : r.frames + 1 ≤ room_1.frames ∧ 8 + (n + 11) + r.locals ≤ room_1.locals := by
  have h1 := h.2.1
  have h2 := h.2.2
  constructor
  · show r.frames + 1 ≤ 2048
    omega
  · show 8 + (n + 11) + r.locals ≤ 84000
    omega
theorem lg_self (r : Int64) : lg_cmp r r = 0 := by
  unfold lg_cmp
  simp
section LW
variable {p : Program} {l : Launch} {e : Env} {s : State} {m : MethodId} {below : List Frame} {meth : Method} {c : Code} {D : va_G} {Y : Nat → ClassId} {b L : Nat} {xs : Nat → Int32}
variable {CC sg : Nat → Nat} {VV : Nat → Int32} {ff : Nat → Nat → Int32} {fj : Nat → Nat → Int64} {mm : Nat} {R : Nat → Nat} {VM : Nat → Int32} {fM : Nat → Nat → Int32} {jM : Nat → Nat → Int64}
set_option maxHeartbeats 4000000 in
set_option maxRecDepth 100000 in
theorem lc_line (X : Vx p s m #[Value.ref b] meth c cL_law 4 RL wsL_law D Y (fun q => s.heap.size ≤ q)) (hX : va_X b L xs s s.heap) (hbl : b < s.heap.size) (hbA : ¬ (fun q : Nat => s.heap.size ≤ q) b) {iv : Int32} {K : Nat} (hi : iv.toInt = (K : Int)) (hK : K + 5 < L) (hL : L ≤ 3072) (hI : INV CC sg VV ff fj VM fM jM) (kk : ∀ w w', NXI Y CC mm R w w' → LJ p l e s m below meth c D b 1389 [(3, .int iv), (2, .ref mm), (1, .ref (CC 0)), (0, .ref b)] [] (w ++ w')) : LJ p l e s m below meth c D b 196 [(3, .int iv), (2, .ref mm), (1, .ref (CC 0)), (0, .ref b)] [] (WX Y CC sg VV ff fj ++ WM Y mm R VM fM jM) := by
  obtain ⟨rX, rM, pX, pM, bX, bM, mX, mM, hh⟩ := pr_line l D Y (m := mm) (R := R) hI (xs (K + 1)) (xs (K + 2))
  refine V_aload_n X 2 rfl dL_law_196 ?_
  refine L_arg X hX hbl hbA hi hL rfl rfl 1 (by decide) (by omega) dL_law_197 dL_law_198 dL_law_199 dL_law_200 dL_law_201 ?_
  refine L_arg X hX hbl hbA hi hL rfl rfl 2 (by decide) (by omega) dL_law_202 dL_law_203 dL_law_204 dL_law_205 dL_law_206 ?_
  refine V_callW (st := []) (As := [.int (xs (K + 1)), .int (xs (K + 2))]) X (Mg_lft mX _) 2 gL_law_X10_line rfl (by decide +kernel) bX.1 (RB_R bX (n := 7) (by decide)) (ci := 9) rfl rfl 0 rfl rfl rfl (Nat.zero_le _) ⟨Nat.le_of_ble_eq_true rfl, Nat.le_of_ble_eq_true rfl⟩ dL_law_207 (fun v w_ h_ => ?_)
  obtain ⟨w1, rfl, h1⟩ := h_
  refine V_aload_n X 1 rfl dL_law_210 ?_
  refine L_arg X hX hbl hbA hi hL rfl rfl 1 (by decide) (by omega) dL_law_211 dL_law_212 dL_law_213 dL_law_214 dL_law_215 ?_
  refine L_arg X hX hbl hbA hi hL rfl rfl 2 (by decide) (by omega) dL_law_216 dL_law_217 dL_law_218 dL_law_219 dL_law_220 ?_
  refine V_callW (st := v.toList ++ []) (As := [.int (xs (K + 1)), .int (xs (K + 2))]) X (Mg_rgt mM w1) 2 gL_law_X11_line rfl (by decide +kernel) bM.1 (RB_R bM (n := 3) (by decide)) (ci := 10) rfl rfl w1.length ((app_at w1 _).trans rfl) rfl rfl (cat2 v) ⟨Nat.le_of_ble_eq_true rfl, Nat.le_of_ble_eq_true rfl⟩ dL_law_221 (fun v2 w_ h_ => ?_)
  obtain ⟨w2, rfl, h2⟩ := h_
  obtain ⟨⟨r, rfl, rfl⟩, hN⟩ := hh _ _ _ _ h1 h2
  refine V_to (pc' := 224) (st' := [.int r, .int r]) ?_ rfl rfl rfl rfl
  exact V_icmp_eq X rfl rfl 1389 dL_law_224 (by decide) (fun _ => kk _ _ hN) (fun q => absurd rfl q)
set_option maxHeartbeats 4000000 in
set_option maxRecDepth 100000 in
theorem lc_lines (X : Vx p s m #[Value.ref b] meth c cL_law 4 RL wsL_law D Y (fun q => s.heap.size ≤ q)) (hX : va_X b L xs s s.heap) (hbl : b < s.heap.size) (hbA : ¬ (fun q : Nat => s.heap.size ≤ q) b) {iv : Int32} {K : Nat} (hi : iv.toInt = (K : Int)) (hK : K + 5 < L) (hL : L ≤ 3072) (hI : INV CC sg VV ff fj VM fM jM) (kk : ∀ w w', NXI Y CC mm R w w' → LJ p l e s m below meth c D b 1389 [(3, .int iv), (2, .ref mm), (1, .ref (CC 0)), (0, .ref b)] [] (w ++ w')) : LJ p l e s m below meth c D b 229 [(3, .int iv), (2, .ref mm), (1, .ref (CC 0)), (0, .ref b)] [] (WX Y CC sg VV ff fj ++ WM Y mm R VM fM jM) := by
  obtain ⟨rX, rM, pX, pM, bX, bM, mX, mM, hh⟩ := pr_lines l D Y (m := mm) (R := R) hI (xs (K + 1)) (xs (K + 2)) (xs (K + 3)) (xs (K + 4))
  refine V_aload_n X 2 rfl dL_law_229 ?_
  refine L_arg X hX hbl hbA hi hL rfl rfl 1 (by decide) (by omega) dL_law_230 dL_law_231 dL_law_232 dL_law_233 dL_law_234 ?_
  refine L_arg X hX hbl hbA hi hL rfl rfl 2 (by decide) (by omega) dL_law_235 dL_law_236 dL_law_237 dL_law_238 dL_law_239 ?_
  refine L_arg X hX hbl hbA hi hL rfl rfl 3 (by decide) (by omega) dL_law_240 dL_law_241 dL_law_242 dL_law_243 dL_law_244 ?_
  refine L_arg X hX hbl hbA hi hL rfl rfl 4 (by decide) (by omega) dL_law_245 dL_law_246 dL_law_247 dL_law_248 dL_law_249 ?_
  refine V_callW (st := []) (As := [.int (xs (K + 1)), .int (xs (K + 2)), .int (xs (K + 3)), .int (xs (K + 4))]) X (Mg_lft mX _) 4 gL_law_X10_lines rfl (by decide +kernel) bX.1 (RB_R bX (n := 12) (by decide)) (ci := 9) rfl rfl 0 rfl rfl rfl (Nat.zero_le _) ⟨Nat.le_of_ble_eq_true rfl, Nat.le_of_ble_eq_true rfl⟩ dL_law_250 (fun v w_ h_ => ?_)
  obtain ⟨w1, rfl, h1⟩ := h_
  refine V_aload_n X 1 rfl dL_law_253 ?_
  refine L_arg X hX hbl hbA hi hL rfl rfl 1 (by decide) (by omega) dL_law_254 dL_law_255 dL_law_256 dL_law_257 dL_law_258 ?_
  refine L_arg X hX hbl hbA hi hL rfl rfl 2 (by decide) (by omega) dL_law_259 dL_law_260 dL_law_261 dL_law_262 dL_law_263 ?_
  refine L_arg X hX hbl hbA hi hL rfl rfl 3 (by decide) (by omega) dL_law_264 dL_law_265 dL_law_266 dL_law_267 dL_law_268 ?_
  refine L_arg X hX hbl hbA hi hL rfl rfl 4 (by decide) (by omega) dL_law_269 dL_law_270 dL_law_271 dL_law_272 dL_law_273 ?_
  refine V_callW (st := v.toList ++ []) (As := [.int (xs (K + 1)), .int (xs (K + 2)), .int (xs (K + 3)), .int (xs (K + 4))]) X (Mg_rgt mM w1) 4 gL_law_X11_lines rfl (by decide +kernel) bM.1 (RB_R bM (n := 9) (by decide)) (ci := 10) rfl rfl w1.length ((app_at w1 _).trans rfl) rfl rfl (cat2 v) ⟨Nat.le_of_ble_eq_true rfl, Nat.le_of_ble_eq_true rfl⟩ dL_law_274 (fun v2 w_ h_ => ?_)
  obtain ⟨w2, rfl, h2⟩ := h_
  obtain ⟨⟨r, rfl, rfl⟩, hN⟩ := hh _ _ _ _ h1 h2
  refine V_to (pc' := 277) (st' := [.int r, .int r]) ?_ rfl rfl rfl rfl
  exact V_icmp_eq X rfl rfl 1389 dL_law_277 (by decide) (fun _ => kk _ _ hN) (fun q => absurd rfl q)
set_option maxHeartbeats 4000000 in
set_option maxRecDepth 100000 in
theorem lc_has (X : Vx p s m #[Value.ref b] meth c cL_law 4 RL wsL_law D Y (fun q => s.heap.size ≤ q)) (hX : va_X b L xs s s.heap) (hbl : b < s.heap.size) (hbA : ¬ (fun q : Nat => s.heap.size ≤ q) b) {iv : Int32} {K : Nat} (hi : iv.toInt = (K : Int)) (hK : K + 5 < L) (hL : L ≤ 3072) (hI : INV CC sg VV ff fj VM fM jM) (kk : ∀ w w', NXI Y CC mm R w w' → LJ p l e s m below meth c D b 1389 [(3, .int iv), (2, .ref mm), (1, .ref (CC 0)), (0, .ref b)] [] (w ++ w')) : LJ p l e s m below meth c D b 282 [(3, .int iv), (2, .ref mm), (1, .ref (CC 0)), (0, .ref b)] [] (WX Y CC sg VV ff fj ++ WM Y mm R VM fM jM) := by
  obtain ⟨rX, rM, pX, pM, bX, bM, mX, mM, hh⟩ := pr_has l D Y (m := mm) (R := R) hI (xs (K + 1)) (xs (K + 2)) (xs (K + 3)) (xs (K + 4))
  refine V_aload_n X 2 rfl dL_law_282 ?_
  refine L_arg X hX hbl hbA hi hL rfl rfl 1 (by decide) (by omega) dL_law_283 dL_law_284 dL_law_285 dL_law_286 dL_law_287 ?_
  refine L_arg X hX hbl hbA hi hL rfl rfl 2 (by decide) (by omega) dL_law_288 dL_law_289 dL_law_290 dL_law_291 dL_law_292 ?_
  refine L_arg X hX hbl hbA hi hL rfl rfl 3 (by decide) (by omega) dL_law_293 dL_law_294 dL_law_295 dL_law_296 dL_law_297 ?_
  refine L_arg X hX hbl hbA hi hL rfl rfl 4 (by decide) (by omega) dL_law_298 dL_law_299 dL_law_300 dL_law_301 dL_law_302 ?_
  refine V_callW (st := []) (As := [.int (xs (K + 1)), .int (xs (K + 2)), .int (xs (K + 3)), .int (xs (K + 4))]) X (Mg_lft mX _) 4 gL_law_X10_has rfl (by decide +kernel) bX.1 (RB_R bX (n := 8) (by decide)) (ci := 9) rfl rfl 0 rfl rfl rfl (Nat.zero_le _) ⟨Nat.le_of_ble_eq_true rfl, Nat.le_of_ble_eq_true rfl⟩ dL_law_303 (fun v w_ h_ => ?_)
  obtain ⟨w1, rfl, h1⟩ := h_
  refine V_aload_n X 1 rfl dL_law_306 ?_
  refine L_arg X hX hbl hbA hi hL rfl rfl 1 (by decide) (by omega) dL_law_307 dL_law_308 dL_law_309 dL_law_310 dL_law_311 ?_
  refine L_arg X hX hbl hbA hi hL rfl rfl 2 (by decide) (by omega) dL_law_312 dL_law_313 dL_law_314 dL_law_315 dL_law_316 ?_
  refine L_arg X hX hbl hbA hi hL rfl rfl 3 (by decide) (by omega) dL_law_317 dL_law_318 dL_law_319 dL_law_320 dL_law_321 ?_
  refine L_arg X hX hbl hbA hi hL rfl rfl 4 (by decide) (by omega) dL_law_322 dL_law_323 dL_law_324 dL_law_325 dL_law_326 ?_
  refine V_callW (st := v.toList ++ []) (As := [.int (xs (K + 1)), .int (xs (K + 2)), .int (xs (K + 3)), .int (xs (K + 4))]) X (Mg_rgt mM w1) 4 gL_law_X11_has rfl (by decide +kernel) bM.1 (RB_R bM (n := 6) (by decide)) (ci := 10) rfl rfl w1.length ((app_at w1 _).trans rfl) rfl rfl (cat2 v) ⟨Nat.le_of_ble_eq_true rfl, Nat.le_of_ble_eq_true rfl⟩ dL_law_327 (fun v2 w_ h_ => ?_)
  obtain ⟨w2, rfl, h2⟩ := h_
  obtain ⟨⟨r, rfl, rfl⟩, hN⟩ := hh _ _ _ _ h1 h2
  refine V_to (pc' := 330) (st' := [.int r, .int r]) ?_ rfl rfl rfl rfl
  exact V_icmp_eq X rfl rfl 1389 dL_law_330 (by decide) (fun _ => kk _ _ hN) (fun q => absurd rfl q)
set_option maxHeartbeats 4000000 in
set_option maxRecDepth 100000 in
theorem lc_mend (X : Vx p s m #[Value.ref b] meth c cL_law 4 RL wsL_law D Y (fun q => s.heap.size ≤ q)) (hX : va_X b L xs s s.heap) (hbl : b < s.heap.size) (hbA : ¬ (fun q : Nat => s.heap.size ≤ q) b) {iv : Int32} {K : Nat} (hi : iv.toInt = (K : Int)) (hK : K + 5 < L) (hL : L ≤ 3072) (hI : INV CC sg VV ff fj VM fM jM) (kk : ∀ w w', NXI Y CC mm R w w' → LJ p l e s m below meth c D b 1389 [(3, .int iv), (2, .ref mm), (1, .ref (CC 0)), (0, .ref b)] [] (w ++ w')) : LJ p l e s m below meth c D b 335 [(3, .int iv), (2, .ref mm), (1, .ref (CC 0)), (0, .ref b)] [] (WX Y CC sg VV ff fj ++ WM Y mm R VM fM jM) := by
  obtain ⟨rX, rM, pX, pM, bX, bM, mX, mM, hh⟩ := pr_mend l D Y (m := mm) (R := R) hI (xs (K + 1)) (xs (K + 2)) (xs (K + 3))
  refine V_aload_n X 2 rfl dL_law_335 ?_
  refine L_arg X hX hbl hbA hi hL rfl rfl 1 (by decide) (by omega) dL_law_336 dL_law_337 dL_law_338 dL_law_339 dL_law_340 ?_
  refine L_arg X hX hbl hbA hi hL rfl rfl 2 (by decide) (by omega) dL_law_341 dL_law_342 dL_law_343 dL_law_344 dL_law_345 ?_
  refine L_arg X hX hbl hbA hi hL rfl rfl 3 (by decide) (by omega) dL_law_346 dL_law_347 dL_law_348 dL_law_349 dL_law_350 ?_
  refine V_callW (st := []) (As := [.int (xs (K + 1)), .int (xs (K + 2)), .int (xs (K + 3))]) X (Mg_lft mX _) 3 gL_law_X10_mend rfl (by decide +kernel) bX.1 (RB_R bX (n := 5) (by decide)) (ci := 9) rfl rfl 0 rfl rfl rfl (Nat.zero_le _) ⟨Nat.le_of_ble_eq_true rfl, Nat.le_of_ble_eq_true rfl⟩ dL_law_351 (fun v w_ h_ => ?_)
  obtain ⟨w1, rfl, h1⟩ := h_
  refine V_aload_n X 1 rfl dL_law_354 ?_
  refine L_arg X hX hbl hbA hi hL rfl rfl 1 (by decide) (by omega) dL_law_355 dL_law_356 dL_law_357 dL_law_358 dL_law_359 ?_
  refine L_arg X hX hbl hbA hi hL rfl rfl 2 (by decide) (by omega) dL_law_360 dL_law_361 dL_law_362 dL_law_363 dL_law_364 ?_
  refine L_arg X hX hbl hbA hi hL rfl rfl 3 (by decide) (by omega) dL_law_365 dL_law_366 dL_law_367 dL_law_368 dL_law_369 ?_
  refine V_callW (st := v.toList ++ []) (As := [.int (xs (K + 1)), .int (xs (K + 2)), .int (xs (K + 3))]) X (Mg_rgt mM w1) 3 gL_law_X11_mend rfl (by decide +kernel) bM.1 (RB_R bM (n := 4) (by decide)) (ci := 10) rfl rfl w1.length ((app_at w1 _).trans rfl) rfl rfl (cat2 v) ⟨Nat.le_of_ble_eq_true rfl, Nat.le_of_ble_eq_true rfl⟩ dL_law_370 (fun v2 w_ h_ => ?_)
  obtain ⟨w2, rfl, h2⟩ := h_
  obtain ⟨⟨r, rfl, rfl⟩, hN⟩ := hh _ _ _ _ h1 h2
  refine V_to (pc' := 373) (st' := [.int r, .int r]) ?_ rfl rfl rfl rfl
  exact V_icmp_eq X rfl rfl 1389 dL_law_373 (by decide) (fun _ => kk _ _ hN) (fun q => absurd rfl q)
set_option maxHeartbeats 4000000 in
set_option maxRecDepth 100000 in
theorem lc_of (X : Vx p s m #[Value.ref b] meth c cL_law 4 RL wsL_law D Y (fun q => s.heap.size ≤ q)) (hX : va_X b L xs s s.heap) (hbl : b < s.heap.size) (hbA : ¬ (fun q : Nat => s.heap.size ≤ q) b) {iv : Int32} {K : Nat} (hi : iv.toInt = (K : Int)) (hK : K + 5 < L) (hL : L ≤ 3072) (hI : INV CC sg VV ff fj VM fM jM) (kk : ∀ w w', NXI Y CC mm R w w' → LJ p l e s m below meth c D b 1389 [(3, .int iv), (2, .ref mm), (1, .ref (CC 0)), (0, .ref b)] [] (w ++ w')) : LJ p l e s m below meth c D b 378 [(3, .int iv), (2, .ref mm), (1, .ref (CC 0)), (0, .ref b)] [] (WX Y CC sg VV ff fj ++ WM Y mm R VM fM jM) := by
  obtain ⟨rX, rM, pX, pM, bX, bM, mX, mM, hh⟩ := pr_of l D Y (m := mm) (R := R) hI (xs (K + 1)) (xs (K + 2))
  refine V_aload_n X 2 rfl dL_law_378 ?_
  refine L_arg X hX hbl hbA hi hL rfl rfl 1 (by decide) (by omega) dL_law_379 dL_law_380 dL_law_381 dL_law_382 dL_law_383 ?_
  refine L_arg X hX hbl hbA hi hL rfl rfl 2 (by decide) (by omega) dL_law_384 dL_law_385 dL_law_386 dL_law_387 dL_law_388 ?_
  refine V_callW (st := []) (As := [.int (xs (K + 1)), .int (xs (K + 2))]) X (Mg_lft mX _) 2 gL_law_X10_of rfl (by decide +kernel) bX.1 (RB_R bX (n := 4) (by decide)) (ci := 9) rfl rfl 0 rfl rfl rfl (Nat.zero_le _) ⟨Nat.le_of_ble_eq_true rfl, Nat.le_of_ble_eq_true rfl⟩ dL_law_389 (fun v w_ h_ => ?_)
  obtain ⟨w1, rfl, h1⟩ := h_
  refine V_aload_n X 1 rfl dL_law_392 ?_
  refine L_arg X hX hbl hbA hi hL rfl rfl 1 (by decide) (by omega) dL_law_393 dL_law_394 dL_law_395 dL_law_396 dL_law_397 ?_
  refine L_arg X hX hbl hbA hi hL rfl rfl 2 (by decide) (by omega) dL_law_398 dL_law_399 dL_law_400 dL_law_401 dL_law_402 ?_
  refine V_callW (st := v.toList ++ []) (As := [.int (xs (K + 1)), .int (xs (K + 2))]) X (Mg_rgt mM w1) 2 gL_law_X11_of rfl (by decide +kernel) bM.1 (RB_R bM (n := 3) (by decide)) (ci := 10) rfl rfl w1.length ((app_at w1 _).trans rfl) rfl rfl (cat2 v) ⟨Nat.le_of_ble_eq_true rfl, Nat.le_of_ble_eq_true rfl⟩ dL_law_403 (fun v2 w_ h_ => ?_)
  obtain ⟨w2, rfl, h2⟩ := h_
  obtain ⟨⟨r, rfl, rfl⟩, hN⟩ := hh _ _ _ _ h1 h2
  refine V_to (pc' := 406) (st' := [.int r, .int r]) ?_ rfl rfl rfl rfl
  exact V_icmp_eq X rfl rfl 1389 dL_law_406 (by decide) (fun _ => kk _ _ hN) (fun q => absurd rfl q)
set_option maxHeartbeats 4000000 in
set_option maxRecDepth 100000 in
theorem lc_feed (X : Vx p s m #[Value.ref b] meth c cL_law 4 RL wsL_law D Y (fun q => s.heap.size ≤ q)) (hX : va_X b L xs s s.heap) (hbl : b < s.heap.size) (hbA : ¬ (fun q : Nat => s.heap.size ≤ q) b) {iv : Int32} {K : Nat} (hi : iv.toInt = (K : Int)) (hK : K + 5 < L) (hL : L ≤ 3072) (hI : INV CC sg VV ff fj VM fM jM) (kk : ∀ w w', NXI Y CC mm R w w' → LJ p l e s m below meth c D b 1389 [(3, .int iv), (2, .ref mm), (1, .ref (CC 0)), (0, .ref b)] [] (w ++ w')) : LJ p l e s m below meth c D b 411 [(3, .int iv), (2, .ref mm), (1, .ref (CC 0)), (0, .ref b)] [] (WX Y CC sg VV ff fj ++ WM Y mm R VM fM jM) := by
  obtain ⟨rX, rM, pX, pM, bX, bM, mX, mM, hh⟩ := pr_feed l D Y (m := mm) (R := R) hI (xs (K + 1))
  refine V_aload_n X 2 rfl dL_law_411 ?_
  refine L_arg X hX hbl hbA hi hL rfl rfl 1 (by decide) (by omega) dL_law_412 dL_law_413 dL_law_414 dL_law_415 dL_law_416 ?_
  refine V_callW (st := []) (As := [.int (xs (K + 1))]) X (Mg_lft mX _) 1 gL_law_X10_feed rfl (by decide +kernel) bX.1 (RB_R bX (n := 2) (by decide)) (ci := 9) rfl rfl 0 rfl rfl rfl (Nat.zero_le _) ⟨Nat.le_of_ble_eq_true rfl, Nat.le_of_ble_eq_true rfl⟩ dL_law_417 (fun v w_ h_ => ?_)
  obtain ⟨w1, rfl, h1⟩ := h_
  refine V_aload_n X 1 rfl dL_law_420 ?_
  refine L_arg X hX hbl hbA hi hL rfl rfl 1 (by decide) (by omega) dL_law_421 dL_law_422 dL_law_423 dL_law_424 dL_law_425 ?_
  refine V_callW (st := v.toList ++ []) (As := [.int (xs (K + 1))]) X (Mg_rgt mM w1) 1 gL_law_X11_feed rfl (by decide +kernel) bM.1 (RB_R bM (n := 2) (by decide)) (ci := 10) rfl rfl w1.length ((app_at w1 _).trans rfl) rfl rfl (cat2 v) ⟨Nat.le_of_ble_eq_true rfl, Nat.le_of_ble_eq_true rfl⟩ dL_law_426 (fun v2 w_ h_ => ?_)
  obtain ⟨w2, rfl, h2⟩ := h_
  obtain ⟨⟨r, rfl, rfl⟩, hN⟩ := hh _ _ _ _ h1 h2
  refine V_to (pc' := 429) (st' := [.int r, .int r]) ?_ rfl rfl rfl rfl
  exact V_icmp_eq X rfl rfl 1389 dL_law_429 (by decide) (fun _ => kk _ _ hN) (fun q => absurd rfl q)
set_option maxHeartbeats 4000000 in
set_option maxRecDepth 100000 in
theorem lc_law (X : Vx p s m #[Value.ref b] meth c cL_law 4 RL wsL_law D Y (fun q => s.heap.size ≤ q)) (hX : va_X b L xs s s.heap) (hbl : b < s.heap.size) (hbA : ¬ (fun q : Nat => s.heap.size ≤ q) b) {iv : Int32} {K : Nat} (hi : iv.toInt = (K : Int)) (hK : K + 5 < L) (hL : L ≤ 3072) (hI : INV CC sg VV ff fj VM fM jM) (kk : ∀ w w', NXI Y CC mm R w w' → LJ p l e s m below meth c D b 1389 [(3, .int iv), (2, .ref mm), (1, .ref (CC 0)), (0, .ref b)] [] (w ++ w')) : LJ p l e s m below meth c D b 434 [(3, .int iv), (2, .ref mm), (1, .ref (CC 0)), (0, .ref b)] [] (WX Y CC sg VV ff fj ++ WM Y mm R VM fM jM) := by
  obtain ⟨rX, rM, pX, pM, bX, bM, mX, mM, hh⟩ := pr_law l D Y (m := mm) (R := R) hI
  refine V_aload_n X 2 rfl dL_law_434 ?_
  refine V_callW (st := []) (As := []) X (Mg_lft mX _) 0 gL_law_X10_law rfl (by decide +kernel) bX.1 (RB_R bX (n := 3) (by decide)) (ci := 9) rfl rfl 0 rfl rfl rfl (Nat.zero_le _) ⟨Nat.le_of_ble_eq_true rfl, Nat.le_of_ble_eq_true rfl⟩ dL_law_435 (fun v w_ h_ => ?_)
  obtain ⟨w1, rfl, h1⟩ := h_
  refine V_aload_n X 1 rfl dL_law_438 ?_
  refine V_callW (st := v.toList ++ []) (As := []) X (Mg_rgt mM w1) 0 gL_law_X11_law rfl (by decide +kernel) bM.1 (RB_R bM (n := 2) (by decide)) (ci := 10) rfl rfl w1.length ((app_at w1 _).trans rfl) rfl rfl (cat2 v) ⟨Nat.le_of_ble_eq_true rfl, Nat.le_of_ble_eq_true rfl⟩ dL_law_439 (fun v2 w_ h_ => ?_)
  obtain ⟨w2, rfl, h2⟩ := h_
  obtain ⟨⟨r, rfl, rfl⟩, hN⟩ := hh _ _ _ _ h1 h2
  refine V_to (pc' := 442) (st' := [.int r, .int r]) ?_ rfl rfl rfl rfl
  exact V_icmp_eq X rfl rfl 1389 dL_law_442 (by decide) (fun _ => kk _ _ hN) (fun q => absurd rfl q)
set_option maxHeartbeats 4000000 in
set_option maxRecDepth 100000 in
theorem lc_sing (X : Vx p s m #[Value.ref b] meth c cL_law 4 RL wsL_law D Y (fun q => s.heap.size ≤ q)) (hX : va_X b L xs s s.heap) (hbl : b < s.heap.size) (hbA : ¬ (fun q : Nat => s.heap.size ≤ q) b) {iv : Int32} {K : Nat} (hi : iv.toInt = (K : Int)) (hK : K + 5 < L) (hL : L ≤ 3072) (hI : INV CC sg VV ff fj VM fM jM) (kk : ∀ w w', NXI Y CC mm R w w' → LJ p l e s m below meth c D b 1389 [(3, .int iv), (2, .ref mm), (1, .ref (CC 0)), (0, .ref b)] [] (w ++ w')) : LJ p l e s m below meth c D b 447 [(3, .int iv), (2, .ref mm), (1, .ref (CC 0)), (0, .ref b)] [] (WX Y CC sg VV ff fj ++ WM Y mm R VM fM jM) := by
  obtain ⟨rX, rM, pX, pM, bX, bM, mX, mM, hh⟩ := pr_sing l D Y (m := mm) (R := R) hI (xs (K + 1)) (xs (K + 2))
  refine V_aload_n X 2 rfl dL_law_447 ?_
  refine L_arg X hX hbl hbA hi hL rfl rfl 1 (by decide) (by omega) dL_law_448 dL_law_449 dL_law_450 dL_law_451 dL_law_452 ?_
  refine L_arg X hX hbl hbA hi hL rfl rfl 2 (by decide) (by omega) dL_law_453 dL_law_454 dL_law_455 dL_law_456 dL_law_457 ?_
  refine V_callW (st := []) (As := [.int (xs (K + 1)), .int (xs (K + 2))]) X (Mg_lft mX _) 2 gL_law_X10_sing rfl (by decide +kernel) bX.1 (RB_R bX (n := 4) (by decide)) (ci := 9) rfl rfl 0 rfl rfl rfl (Nat.zero_le _) ⟨Nat.le_of_ble_eq_true rfl, Nat.le_of_ble_eq_true rfl⟩ dL_law_458 (fun v w_ h_ => ?_)
  obtain ⟨w1, rfl, h1⟩ := h_
  refine V_aload_n X 1 rfl dL_law_461 ?_
  refine L_arg X hX hbl hbA hi hL rfl rfl 1 (by decide) (by omega) dL_law_462 dL_law_463 dL_law_464 dL_law_465 dL_law_466 ?_
  refine L_arg X hX hbl hbA hi hL rfl rfl 2 (by decide) (by omega) dL_law_467 dL_law_468 dL_law_469 dL_law_470 dL_law_471 ?_
  refine V_callW (st := v.toList ++ []) (As := [.int (xs (K + 1)), .int (xs (K + 2))]) X (Mg_rgt mM w1) 2 gL_law_X11_sing rfl (by decide +kernel) bM.1 (RB_R bM (n := 3) (by decide)) (ci := 10) rfl rfl w1.length ((app_at w1 _).trans rfl) rfl rfl (cat2 v) ⟨Nat.le_of_ble_eq_true rfl, Nat.le_of_ble_eq_true rfl⟩ dL_law_472 (fun v2 w_ h_ => ?_)
  obtain ⟨w2, rfl, h2⟩ := h_
  obtain ⟨⟨r, rfl, rfl⟩, hN⟩ := hh _ _ _ _ h1 h2
  refine V_to (pc' := 475) (st' := [.int r, .int r]) ?_ rfl rfl rfl rfl
  exact V_icmp_eq X rfl rfl 1389 dL_law_475 (by decide) (fun _ => kk _ _ hN) (fun q => absurd rfl q)
set_option maxHeartbeats 4000000 in
set_option maxRecDepth 100000 in
theorem lc_sung (X : Vx p s m #[Value.ref b] meth c cL_law 4 RL wsL_law D Y (fun q => s.heap.size ≤ q)) (hX : va_X b L xs s s.heap) (hbl : b < s.heap.size) (hbA : ¬ (fun q : Nat => s.heap.size ≤ q) b) {iv : Int32} {K : Nat} (hi : iv.toInt = (K : Int)) (hK : K + 5 < L) (hL : L ≤ 3072) (hI : INV CC sg VV ff fj VM fM jM) (kk : ∀ w w', NXI Y CC mm R w w' → LJ p l e s m below meth c D b 1389 [(3, .int iv), (2, .ref mm), (1, .ref (CC 0)), (0, .ref b)] [] (w ++ w')) : LJ p l e s m below meth c D b 480 [(3, .int iv), (2, .ref mm), (1, .ref (CC 0)), (0, .ref b)] [] (WX Y CC sg VV ff fj ++ WM Y mm R VM fM jM) := by
  obtain ⟨rX, rM, pX, pM, bX, bM, mX, mM, hh⟩ := pr_sung l D Y (m := mm) (R := R) hI (xs (K + 1)) (xs (K + 2)) (xs (K + 3))
  refine V_aload_n X 2 rfl dL_law_480 ?_
  refine L_arg X hX hbl hbA hi hL rfl rfl 1 (by decide) (by omega) dL_law_481 dL_law_482 dL_law_483 dL_law_484 dL_law_485 ?_
  refine L_arg X hX hbl hbA hi hL rfl rfl 2 (by decide) (by omega) dL_law_486 dL_law_487 dL_law_488 dL_law_489 dL_law_490 ?_
  refine L_arg X hX hbl hbA hi hL rfl rfl 3 (by decide) (by omega) dL_law_491 dL_law_492 dL_law_493 dL_law_494 dL_law_495 ?_
  refine V_callW (st := []) (As := [.int (xs (K + 1)), .int (xs (K + 2)), .int (xs (K + 3))]) X (Mg_lft mX _) 3 gL_law_X10_sung rfl (by decide +kernel) bX.1 (RB_R bX (n := 5) (by decide)) (ci := 9) rfl rfl 0 rfl rfl rfl (Nat.zero_le _) ⟨Nat.le_of_ble_eq_true rfl, Nat.le_of_ble_eq_true rfl⟩ dL_law_496 (fun v w_ h_ => ?_)
  obtain ⟨w1, rfl, h1⟩ := h_
  refine V_aload_n X 1 rfl dL_law_499 ?_
  refine L_arg X hX hbl hbA hi hL rfl rfl 1 (by decide) (by omega) dL_law_500 dL_law_501 dL_law_502 dL_law_503 dL_law_504 ?_
  refine L_arg X hX hbl hbA hi hL rfl rfl 2 (by decide) (by omega) dL_law_505 dL_law_506 dL_law_507 dL_law_508 dL_law_509 ?_
  refine L_arg X hX hbl hbA hi hL rfl rfl 3 (by decide) (by omega) dL_law_510 dL_law_511 dL_law_512 dL_law_513 dL_law_514 ?_
  refine V_callW (st := v.toList ++ []) (As := [.int (xs (K + 1)), .int (xs (K + 2)), .int (xs (K + 3))]) X (Mg_rgt mM w1) 3 gL_law_X11_sung rfl (by decide +kernel) bM.1 (RB_R bM (n := 4) (by decide)) (ci := 10) rfl rfl w1.length ((app_at w1 _).trans rfl) rfl rfl (cat2 v) ⟨Nat.le_of_ble_eq_true rfl, Nat.le_of_ble_eq_true rfl⟩ dL_law_515 (fun v2 w_ h_ => ?_)
  obtain ⟨w2, rfl, h2⟩ := h_
  obtain ⟨⟨r, rfl, rfl⟩, hN⟩ := hh _ _ _ _ h1 h2
  refine V_to (pc' := 518) (st' := [.int r, .int r]) ?_ rfl rfl rfl rfl
  exact V_icmp_eq X rfl rfl 1389 dL_law_518 (by decide) (fun _ => kk _ _ hN) (fun q => absurd rfl q)
set_option maxHeartbeats 4000000 in
set_option maxRecDepth 100000 in
theorem lc_runUp (X : Vx p s m #[Value.ref b] meth c cL_law 4 RL wsL_law D Y (fun q => s.heap.size ≤ q)) (hX : va_X b L xs s s.heap) (hbl : b < s.heap.size) (hbA : ¬ (fun q : Nat => s.heap.size ≤ q) b) {iv : Int32} {K : Nat} (hi : iv.toInt = (K : Int)) (hK : K + 5 < L) (hL : L ≤ 3072) (hI : INV CC sg VV ff fj VM fM jM) (kk : ∀ w w', NXI Y CC mm R w w' → LJ p l e s m below meth c D b 1389 [(3, .int iv), (2, .ref mm), (1, .ref (CC 0)), (0, .ref b)] [] (w ++ w')) : LJ p l e s m below meth c D b 523 [(3, .int iv), (2, .ref mm), (1, .ref (CC 0)), (0, .ref b)] [] (WX Y CC sg VV ff fj ++ WM Y mm R VM fM jM) := by
  obtain ⟨rX, rM, pX, pM, bX, bM, mX, mM, hh⟩ := pr_runUp l D Y (m := mm) (R := R) hI (xs (K + 1)) (xs (K + 2))
  refine V_aload_n X 2 rfl dL_law_523 ?_
  refine L_arg X hX hbl hbA hi hL rfl rfl 1 (by decide) (by omega) dL_law_524 dL_law_525 dL_law_526 dL_law_527 dL_law_528 ?_
  refine L_arg X hX hbl hbA hi hL rfl rfl 2 (by decide) (by omega) dL_law_529 dL_law_530 dL_law_531 dL_law_532 dL_law_533 ?_
  refine V_callW (st := []) (As := [.int (xs (K + 1)), .int (xs (K + 2))]) X (Mg_lft mX _) 2 gL_law_X10_runUp rfl (by decide +kernel) bX.1 (RB_R bX (n := 10) (by decide)) (ci := 9) rfl rfl 0 rfl rfl rfl (Nat.zero_le _) ⟨Nat.le_of_ble_eq_true rfl, Nat.le_of_ble_eq_true rfl⟩ dL_law_534 (fun v w_ h_ => ?_)
  obtain ⟨w1, rfl, h1⟩ := h_
  refine V_aload_n X 1 rfl dL_law_537 ?_
  refine L_arg X hX hbl hbA hi hL rfl rfl 1 (by decide) (by omega) dL_law_538 dL_law_539 dL_law_540 dL_law_541 dL_law_542 ?_
  refine L_arg X hX hbl hbA hi hL rfl rfl 2 (by decide) (by omega) dL_law_543 dL_law_544 dL_law_545 dL_law_546 dL_law_547 ?_
  refine V_callW (st := v.toList ++ []) (As := [.int (xs (K + 1)), .int (xs (K + 2))]) X (Mg_rgt mM w1) 2 gL_law_X11_runUp rfl (by decide +kernel) bM.1 (RB_R bM (n := 10) (by decide)) (ci := 10) rfl rfl w1.length ((app_at w1 _).trans rfl) rfl rfl (cat2 v) ⟨Nat.le_of_ble_eq_true rfl, Nat.le_of_ble_eq_true rfl⟩ dL_law_548 (fun v2 w_ h_ => ?_)
  obtain ⟨w2, rfl, h2⟩ := h_
  obtain ⟨⟨r, rfl, rfl⟩, hN⟩ := hh _ _ _ _ h1 h2
  refine V_to (pc' := 551) (st' := [.int r, .int r]) ?_ rfl rfl rfl rfl
  exact V_icmp_eq X rfl rfl 1389 dL_law_551 (by decide) (fun _ => kk _ _ hN) (fun q => absurd rfl q)
set_option maxHeartbeats 4000000 in
set_option maxRecDepth 100000 in
theorem lc_oneBit (X : Vx p s m #[Value.ref b] meth c cL_law 4 RL wsL_law D Y (fun q => s.heap.size ≤ q)) (hX : va_X b L xs s s.heap) (hbl : b < s.heap.size) (hbA : ¬ (fun q : Nat => s.heap.size ≤ q) b) {iv : Int32} {K : Nat} (hi : iv.toInt = (K : Int)) (hK : K + 5 < L) (hL : L ≤ 3072) (hI : INV CC sg VV ff fj VM fM jM) (kk : ∀ w w', NXI Y CC mm R w w' → LJ p l e s m below meth c D b 1389 [(3, .int iv), (2, .ref mm), (1, .ref (CC 0)), (0, .ref b)] [] (w ++ w')) : LJ p l e s m below meth c D b 556 [(3, .int iv), (2, .ref mm), (1, .ref (CC 0)), (0, .ref b)] [] (WX Y CC sg VV ff fj ++ WM Y mm R VM fM jM) := by
  obtain ⟨rX, rM, pX, pM, bX, bM, mX, mM, hh⟩ := pr_oneBit l D Y (m := mm) (R := R) hI (xs (K + 1)) (xs (K + 2))
  refine V_aload_n X 2 rfl dL_law_556 ?_
  refine L_arg X hX hbl hbA hi hL rfl rfl 1 (by decide) (by omega) dL_law_557 dL_law_558 dL_law_559 dL_law_560 dL_law_561 ?_
  refine L_arg X hX hbl hbA hi hL rfl rfl 2 (by decide) (by omega) dL_law_562 dL_law_563 dL_law_564 dL_law_565 dL_law_566 ?_
  refine V_callW (st := []) (As := [.int (xs (K + 1)), .int (xs (K + 2))]) X (Mg_lft mX _) 2 gL_law_X10_oneBit rfl (by decide +kernel) bX.1 (RB_R bX (n := 8) (by decide)) (ci := 9) rfl rfl 0 rfl rfl rfl (Nat.zero_le _) ⟨Nat.le_of_ble_eq_true rfl, Nat.le_of_ble_eq_true rfl⟩ dL_law_567 (fun v w_ h_ => ?_)
  obtain ⟨w1, rfl, h1⟩ := h_
  refine V_aload_n X 1 rfl dL_law_570 ?_
  refine L_arg X hX hbl hbA hi hL rfl rfl 1 (by decide) (by omega) dL_law_571 dL_law_572 dL_law_573 dL_law_574 dL_law_575 ?_
  refine L_arg X hX hbl hbA hi hL rfl rfl 2 (by decide) (by omega) dL_law_576 dL_law_577 dL_law_578 dL_law_579 dL_law_580 ?_
  refine V_callW (st := v.toList ++ []) (As := [.int (xs (K + 1)), .int (xs (K + 2))]) X (Mg_rgt mM w1) 2 gL_law_X11_oneBit rfl (by decide +kernel) bM.1 (RB_R bM (n := 7) (by decide)) (ci := 10) rfl rfl w1.length ((app_at w1 _).trans rfl) rfl rfl (cat2 v) ⟨Nat.le_of_ble_eq_true rfl, Nat.le_of_ble_eq_true rfl⟩ dL_law_581 (fun v2 w_ h_ => ?_)
  obtain ⟨w2, rfl, h2⟩ := h_
  obtain ⟨⟨r, rfl, rfl⟩, hN⟩ := hh _ _ _ _ h1 h2
  refine V_to (pc' := 584) (st' := [.int r, .int r]) ?_ rfl rfl rfl rfl
  exact V_icmp_eq X rfl rfl 1389 dL_law_584 (by decide) (fun _ => kk _ _ hN) (fun q => absurd rfl q)
set_option maxHeartbeats 4000000 in
set_option maxRecDepth 100000 in
theorem lc_fewest (X : Vx p s m #[Value.ref b] meth c cL_law 4 RL wsL_law D Y (fun q => s.heap.size ≤ q)) (hX : va_X b L xs s s.heap) (hbl : b < s.heap.size) (hbA : ¬ (fun q : Nat => s.heap.size ≤ q) b) {iv : Int32} {K : Nat} (hi : iv.toInt = (K : Int)) (hK : K + 5 < L) (hL : L ≤ 3072) (hI : INV CC sg VV ff fj VM fM jM) (kk : ∀ w w', NXI Y CC mm R w w' → LJ p l e s m below meth c D b 1389 [(3, .int iv), (2, .ref mm), (1, .ref (CC 0)), (0, .ref b)] [] (w ++ w')) : LJ p l e s m below meth c D b 589 [(3, .int iv), (2, .ref mm), (1, .ref (CC 0)), (0, .ref b)] [] (WX Y CC sg VV ff fj ++ WM Y mm R VM fM jM) := by
  obtain ⟨rX, rM, pX, pM, bX, bM, mX, mM, hh⟩ := pr_fewest l D Y (m := mm) (R := R) hI (xs (K + 1))
  refine V_aload_n X 2 rfl dL_law_589 ?_
  refine L_arg X hX hbl hbA hi hL rfl rfl 1 (by decide) (by omega) dL_law_590 dL_law_591 dL_law_592 dL_law_593 dL_law_594 ?_
  refine V_callW (st := []) (As := [.int (xs (K + 1))]) X (Mg_lft mX _) 1 gL_law_X10_fewest rfl (by decide +kernel) bX.1 (RB_R bX (n := 3) (by decide)) (ci := 9) rfl rfl 0 rfl rfl rfl (Nat.zero_le _) ⟨Nat.le_of_ble_eq_true rfl, Nat.le_of_ble_eq_true rfl⟩ dL_law_595 (fun v w_ h_ => ?_)
  obtain ⟨w1, rfl, h1⟩ := h_
  refine V_aload_n X 1 rfl dL_law_598 ?_
  refine L_arg X hX hbl hbA hi hL rfl rfl 1 (by decide) (by omega) dL_law_599 dL_law_600 dL_law_601 dL_law_602 dL_law_603 ?_
  refine V_callW (st := v.toList ++ []) (As := [.int (xs (K + 1))]) X (Mg_rgt mM w1) 1 gL_law_X11_fewest rfl (by decide +kernel) bM.1 (RB_R bM (n := 3) (by decide)) (ci := 10) rfl rfl w1.length ((app_at w1 _).trans rfl) rfl rfl (cat2 v) ⟨Nat.le_of_ble_eq_true rfl, Nat.le_of_ble_eq_true rfl⟩ dL_law_604 (fun v2 w_ h_ => ?_)
  obtain ⟨w2, rfl, h2⟩ := h_
  obtain ⟨⟨r, rfl, rfl⟩, hN⟩ := hh _ _ _ _ h1 h2
  refine V_to (pc' := 607) (st' := [.int r, .int r]) ?_ rfl rfl rfl rfl
  exact V_icmp_eq X rfl rfl 1389 dL_law_607 (by decide) (fun _ => kk _ _ hN) (fun q => absurd rfl q)
set_option maxHeartbeats 4000000 in
set_option maxRecDepth 100000 in
theorem lc_evenings (X : Vx p s m #[Value.ref b] meth c cL_law 4 RL wsL_law D Y (fun q => s.heap.size ≤ q)) (hX : va_X b L xs s s.heap) (hbl : b < s.heap.size) (hbA : ¬ (fun q : Nat => s.heap.size ≤ q) b) {iv : Int32} {K : Nat} (hi : iv.toInt = (K : Int)) (hK : K + 5 < L) (hL : L ≤ 3072) (hI : INV CC sg VV ff fj VM fM jM) (kk : ∀ w w', NXI Y CC mm R w w' → LJ p l e s m below meth c D b 1389 [(3, .int iv), (2, .ref mm), (1, .ref (CC 0)), (0, .ref b)] [] (w ++ w')) : LJ p l e s m below meth c D b 612 [(3, .int iv), (2, .ref mm), (1, .ref (CC 0)), (0, .ref b)] [] (WX Y CC sg VV ff fj ++ WM Y mm R VM fM jM) := by
  obtain ⟨rX, rM, pX, pM, bX, bM, mX, mM, hh⟩ := pr_evenings l D Y (m := mm) (R := R) hI (xs (K + 1)) (xs (K + 2))
  refine V_aload_n X 2 rfl dL_law_612 ?_
  refine L_arg X hX hbl hbA hi hL rfl rfl 1 (by decide) (by omega) dL_law_613 dL_law_614 dL_law_615 dL_law_616 dL_law_617 ?_
  refine L_arg X hX hbl hbA hi hL rfl rfl 2 (by decide) (by omega) dL_law_618 dL_law_619 dL_law_620 dL_law_621 dL_law_622 ?_
  refine V_callW (st := []) (As := [.int (xs (K + 1)), .int (xs (K + 2))]) X (Mg_lft mX _) 2 gL_law_X10_evenings rfl (by decide +kernel) bX.1 (RB_R bX (n := 7) (by decide)) (ci := 9) rfl rfl 0 rfl rfl rfl (Nat.zero_le _) ⟨Nat.le_of_ble_eq_true rfl, Nat.le_of_ble_eq_true rfl⟩ dL_law_623 (fun v w_ h_ => ?_)
  obtain ⟨w1, rfl, h1⟩ := h_
  refine V_aload_n X 1 rfl dL_law_626 ?_
  refine L_arg X hX hbl hbA hi hL rfl rfl 1 (by decide) (by omega) dL_law_627 dL_law_628 dL_law_629 dL_law_630 dL_law_631 ?_
  refine L_arg X hX hbl hbA hi hL rfl rfl 2 (by decide) (by omega) dL_law_632 dL_law_633 dL_law_634 dL_law_635 dL_law_636 ?_
  refine V_callW (st := v.toList ++ []) (As := [.int (xs (K + 1)), .int (xs (K + 2))]) X (Mg_rgt mM w1) 2 gL_law_X11_evenings rfl (by decide +kernel) bM.1 (RB_R bM (n := 6) (by decide)) (ci := 10) rfl rfl w1.length ((app_at w1 _).trans rfl) rfl rfl (cat2 v) ⟨Nat.le_of_ble_eq_true rfl, Nat.le_of_ble_eq_true rfl⟩ dL_law_637 (fun v2 w_ h_ => ?_)
  obtain ⟨w2, rfl, h2⟩ := h_
  obtain ⟨⟨r, rfl, rfl⟩, hN⟩ := hh _ _ _ _ h1 h2
  refine V_to (pc' := 640) (st' := [.int r, .int r]) ?_ rfl rfl rfl rfl
  exact V_icmp_eq X rfl rfl 1389 dL_law_640 (by decide) (fun _ => kk _ _ hN) (fun q => absurd rfl q)
set_option maxHeartbeats 4000000 in
set_option maxRecDepth 100000 in
theorem lc_which (X : Vx p s m #[Value.ref b] meth c cL_law 4 RL wsL_law D Y (fun q => s.heap.size ≤ q)) (hX : va_X b L xs s s.heap) (hbl : b < s.heap.size) (hbA : ¬ (fun q : Nat => s.heap.size ≤ q) b) {iv : Int32} {K : Nat} (hi : iv.toInt = (K : Int)) (hK : K + 5 < L) (hL : L ≤ 3072) (hI : INV CC sg VV ff fj VM fM jM) (kk : ∀ w w', NXI Y CC mm R w w' → LJ p l e s m below meth c D b 1389 [(3, .int iv), (2, .ref mm), (1, .ref (CC 0)), (0, .ref b)] [] (w ++ w')) : LJ p l e s m below meth c D b 645 [(3, .int iv), (2, .ref mm), (1, .ref (CC 0)), (0, .ref b)] [] (WX Y CC sg VV ff fj ++ WM Y mm R VM fM jM) := by
  obtain ⟨rX, rM, pX, pM, bX, bM, mX, mM, hh⟩ := pr_which l D Y (m := mm) (R := R) hI (xs (K + 1))
  refine V_aload_n X 2 rfl dL_law_645 ?_
  refine L_arg X hX hbl hbA hi hL rfl rfl 1 (by decide) (by omega) dL_law_646 dL_law_647 dL_law_648 dL_law_649 dL_law_650 ?_
  refine V_callW (st := []) (As := [.int (xs (K + 1))]) X (Mg_lft mX _) 1 gL_law_X10_which rfl (by decide +kernel) bX.1 (RB_R bX (n := 6) (by decide)) (ci := 9) rfl rfl 0 rfl rfl rfl (Nat.zero_le _) ⟨Nat.le_of_ble_eq_true rfl, Nat.le_of_ble_eq_true rfl⟩ dL_law_651 (fun v w_ h_ => ?_)
  obtain ⟨w1, rfl, h1⟩ := h_
  refine V_aload_n X 1 rfl dL_law_654 ?_
  refine L_arg X hX hbl hbA hi hL rfl rfl 1 (by decide) (by omega) dL_law_655 dL_law_656 dL_law_657 dL_law_658 dL_law_659 ?_
  refine V_callW (st := v.toList ++ []) (As := [.int (xs (K + 1))]) X (Mg_rgt mM w1) 1 gL_law_X11_which rfl (by decide +kernel) bM.1 (RB_R bM (n := 4) (by decide)) (ci := 10) rfl rfl w1.length ((app_at w1 _).trans rfl) rfl rfl (cat2 v) ⟨Nat.le_of_ble_eq_true rfl, Nat.le_of_ble_eq_true rfl⟩ dL_law_660 (fun v2 w_ h_ => ?_)
  obtain ⟨w2, rfl, h2⟩ := h_
  obtain ⟨⟨r, rfl, rfl⟩, hN⟩ := hh _ _ _ _ h1 h2
  refine V_to (pc' := 663) (st' := [.int r, .int r]) ?_ rfl rfl rfl rfl
  exact V_icmp_eq X rfl rfl 1389 dL_law_663 (by decide) (fun _ => kk _ _ hN) (fun q => absurd rfl q)
set_option maxHeartbeats 4000000 in
set_option maxRecDepth 100000 in
theorem lc_from (X : Vx p s m #[Value.ref b] meth c cL_law 4 RL wsL_law D Y (fun q => s.heap.size ≤ q)) (hX : va_X b L xs s s.heap) (hbl : b < s.heap.size) (hbA : ¬ (fun q : Nat => s.heap.size ≤ q) b) {iv : Int32} {K : Nat} (hi : iv.toInt = (K : Int)) (hK : K + 5 < L) (hL : L ≤ 3072) (hI : INV CC sg VV ff fj VM fM jM) (kk : ∀ w w', NXI Y CC mm R w w' → LJ p l e s m below meth c D b 1389 [(3, .int iv), (2, .ref mm), (1, .ref (CC 0)), (0, .ref b)] [] (w ++ w')) : LJ p l e s m below meth c D b 668 [(3, .int iv), (2, .ref mm), (1, .ref (CC 0)), (0, .ref b)] [] (WX Y CC sg VV ff fj ++ WM Y mm R VM fM jM) := by
  obtain ⟨rX, rM, pX, pM, bX, bM, mX, mM, hh⟩ := pr_from l D Y (m := mm) (R := R) hI (xs (K + 1)) (xs (K + 2))
  refine V_aload_n X 2 rfl dL_law_668 ?_
  refine L_arg X hX hbl hbA hi hL rfl rfl 1 (by decide) (by omega) dL_law_669 dL_law_670 dL_law_671 dL_law_672 dL_law_673 ?_
  refine L_arg X hX hbl hbA hi hL rfl rfl 2 (by decide) (by omega) dL_law_674 dL_law_675 dL_law_676 dL_law_677 dL_law_678 ?_
  refine V_callW (st := []) (As := [.int (xs (K + 1)), .int (xs (K + 2))]) X (Mg_lft mX _) 2 gL_law_X10_from rfl (by decide +kernel) bX.1 (RB_R bX (n := 6) (by decide)) (ci := 9) rfl rfl 0 rfl rfl rfl (Nat.zero_le _) ⟨Nat.le_of_ble_eq_true rfl, Nat.le_of_ble_eq_true rfl⟩ dL_law_679 (fun v w_ h_ => ?_)
  obtain ⟨w1, rfl, h1⟩ := h_
  refine V_aload_n X 1 rfl dL_law_682 ?_
  refine L_arg X hX hbl hbA hi hL rfl rfl 1 (by decide) (by omega) dL_law_683 dL_law_684 dL_law_685 dL_law_686 dL_law_687 ?_
  refine L_arg X hX hbl hbA hi hL rfl rfl 2 (by decide) (by omega) dL_law_688 dL_law_689 dL_law_690 dL_law_691 dL_law_692 ?_
  refine V_callW (st := v.toList ++ []) (As := [.int (xs (K + 1)), .int (xs (K + 2))]) X (Mg_rgt mM w1) 2 gL_law_X11_from rfl (by decide +kernel) bM.1 (RB_R bM (n := 3) (by decide)) (ci := 10) rfl rfl w1.length ((app_at w1 _).trans rfl) rfl rfl (cat2 v) ⟨Nat.le_of_ble_eq_true rfl, Nat.le_of_ble_eq_true rfl⟩ dL_law_693 (fun v2 w_ h_ => ?_)
  obtain ⟨w2, rfl, h2⟩ := h_
  obtain ⟨⟨r, rfl, rfl⟩, hN⟩ := hh _ _ _ _ h1 h2
  refine V_to (pc' := 696) (st' := [.int r, .int r]) ?_ rfl rfl rfl rfl
  exact V_icmp_eq X rfl rfl 1389 dL_law_696 (by decide) (fun _ => kk _ _ hN) (fun q => absurd rfl q)
set_option maxHeartbeats 4000000 in
set_option maxRecDepth 100000 in
theorem lc_judge (X : Vx p s m #[Value.ref b] meth c cL_law 4 RL wsL_law D Y (fun q => s.heap.size ≤ q)) (hX : va_X b L xs s s.heap) (hbl : b < s.heap.size) (hbA : ¬ (fun q : Nat => s.heap.size ≤ q) b) {iv : Int32} {K : Nat} (hi : iv.toInt = (K : Int)) (hK : K + 5 < L) (hL : L ≤ 3072) (hI : INV CC sg VV ff fj VM fM jM) (kk : ∀ w w', NXI Y CC mm R w w' → LJ p l e s m below meth c D b 1389 [(3, .int iv), (2, .ref mm), (1, .ref (CC 0)), (0, .ref b)] [] (w ++ w')) : LJ p l e s m below meth c D b 701 [(3, .int iv), (2, .ref mm), (1, .ref (CC 0)), (0, .ref b)] [] (WX Y CC sg VV ff fj ++ WM Y mm R VM fM jM) := by
  obtain ⟨rX, rM, pX, pM, bX, bM, mX, mM, hh⟩ := pr_judge l D Y (m := mm) (R := R) hI (xs (K + 1)) (xs (K + 2))
  refine V_aload_n X 2 rfl dL_law_701 ?_
  refine L_arg X hX hbl hbA hi hL rfl rfl 1 (by decide) (by omega) dL_law_702 dL_law_703 dL_law_704 dL_law_705 dL_law_706 ?_
  refine L_arg X hX hbl hbA hi hL rfl rfl 2 (by decide) (by omega) dL_law_707 dL_law_708 dL_law_709 dL_law_710 dL_law_711 ?_
  refine V_callW (st := []) (As := [.int (xs (K + 1)), .int (xs (K + 2))]) X (Mg_lft mX _) 2 gL_law_X10_judge rfl (by decide +kernel) bX.1 (RB_R bX (n := 6) (by decide)) (ci := 9) rfl rfl 0 rfl rfl rfl (Nat.zero_le _) ⟨Nat.le_of_ble_eq_true rfl, Nat.le_of_ble_eq_true rfl⟩ dL_law_712 (fun v w_ h_ => ?_)
  obtain ⟨w1, rfl, h1⟩ := h_
  refine V_aload_n X 1 rfl dL_law_715 ?_
  refine L_arg X hX hbl hbA hi hL rfl rfl 1 (by decide) (by omega) dL_law_716 dL_law_717 dL_law_718 dL_law_719 dL_law_720 ?_
  refine L_arg X hX hbl hbA hi hL rfl rfl 2 (by decide) (by omega) dL_law_721 dL_law_722 dL_law_723 dL_law_724 dL_law_725 ?_
  refine V_callW (st := v.toList ++ []) (As := [.int (xs (K + 1)), .int (xs (K + 2))]) X (Mg_rgt mM w1) 2 gL_law_X11_judge rfl (by decide +kernel) bM.1 (RB_R bM (n := 3) (by decide)) (ci := 10) rfl rfl w1.length ((app_at w1 _).trans rfl) rfl rfl (cat2 v) ⟨Nat.le_of_ble_eq_true rfl, Nat.le_of_ble_eq_true rfl⟩ dL_law_726 (fun v2 w_ h_ => ?_)
  obtain ⟨w2, rfl, h2⟩ := h_
  obtain ⟨⟨r, rfl, rfl⟩, hN⟩ := hh _ _ _ _ h1 h2
  refine V_to (pc' := 729) (st' := [.int r, .int r]) ?_ rfl rfl rfl rfl
  exact V_icmp_eq X rfl rfl 1389 dL_law_729 (by decide) (fun _ => kk _ _ hN) (fun q => absurd rfl q)
set_option maxHeartbeats 4000000 in
set_option maxRecDepth 100000 in
theorem lc_lacked (X : Vx p s m #[Value.ref b] meth c cL_law 4 RL wsL_law D Y (fun q => s.heap.size ≤ q)) (hX : va_X b L xs s s.heap) (hbl : b < s.heap.size) (hbA : ¬ (fun q : Nat => s.heap.size ≤ q) b) {iv : Int32} {K : Nat} (hi : iv.toInt = (K : Int)) (hK : K + 5 < L) (hL : L ≤ 3072) (hI : INV CC sg VV ff fj VM fM jM) (kk : ∀ w w', NXI Y CC mm R w w' → LJ p l e s m below meth c D b 1389 [(3, .int iv), (2, .ref mm), (1, .ref (CC 0)), (0, .ref b)] [] (w ++ w')) : LJ p l e s m below meth c D b 734 [(3, .int iv), (2, .ref mm), (1, .ref (CC 0)), (0, .ref b)] [] (WX Y CC sg VV ff fj ++ WM Y mm R VM fM jM) := by
  obtain ⟨rX, rM, pX, pM, bX, bM, mX, mM, hh⟩ := pr_lacked l D Y (m := mm) (R := R) hI (xs (K + 1)) (xs (K + 2))
  refine V_aload_n X 2 rfl dL_law_734 ?_
  refine L_arg X hX hbl hbA hi hL rfl rfl 1 (by decide) (by omega) dL_law_735 dL_law_736 dL_law_737 dL_law_738 dL_law_739 ?_
  refine L_arg X hX hbl hbA hi hL rfl rfl 2 (by decide) (by omega) dL_law_740 dL_law_741 dL_law_742 dL_law_743 dL_law_744 ?_
  refine V_callW (st := []) (As := [.int (xs (K + 1)), .int (xs (K + 2))]) X (Mg_lft mX _) 2 gL_law_X10_lacked rfl (by decide +kernel) bX.1 (RB_R bX (n := 9) (by decide)) (ci := 9) rfl rfl 0 rfl rfl rfl (Nat.zero_le _) ⟨Nat.le_of_ble_eq_true rfl, Nat.le_of_ble_eq_true rfl⟩ dL_law_745 (fun v w_ h_ => ?_)
  obtain ⟨w1, rfl, h1⟩ := h_
  refine V_aload_n X 1 rfl dL_law_748 ?_
  refine L_arg X hX hbl hbA hi hL rfl rfl 1 (by decide) (by omega) dL_law_749 dL_law_750 dL_law_751 dL_law_752 dL_law_753 ?_
  refine L_arg X hX hbl hbA hi hL rfl rfl 2 (by decide) (by omega) dL_law_754 dL_law_755 dL_law_756 dL_law_757 dL_law_758 ?_
  refine V_callW (st := v.toList ++ []) (As := [.int (xs (K + 1)), .int (xs (K + 2))]) X (Mg_rgt mM w1) 2 gL_law_X11_lacked rfl (by decide +kernel) bM.1 (RB_R bM (n := 9) (by decide)) (ci := 10) rfl rfl w1.length ((app_at w1 _).trans rfl) rfl rfl (cat2 v) ⟨Nat.le_of_ble_eq_true rfl, Nat.le_of_ble_eq_true rfl⟩ dL_law_759 (fun v2 w_ h_ => ?_)
  obtain ⟨w2, rfl, h2⟩ := h_
  obtain ⟨⟨r, rfl, rfl⟩, hN⟩ := hh _ _ _ _ h1 h2
  refine V_to (pc' := 762) (st' := [.long r, .long r]) ?_ rfl rfl rfl rfl
  refine V_lcmp (v := (0 : Int32)) X (lg_self r) dL_law_762 ?_
  exact V_if_eq X (a := 0) (by decide) 1389 dL_law_763 (by decide) (fun _ => kk _ _ hN) (fun q => absurd rfl q)
set_option maxHeartbeats 4000000 in
set_option maxRecDepth 100000 in
theorem lc_two (X : Vx p s m #[Value.ref b] meth c cL_law 4 RL wsL_law D Y (fun q => s.heap.size ≤ q)) (hX : va_X b L xs s s.heap) (hbl : b < s.heap.size) (hbA : ¬ (fun q : Nat => s.heap.size ≤ q) b) {iv : Int32} {K : Nat} (hi : iv.toInt = (K : Int)) (hK : K + 5 < L) (hL : L ≤ 3072) (hI : INV CC sg VV ff fj VM fM jM) (kk : ∀ w w', NXI Y CC mm R w w' → LJ p l e s m below meth c D b 1389 [(3, .int iv), (2, .ref mm), (1, .ref (CC 0)), (0, .ref b)] [] (w ++ w')) : LJ p l e s m below meth c D b 768 [(3, .int iv), (2, .ref mm), (1, .ref (CC 0)), (0, .ref b)] [] (WX Y CC sg VV ff fj ++ WM Y mm R VM fM jM) := by
  obtain ⟨rX, rM, pX, pM, bX, bM, mX, mM, hh⟩ := pr_two l D Y (m := mm) (R := R) hI (xs (K + 1)) (xs (K + 2))
  refine V_aload_n X 2 rfl dL_law_768 ?_
  refine L_arg X hX hbl hbA hi hL rfl rfl 1 (by decide) (by omega) dL_law_769 dL_law_770 dL_law_771 dL_law_772 dL_law_773 ?_
  refine L_arg X hX hbl hbA hi hL rfl rfl 2 (by decide) (by omega) dL_law_774 dL_law_775 dL_law_776 dL_law_777 dL_law_778 ?_
  refine V_callW (st := []) (As := [.int (xs (K + 1)), .int (xs (K + 2))]) X (Mg_lft mX _) 2 gL_law_X10_two rfl (by decide +kernel) bX.1 (RB_R bX (n := 11) (by decide)) (ci := 9) rfl rfl 0 rfl rfl rfl (Nat.zero_le _) ⟨Nat.le_of_ble_eq_true rfl, Nat.le_of_ble_eq_true rfl⟩ dL_law_779 (fun v w_ h_ => ?_)
  obtain ⟨w1, rfl, h1⟩ := h_
  refine V_aload_n X 1 rfl dL_law_782 ?_
  refine L_arg X hX hbl hbA hi hL rfl rfl 1 (by decide) (by omega) dL_law_783 dL_law_784 dL_law_785 dL_law_786 dL_law_787 ?_
  refine L_arg X hX hbl hbA hi hL rfl rfl 2 (by decide) (by omega) dL_law_788 dL_law_789 dL_law_790 dL_law_791 dL_law_792 ?_
  refine V_callW (st := v.toList ++ []) (As := [.int (xs (K + 1)), .int (xs (K + 2))]) X (Mg_rgt mM w1) 2 gL_law_X11_two rfl (by decide +kernel) bM.1 (RB_R bM (n := 11) (by decide)) (ci := 10) rfl rfl w1.length ((app_at w1 _).trans rfl) rfl rfl (cat2 v) ⟨Nat.le_of_ble_eq_true rfl, Nat.le_of_ble_eq_true rfl⟩ dL_law_793 (fun v2 w_ h_ => ?_)
  obtain ⟨w2, rfl, h2⟩ := h_
  obtain ⟨⟨r, rfl, rfl⟩, hN⟩ := hh _ _ _ _ h1 h2
  refine V_to (pc' := 796) (st' := [.int r, .int r]) ?_ rfl rfl rfl rfl
  exact V_icmp_eq X rfl rfl 1389 dL_law_796 (by decide) (fun _ => kk _ _ hN) (fun q => absurd rfl q)
set_option maxHeartbeats 4000000 in
set_option maxRecDepth 100000 in
theorem lc_mixed (X : Vx p s m #[Value.ref b] meth c cL_law 4 RL wsL_law D Y (fun q => s.heap.size ≤ q)) (hX : va_X b L xs s s.heap) (hbl : b < s.heap.size) (hbA : ¬ (fun q : Nat => s.heap.size ≤ q) b) {iv : Int32} {K : Nat} (hi : iv.toInt = (K : Int)) (hK : K + 5 < L) (hL : L ≤ 3072) (hI : INV CC sg VV ff fj VM fM jM) (kk : ∀ w w', NXI Y CC mm R w w' → LJ p l e s m below meth c D b 1389 [(3, .int iv), (2, .ref mm), (1, .ref (CC 0)), (0, .ref b)] [] (w ++ w')) : LJ p l e s m below meth c D b 801 [(3, .int iv), (2, .ref mm), (1, .ref (CC 0)), (0, .ref b)] [] (WX Y CC sg VV ff fj ++ WM Y mm R VM fM jM) := by
  obtain ⟨rX, rM, pX, pM, bX, bM, mX, mM, hh⟩ := pr_mixed l D Y (m := mm) (R := R) hI (xs (K + 1)) (xs (K + 2))
  refine V_aload_n X 2 rfl dL_law_801 ?_
  refine L_arg X hX hbl hbA hi hL rfl rfl 1 (by decide) (by omega) dL_law_802 dL_law_803 dL_law_804 dL_law_805 dL_law_806 ?_
  refine L_arg X hX hbl hbA hi hL rfl rfl 2 (by decide) (by omega) dL_law_807 dL_law_808 dL_law_809 dL_law_810 dL_law_811 ?_
  refine V_callW (st := []) (As := [.int (xs (K + 1)), .int (xs (K + 2))]) X (Mg_lft mX _) 2 gL_law_X10_mixed rfl (by decide +kernel) bX.1 (RB_R bX (n := 8) (by decide)) (ci := 9) rfl rfl 0 rfl rfl rfl (Nat.zero_le _) ⟨Nat.le_of_ble_eq_true rfl, Nat.le_of_ble_eq_true rfl⟩ dL_law_812 (fun v w_ h_ => ?_)
  obtain ⟨w1, rfl, h1⟩ := h_
  refine V_aload_n X 1 rfl dL_law_815 ?_
  refine L_arg X hX hbl hbA hi hL rfl rfl 1 (by decide) (by omega) dL_law_816 dL_law_817 dL_law_818 dL_law_819 dL_law_820 ?_
  refine L_arg X hX hbl hbA hi hL rfl rfl 2 (by decide) (by omega) dL_law_821 dL_law_822 dL_law_823 dL_law_824 dL_law_825 ?_
  refine V_callW (st := v.toList ++ []) (As := [.int (xs (K + 1)), .int (xs (K + 2))]) X (Mg_rgt mM w1) 2 gL_law_X11_mixed rfl (by decide +kernel) bM.1 (RB_R bM (n := 4) (by decide)) (ci := 10) rfl rfl w1.length ((app_at w1 _).trans rfl) rfl rfl (cat2 v) ⟨Nat.le_of_ble_eq_true rfl, Nat.le_of_ble_eq_true rfl⟩ dL_law_826 (fun v2 w_ h_ => ?_)
  obtain ⟨w2, rfl, h2⟩ := h_
  obtain ⟨⟨r, rfl, rfl⟩, hN⟩ := hh _ _ _ _ h1 h2
  refine V_to (pc' := 829) (st' := [.int r, .int r]) ?_ rfl rfl rfl rfl
  exact V_icmp_eq X rfl rfl 1389 dL_law_829 (by decide) (fun _ => kk _ _ hN) (fun q => absurd rfl q)
set_option maxHeartbeats 4000000 in
set_option maxRecDepth 100000 in
theorem lc_drawn (X : Vx p s m #[Value.ref b] meth c cL_law 4 RL wsL_law D Y (fun q => s.heap.size ≤ q)) (hX : va_X b L xs s s.heap) (hbl : b < s.heap.size) (hbA : ¬ (fun q : Nat => s.heap.size ≤ q) b) {iv : Int32} {K : Nat} (hi : iv.toInt = (K : Int)) (hK : K + 5 < L) (hL : L ≤ 3072) (hI : INV CC sg VV ff fj VM fM jM) (kk : ∀ w w', NXI Y CC mm R w w' → LJ p l e s m below meth c D b 1389 [(3, .int iv), (2, .ref mm), (1, .ref (CC 0)), (0, .ref b)] [] (w ++ w')) : LJ p l e s m below meth c D b 834 [(3, .int iv), (2, .ref mm), (1, .ref (CC 0)), (0, .ref b)] [] (WX Y CC sg VV ff fj ++ WM Y mm R VM fM jM) := by
  obtain ⟨rX, rM, pX, pM, bX, bM, mX, mM, hh⟩ := pr_drawn l D Y (m := mm) (R := R) hI (xs (K + 1)) (xs (K + 2)) (xs (K + 3)) (xs (K + 4))
  refine V_aload_n X 2 rfl dL_law_834 ?_
  refine L_arg X hX hbl hbA hi hL rfl rfl 1 (by decide) (by omega) dL_law_835 dL_law_836 dL_law_837 dL_law_838 dL_law_839 ?_
  refine L_arg X hX hbl hbA hi hL rfl rfl 2 (by decide) (by omega) dL_law_840 dL_law_841 dL_law_842 dL_law_843 dL_law_844 ?_
  refine L_arg X hX hbl hbA hi hL rfl rfl 3 (by decide) (by omega) dL_law_845 dL_law_846 dL_law_847 dL_law_848 dL_law_849 ?_
  refine L_arg X hX hbl hbA hi hL rfl rfl 4 (by decide) (by omega) dL_law_850 dL_law_851 dL_law_852 dL_law_853 dL_law_854 ?_
  refine V_callW (st := []) (As := [.int (xs (K + 1)), .int (xs (K + 2)), .int (xs (K + 3)), .int (xs (K + 4))]) X (Mg_lft mX _) 4 gL_law_X10_drawn rfl (by decide +kernel) bX.1 (RB_R bX (n := 9) (by decide)) (ci := 9) rfl rfl 0 rfl rfl rfl (Nat.zero_le _) ⟨Nat.le_of_ble_eq_true rfl, Nat.le_of_ble_eq_true rfl⟩ dL_law_855 (fun v w_ h_ => ?_)
  obtain ⟨w1, rfl, h1⟩ := h_
  refine V_aload_n X 1 rfl dL_law_858 ?_
  refine L_arg X hX hbl hbA hi hL rfl rfl 1 (by decide) (by omega) dL_law_859 dL_law_860 dL_law_861 dL_law_862 dL_law_863 ?_
  refine L_arg X hX hbl hbA hi hL rfl rfl 2 (by decide) (by omega) dL_law_864 dL_law_865 dL_law_866 dL_law_867 dL_law_868 ?_
  refine L_arg X hX hbl hbA hi hL rfl rfl 3 (by decide) (by omega) dL_law_869 dL_law_870 dL_law_871 dL_law_872 dL_law_873 ?_
  refine L_arg X hX hbl hbA hi hL rfl rfl 4 (by decide) (by omega) dL_law_874 dL_law_875 dL_law_876 dL_law_877 dL_law_878 ?_
  refine V_callW (st := v.toList ++ []) (As := [.int (xs (K + 1)), .int (xs (K + 2)), .int (xs (K + 3)), .int (xs (K + 4))]) X (Mg_rgt mM w1) 4 gL_law_X11_drawn rfl (by decide +kernel) bM.1 (RB_R bM (n := 9) (by decide)) (ci := 10) rfl rfl w1.length ((app_at w1 _).trans rfl) rfl rfl (cat2 v) ⟨Nat.le_of_ble_eq_true rfl, Nat.le_of_ble_eq_true rfl⟩ dL_law_879 (fun v2 w_ h_ => ?_)
  obtain ⟨w2, rfl, h2⟩ := h_
  obtain ⟨⟨r, rfl, rfl⟩, hN⟩ := hh _ _ _ _ h1 h2
  refine V_to (pc' := 882) (st' := [.int r, .int r]) ?_ rfl rfl rfl rfl
  exact V_icmp_eq X rfl rfl 1389 dL_law_882 (by decide) (fun _ => kk _ _ hN) (fun q => absurd rfl q)
set_option maxHeartbeats 4000000 in
set_option maxRecDepth 100000 in
theorem lc_begin (X : Vx p s m #[Value.ref b] meth c cL_law 4 RL wsL_law D Y (fun q => s.heap.size ≤ q)) (hX : va_X b L xs s s.heap) (hbl : b < s.heap.size) (hbA : ¬ (fun q : Nat => s.heap.size ≤ q) b) {iv : Int32} {K : Nat} (hi : iv.toInt = (K : Int)) (hK : K + 5 < L) (hL : L ≤ 3072) (hI : INV CC sg VV ff fj VM fM jM) (kk : ∀ w w', NXI Y CC mm R w w' → LJ p l e s m below meth c D b 1389 [(3, .int iv), (2, .ref mm), (1, .ref (CC 0)), (0, .ref b)] [] (w ++ w')) : LJ p l e s m below meth c D b 887 [(3, .int iv), (2, .ref mm), (1, .ref (CC 0)), (0, .ref b)] [] (WX Y CC sg VV ff fj ++ WM Y mm R VM fM jM) := by
  obtain ⟨rX, rM, pX, pM, bX, bM, mX, mM, hh⟩ := pr_begin l D Y (m := mm) (R := R) hI (xs (K + 1))
  refine V_aload_n X 2 rfl dL_law_887 ?_
  refine L_arg X hX hbl hbA hi hL rfl rfl 1 (by decide) (by omega) dL_law_888 dL_law_889 dL_law_890 dL_law_891 dL_law_892 ?_
  refine V_callW (st := []) (As := [.int (xs (K + 1))]) X (Mg_lft mX _) 1 gL_law_X10_begin rfl (by decide +kernel) bX.1 (RB_R bX (n := 3) (by decide)) (ci := 9) rfl rfl 0 rfl rfl rfl (Nat.zero_le _) ⟨Nat.le_of_ble_eq_true rfl, Nat.le_of_ble_eq_true rfl⟩ dL_law_893 (fun v w_ h_ => ?_)
  obtain ⟨w1, rfl, h1⟩ := h_
  refine V_aload_n X 1 rfl dL_law_896 ?_
  refine L_arg X hX hbl hbA hi hL rfl rfl 1 (by decide) (by omega) dL_law_897 dL_law_898 dL_law_899 dL_law_900 dL_law_901 ?_
  refine V_callW (st := v.toList ++ []) (As := [.int (xs (K + 1))]) X (Mg_rgt mM w1) 1 gL_law_X11_begin rfl (by decide +kernel) bM.1 (RB_R bM (n := 3) (by decide)) (ci := 10) rfl rfl w1.length ((app_at w1 _).trans rfl) rfl rfl (cat2 v) ⟨Nat.le_of_ble_eq_true rfl, Nat.le_of_ble_eq_true rfl⟩ dL_law_902 (fun v2 w_ h_ => ?_)
  obtain ⟨w2, rfl, h2⟩ := h_
  obtain ⟨⟨r, rfl, rfl⟩, hN⟩ := hh _ _ _ _ h1 h2
  refine V_to (pc' := 905) (st' := [.int r, .int r]) ?_ rfl rfl rfl rfl
  exact V_icmp_eq X rfl rfl 1389 dL_law_905 (by decide) (fun _ => kk _ _ hN) (fun q => absurd rfl q)
set_option maxHeartbeats 4000000 in
set_option maxRecDepth 100000 in
theorem lc_on (X : Vx p s m #[Value.ref b] meth c cL_law 4 RL wsL_law D Y (fun q => s.heap.size ≤ q)) (hX : va_X b L xs s s.heap) (hbl : b < s.heap.size) (hbA : ¬ (fun q : Nat => s.heap.size ≤ q) b) {iv : Int32} {K : Nat} (hi : iv.toInt = (K : Int)) (hK : K + 5 < L) (hL : L ≤ 3072) (hI : INV CC sg VV ff fj VM fM jM) (kk : ∀ w w', NXI Y CC mm R w w' → LJ p l e s m below meth c D b 1389 [(3, .int iv), (2, .ref mm), (1, .ref (CC 0)), (0, .ref b)] [] (w ++ w')) : LJ p l e s m below meth c D b 910 [(3, .int iv), (2, .ref mm), (1, .ref (CC 0)), (0, .ref b)] [] (WX Y CC sg VV ff fj ++ WM Y mm R VM fM jM) := by
  obtain ⟨rX, rM, pX, pM, bX, bM, mX, mM, hh⟩ := pr_on l D Y (m := mm) (R := R) hI
  refine V_aload_n X 2 rfl dL_law_910 ?_
  refine V_callW (st := []) (As := []) X (Mg_lft mX _) 0 gL_law_X10_on rfl (by decide +kernel) bX.1 (RB_R bX (n := 2) (by decide)) (ci := 9) rfl rfl 0 rfl rfl rfl (Nat.zero_le _) ⟨Nat.le_of_ble_eq_true rfl, Nat.le_of_ble_eq_true rfl⟩ dL_law_911 (fun v w_ h_ => ?_)
  obtain ⟨w1, rfl, h1⟩ := h_
  refine V_aload_n X 1 rfl dL_law_914 ?_
  refine V_callW (st := v.toList ++ []) (As := []) X (Mg_rgt mM w1) 0 gL_law_X11_on rfl (by decide +kernel) bM.1 (RB_R bM (n := 2) (by decide)) (ci := 10) rfl rfl w1.length ((app_at w1 _).trans rfl) rfl rfl (cat2 v) ⟨Nat.le_of_ble_eq_true rfl, Nat.le_of_ble_eq_true rfl⟩ dL_law_915 (fun v2 w_ h_ => ?_)
  obtain ⟨w2, rfl, h2⟩ := h_
  obtain ⟨⟨r, rfl, rfl⟩, hN⟩ := hh _ _ _ _ h1 h2
  refine V_to (pc' := 918) (st' := [.int r, .int r]) ?_ rfl rfl rfl rfl
  exact V_icmp_eq X rfl rfl 1389 dL_law_918 (by decide) (fun _ => kk _ _ hN) (fun q => absurd rfl q)
set_option maxHeartbeats 4000000 in
set_option maxRecDepth 100000 in
theorem lc_led (X : Vx p s m #[Value.ref b] meth c cL_law 4 RL wsL_law D Y (fun q => s.heap.size ≤ q)) (hX : va_X b L xs s s.heap) (hbl : b < s.heap.size) (hbA : ¬ (fun q : Nat => s.heap.size ≤ q) b) {iv : Int32} {K : Nat} (hi : iv.toInt = (K : Int)) (hK : K + 5 < L) (hL : L ≤ 3072) (hI : INV CC sg VV ff fj VM fM jM) (kk : ∀ w w', NXI Y CC mm R w w' → LJ p l e s m below meth c D b 1389 [(3, .int iv), (2, .ref mm), (1, .ref (CC 0)), (0, .ref b)] [] (w ++ w')) : LJ p l e s m below meth c D b 923 [(3, .int iv), (2, .ref mm), (1, .ref (CC 0)), (0, .ref b)] [] (WX Y CC sg VV ff fj ++ WM Y mm R VM fM jM) := by
  obtain ⟨rX, rM, pX, pM, bX, bM, mX, mM, hh⟩ := pr_led l D Y (m := mm) (R := R) hI (xs (K + 1))
  refine V_aload_n X 2 rfl dL_law_923 ?_
  refine L_arg X hX hbl hbA hi hL rfl rfl 1 (by decide) (by omega) dL_law_924 dL_law_925 dL_law_926 dL_law_927 dL_law_928 ?_
  refine V_callW (st := []) (As := [.int (xs (K + 1))]) X (Mg_lft mX _) 1 gL_law_X10_led rfl (by decide +kernel) bX.1 (RB_R bX (n := 2) (by decide)) (ci := 9) rfl rfl 0 rfl rfl rfl (Nat.zero_le _) ⟨Nat.le_of_ble_eq_true rfl, Nat.le_of_ble_eq_true rfl⟩ dL_law_929 (fun v w_ h_ => ?_)
  obtain ⟨w1, rfl, h1⟩ := h_
  refine V_aload_n X 1 rfl dL_law_932 ?_
  refine L_arg X hX hbl hbA hi hL rfl rfl 1 (by decide) (by omega) dL_law_933 dL_law_934 dL_law_935 dL_law_936 dL_law_937 ?_
  refine V_callW (st := v.toList ++ []) (As := [.int (xs (K + 1))]) X (Mg_rgt mM w1) 1 gL_law_X11_led rfl (by decide +kernel) bM.1 (RB_R bM (n := 2) (by decide)) (ci := 10) rfl rfl w1.length ((app_at w1 _).trans rfl) rfl rfl (cat2 v) ⟨Nat.le_of_ble_eq_true rfl, Nat.le_of_ble_eq_true rfl⟩ dL_law_938 (fun v2 w_ h_ => ?_)
  obtain ⟨w2, rfl, h2⟩ := h_
  obtain ⟨⟨r, rfl, rfl⟩, hN⟩ := hh _ _ _ _ h1 h2
  refine V_to (pc' := 941) (st' := [.int r, .int r]) ?_ rfl rfl rfl rfl
  exact V_icmp_eq X rfl rfl 1389 dL_law_941 (by decide) (fun _ => kk _ _ hN) (fun q => absurd rfl q)
set_option maxHeartbeats 4000000 in
set_option maxRecDepth 100000 in
theorem lc_image (X : Vx p s m #[Value.ref b] meth c cL_law 4 RL wsL_law D Y (fun q => s.heap.size ≤ q)) (hX : va_X b L xs s s.heap) (hbl : b < s.heap.size) (hbA : ¬ (fun q : Nat => s.heap.size ≤ q) b) {iv : Int32} {K : Nat} (hi : iv.toInt = (K : Int)) (hK : K + 5 < L) (hL : L ≤ 3072) (hI : INV CC sg VV ff fj VM fM jM) (kk : ∀ w w', NXI Y CC mm R w w' → LJ p l e s m below meth c D b 1389 [(3, .int iv), (2, .ref mm), (1, .ref (CC 0)), (0, .ref b)] [] (w ++ w')) : LJ p l e s m below meth c D b 946 [(3, .int iv), (2, .ref mm), (1, .ref (CC 0)), (0, .ref b)] [] (WX Y CC sg VV ff fj ++ WM Y mm R VM fM jM) := by
  obtain ⟨rX, rM, pX, pM, bX, bM, mX, mM, hh⟩ := pr_image l D Y (m := mm) (R := R) hI
  refine V_aload_n X 2 rfl dL_law_946 ?_
  refine V_callW (st := []) (As := []) X (Mg_lft mX _) 0 gL_law_X10_image rfl (by decide +kernel) bX.1 (RB_R bX (n := 2) (by decide)) (ci := 9) rfl rfl 0 rfl rfl rfl (Nat.zero_le _) ⟨Nat.le_of_ble_eq_true rfl, Nat.le_of_ble_eq_true rfl⟩ dL_law_947 (fun v w_ h_ => ?_)
  obtain ⟨w1, rfl, h1⟩ := h_
  refine V_aload_n X 1 rfl dL_law_950 ?_
  refine V_callW (st := v.toList ++ []) (As := []) X (Mg_rgt mM w1) 0 gL_law_X11_image rfl (by decide +kernel) bM.1 (RB_R bM (n := 2) (by decide)) (ci := 10) rfl rfl w1.length ((app_at w1 _).trans rfl) rfl rfl (cat2 v) ⟨Nat.le_of_ble_eq_true rfl, Nat.le_of_ble_eq_true rfl⟩ dL_law_951 (fun v2 w_ h_ => ?_)
  obtain ⟨w2, rfl, h2⟩ := h_
  obtain ⟨⟨r, rfl, rfl⟩, hN⟩ := hh _ _ _ _ h1 h2
  refine V_to (pc' := 954) (st' := [.int r, .int r]) ?_ rfl rfl rfl rfl
  exact V_icmp_eq X rfl rfl 1389 dL_law_954 (by decide) (fun _ => kk _ _ hN) (fun q => absurd rfl q)
set_option maxHeartbeats 4000000 in
set_option maxRecDepth 100000 in
theorem lc_back (X : Vx p s m #[Value.ref b] meth c cL_law 4 RL wsL_law D Y (fun q => s.heap.size ≤ q)) (hX : va_X b L xs s s.heap) (hbl : b < s.heap.size) (hbA : ¬ (fun q : Nat => s.heap.size ≤ q) b) {iv : Int32} {K : Nat} (hi : iv.toInt = (K : Int)) (hK : K + 5 < L) (hL : L ≤ 3072) (hI : INV CC sg VV ff fj VM fM jM) (kk : ∀ w w', NXI Y CC mm R w w' → LJ p l e s m below meth c D b 1389 [(3, .int iv), (2, .ref mm), (1, .ref (CC 0)), (0, .ref b)] [] (w ++ w')) : LJ p l e s m below meth c D b 959 [(3, .int iv), (2, .ref mm), (1, .ref (CC 0)), (0, .ref b)] [] (WX Y CC sg VV ff fj ++ WM Y mm R VM fM jM) := by
  obtain ⟨rX, rM, pX, pM, bX, bM, mX, mM, hh⟩ := pr_back l D Y (m := mm) (R := R) hI
  refine V_aload_n X 2 rfl dL_law_959 ?_
  refine V_callW (st := []) (As := []) X (Mg_lft mX _) 0 gL_law_X10_back rfl (by decide +kernel) bX.1 (RB_R bX (n := 2) (by decide)) (ci := 9) rfl rfl 0 rfl rfl rfl (Nat.zero_le _) ⟨Nat.le_of_ble_eq_true rfl, Nat.le_of_ble_eq_true rfl⟩ dL_law_960 (fun v w_ h_ => ?_)
  obtain ⟨w1, rfl, h1⟩ := h_
  refine V_aload_n X 1 rfl dL_law_963 ?_
  refine V_callW (st := v.toList ++ []) (As := []) X (Mg_rgt mM w1) 0 gL_law_X11_back rfl (by decide +kernel) bM.1 (RB_R bM (n := 2) (by decide)) (ci := 10) rfl rfl w1.length ((app_at w1 _).trans rfl) rfl rfl (cat2 v) ⟨Nat.le_of_ble_eq_true rfl, Nat.le_of_ble_eq_true rfl⟩ dL_law_964 (fun v2 w_ h_ => ?_)
  obtain ⟨w2, rfl, h2⟩ := h_
  obtain ⟨⟨r, rfl, rfl⟩, hN⟩ := hh _ _ _ _ h1 h2
  refine V_to (pc' := 967) (st' := [.int r, .int r]) ?_ rfl rfl rfl rfl
  exact V_icmp_eq X rfl rfl 1389 dL_law_967 (by decide) (fun _ => kk _ _ hN) (fun q => absurd rfl q)
set_option maxHeartbeats 4000000 in
set_option maxRecDepth 100000 in
theorem lc_undo (X : Vx p s m #[Value.ref b] meth c cL_law 4 RL wsL_law D Y (fun q => s.heap.size ≤ q)) (hX : va_X b L xs s s.heap) (hbl : b < s.heap.size) (hbA : ¬ (fun q : Nat => s.heap.size ≤ q) b) {iv : Int32} {K : Nat} (hi : iv.toInt = (K : Int)) (hK : K + 5 < L) (hL : L ≤ 3072) (hI : INV CC sg VV ff fj VM fM jM) (kk : ∀ w w', NXI Y CC mm R w w' → LJ p l e s m below meth c D b 1389 [(3, .int iv), (2, .ref mm), (1, .ref (CC 0)), (0, .ref b)] [] (w ++ w')) : LJ p l e s m below meth c D b 972 [(3, .int iv), (2, .ref mm), (1, .ref (CC 0)), (0, .ref b)] [] (WX Y CC sg VV ff fj ++ WM Y mm R VM fM jM) := by
  obtain ⟨rX, rM, pX, pM, bX, bM, mX, mM, hh⟩ := pr_undo l D Y (m := mm) (R := R) hI
  refine V_aload_n X 2 rfl dL_law_972 ?_
  refine V_callW (st := []) (As := []) X (Mg_lft mX _) 0 gL_law_X10_undo rfl (by decide +kernel) bX.1 (RB_R bX (n := 2) (by decide)) (ci := 9) rfl rfl 0 rfl rfl rfl (Nat.zero_le _) ⟨Nat.le_of_ble_eq_true rfl, Nat.le_of_ble_eq_true rfl⟩ dL_law_973 (fun v w_ h_ => ?_)
  obtain ⟨w1, rfl, h1⟩ := h_
  refine V_aload_n X 1 rfl dL_law_976 ?_
  refine V_callW (st := v.toList ++ []) (As := []) X (Mg_rgt mM w1) 0 gL_law_X11_undo rfl (by decide +kernel) bM.1 (RB_R bM (n := 1) (by decide)) (ci := 10) rfl rfl w1.length ((app_at w1 _).trans rfl) rfl rfl (cat2 v) ⟨Nat.le_of_ble_eq_true rfl, Nat.le_of_ble_eq_true rfl⟩ dL_law_977 (fun v2 w_ h_ => ?_)
  obtain ⟨w2, rfl, h2⟩ := h_
  obtain ⟨⟨r, rfl, rfl⟩, hN⟩ := hh _ _ _ _ h1 h2
  refine V_to (pc' := 980) (st' := [.int r, .int r]) ?_ rfl rfl rfl rfl
  exact V_icmp_eq X rfl rfl 1389 dL_law_980 (by decide) (fun _ => kk _ _ hN) (fun q => absurd rfl q)
set_option maxHeartbeats 4000000 in
set_option maxRecDepth 100000 in
theorem lc_redo (X : Vx p s m #[Value.ref b] meth c cL_law 4 RL wsL_law D Y (fun q => s.heap.size ≤ q)) (hX : va_X b L xs s s.heap) (hbl : b < s.heap.size) (hbA : ¬ (fun q : Nat => s.heap.size ≤ q) b) {iv : Int32} {K : Nat} (hi : iv.toInt = (K : Int)) (hK : K + 5 < L) (hL : L ≤ 3072) (hI : INV CC sg VV ff fj VM fM jM) (kk : ∀ w w', NXI Y CC mm R w w' → LJ p l e s m below meth c D b 1389 [(3, .int iv), (2, .ref mm), (1, .ref (CC 0)), (0, .ref b)] [] (w ++ w')) : LJ p l e s m below meth c D b 985 [(3, .int iv), (2, .ref mm), (1, .ref (CC 0)), (0, .ref b)] [] (WX Y CC sg VV ff fj ++ WM Y mm R VM fM jM) := by
  obtain ⟨rX, rM, pX, pM, bX, bM, mX, mM, hh⟩ := pr_redo l D Y (m := mm) (R := R) hI
  refine V_aload_n X 2 rfl dL_law_985 ?_
  refine V_callW (st := []) (As := []) X (Mg_lft mX _) 0 gL_law_X10_redo rfl (by decide +kernel) bX.1 (RB_R bX (n := 2) (by decide)) (ci := 9) rfl rfl 0 rfl rfl rfl (Nat.zero_le _) ⟨Nat.le_of_ble_eq_true rfl, Nat.le_of_ble_eq_true rfl⟩ dL_law_986 (fun v w_ h_ => ?_)
  obtain ⟨w1, rfl, h1⟩ := h_
  refine V_aload_n X 1 rfl dL_law_989 ?_
  refine V_callW (st := v.toList ++ []) (As := []) X (Mg_rgt mM w1) 0 gL_law_X11_redo rfl (by decide +kernel) bM.1 (RB_R bM (n := 1) (by decide)) (ci := 10) rfl rfl w1.length ((app_at w1 _).trans rfl) rfl rfl (cat2 v) ⟨Nat.le_of_ble_eq_true rfl, Nat.le_of_ble_eq_true rfl⟩ dL_law_990 (fun v2 w_ h_ => ?_)
  obtain ⟨w2, rfl, h2⟩ := h_
  obtain ⟨⟨r, rfl, rfl⟩, hN⟩ := hh _ _ _ _ h1 h2
  refine V_to (pc' := 993) (st' := [.int r, .int r]) ?_ rfl rfl rfl rfl
  exact V_icmp_eq X rfl rfl 1389 dL_law_993 (by decide) (fun _ => kk _ _ hN) (fun q => absurd rfl q)
set_option maxHeartbeats 4000000 in
set_option maxRecDepth 100000 in
theorem lc_body (X : Vx p s m #[Value.ref b] meth c cL_law 4 RL wsL_law D Y (fun q => s.heap.size ≤ q)) (hX : va_X b L xs s s.heap) (hbl : b < s.heap.size) (hbA : ¬ (fun q : Nat => s.heap.size ≤ q) b) {iv : Int32} {K : Nat} (hi : iv.toInt = (K : Int)) (hK : K + 5 < L) (hL : L ≤ 3072) (hI : INV CC sg VV ff fj VM fM jM) (kk : ∀ w w', NXI Y CC mm R w w' → LJ p l e s m below meth c D b 1389 [(3, .int iv), (2, .ref mm), (1, .ref (CC 0)), (0, .ref b)] [] (w ++ w')) : LJ p l e s m below meth c D b 998 [(3, .int iv), (2, .ref mm), (1, .ref (CC 0)), (0, .ref b)] [] (WX Y CC sg VV ff fj ++ WM Y mm R VM fM jM) := by
  obtain ⟨rX, rM, pX, pM, bX, bM, mX, mM, hh⟩ := pr_body l D Y (m := mm) (R := R) hI (xs (K + 1))
  refine V_aload_n X 2 rfl dL_law_998 ?_
  refine L_arg X hX hbl hbA hi hL rfl rfl 1 (by decide) (by omega) dL_law_999 dL_law_1000 dL_law_1001 dL_law_1002 dL_law_1003 ?_
  refine V_callW (st := []) (As := [.int (xs (K + 1))]) X (Mg_lft mX _) 1 gL_law_X10_body rfl (by decide +kernel) bX.1 (RB_R bX (n := 2) (by decide)) (ci := 9) rfl rfl 0 rfl rfl rfl (Nat.zero_le _) ⟨Nat.le_of_ble_eq_true rfl, Nat.le_of_ble_eq_true rfl⟩ dL_law_1004 (fun v w_ h_ => ?_)
  obtain ⟨w1, rfl, h1⟩ := h_
  refine V_aload_n X 1 rfl dL_law_1007 ?_
  refine L_arg X hX hbl hbA hi hL rfl rfl 1 (by decide) (by omega) dL_law_1008 dL_law_1009 dL_law_1010 dL_law_1011 dL_law_1012 ?_
  refine V_callW (st := v.toList ++ []) (As := [.int (xs (K + 1))]) X (Mg_rgt mM w1) 1 gL_law_X11_body rfl (by decide +kernel) bM.1 (RB_R bM (n := 2) (by decide)) (ci := 10) rfl rfl w1.length ((app_at w1 _).trans rfl) rfl rfl (cat2 v) ⟨Nat.le_of_ble_eq_true rfl, Nat.le_of_ble_eq_true rfl⟩ dL_law_1013 (fun v2 w_ h_ => ?_)
  obtain ⟨w2, rfl, h2⟩ := h_
  obtain ⟨⟨r, rfl, rfl⟩, hN⟩ := hh _ _ _ _ h1 h2
  refine V_to (pc' := 1016) (st' := [.int r, .int r]) ?_ rfl rfl rfl rfl
  exact V_icmp_eq X rfl rfl 1389 dL_law_1016 (by decide) (fun _ => kk _ _ hN) (fun q => absurd rfl q)
set_option maxHeartbeats 4000000 in
set_option maxRecDepth 100000 in
theorem lc_act (X : Vx p s m #[Value.ref b] meth c cL_law 4 RL wsL_law D Y (fun q => s.heap.size ≤ q)) (hX : va_X b L xs s s.heap) (hbl : b < s.heap.size) (hbA : ¬ (fun q : Nat => s.heap.size ≤ q) b) {iv : Int32} {K : Nat} (hi : iv.toInt = (K : Int)) (hK : K + 5 < L) (hL : L ≤ 3072) (hI : INV CC sg VV ff fj VM fM jM) (kk : ∀ w w', NXI Y CC mm R w w' → LJ p l e s m below meth c D b 1389 [(3, .int iv), (2, .ref mm), (1, .ref (CC 0)), (0, .ref b)] [] (w ++ w')) : LJ p l e s m below meth c D b 1021 [(3, .int iv), (2, .ref mm), (1, .ref (CC 0)), (0, .ref b)] [] (WX Y CC sg VV ff fj ++ WM Y mm R VM fM jM) := by
  obtain ⟨rX, rM, pX, pM, bX, bM, mX, mM, hh⟩ := pr_act l D Y (m := mm) (R := R) hI (xs (K + 1)) (xs (K + 2)) (xs (K + 3))
  refine V_aload_n X 2 rfl dL_law_1021 ?_
  refine L_arg X hX hbl hbA hi hL rfl rfl 1 (by decide) (by omega) dL_law_1022 dL_law_1023 dL_law_1024 dL_law_1025 dL_law_1026 ?_
  refine L_arg X hX hbl hbA hi hL rfl rfl 2 (by decide) (by omega) dL_law_1027 dL_law_1028 dL_law_1029 dL_law_1030 dL_law_1031 ?_
  refine L_arg X hX hbl hbA hi hL rfl rfl 3 (by decide) (by omega) dL_law_1032 dL_law_1033 dL_law_1034 dL_law_1035 dL_law_1036 ?_
  refine V_callW (st := []) (As := [.int (xs (K + 1)), .int (xs (K + 2)), .int (xs (K + 3))]) X (Mg_lft mX _) 3 gL_law_X10_act rfl (by decide +kernel) bX.1 (RB_R bX (n := 4) (by decide)) (ci := 9) rfl rfl 0 rfl rfl rfl (Nat.zero_le _) ⟨Nat.le_of_ble_eq_true rfl, Nat.le_of_ble_eq_true rfl⟩ dL_law_1037 (fun v w_ h_ => ?_)
  obtain ⟨w1, rfl, h1⟩ := h_
  refine V_aload_n X 1 rfl dL_law_1040 ?_
  refine L_arg X hX hbl hbA hi hL rfl rfl 1 (by decide) (by omega) dL_law_1041 dL_law_1042 dL_law_1043 dL_law_1044 dL_law_1045 ?_
  refine L_arg X hX hbl hbA hi hL rfl rfl 2 (by decide) (by omega) dL_law_1046 dL_law_1047 dL_law_1048 dL_law_1049 dL_law_1050 ?_
  refine L_arg X hX hbl hbA hi hL rfl rfl 3 (by decide) (by omega) dL_law_1051 dL_law_1052 dL_law_1053 dL_law_1054 dL_law_1055 ?_
  refine V_callW (st := v.toList ++ []) (As := [.int (xs (K + 1)), .int (xs (K + 2)), .int (xs (K + 3))]) X (Mg_rgt mM w1) 3 gL_law_X11_act rfl (by decide +kernel) bM.1 (RB_R bM (n := 4) (by decide)) (ci := 10) rfl rfl w1.length ((app_at w1 _).trans rfl) rfl rfl (cat2 v) ⟨Nat.le_of_ble_eq_true rfl, Nat.le_of_ble_eq_true rfl⟩ dL_law_1056 (fun v2 w_ h_ => ?_)
  obtain ⟨w2, rfl, h2⟩ := h_
  obtain ⟨⟨r, rfl, rfl⟩, hN⟩ := hh _ _ _ _ h1 h2
  refine V_to (pc' := 1059) (st' := [.int r, .int r]) ?_ rfl rfl rfl rfl
  exact V_icmp_eq X rfl rfl 1389 dL_law_1059 (by decide) (fun _ => kk _ _ hN) (fun q => absurd rfl q)
set_option maxHeartbeats 4000000 in
set_option maxRecDepth 100000 in
theorem lc_trace (X : Vx p s m #[Value.ref b] meth c cL_law 4 RL wsL_law D Y (fun q => s.heap.size ≤ q)) (hX : va_X b L xs s s.heap) (hbl : b < s.heap.size) (hbA : ¬ (fun q : Nat => s.heap.size ≤ q) b) {iv : Int32} {K : Nat} (hi : iv.toInt = (K : Int)) (hK : K + 5 < L) (hL : L ≤ 3072) (hI : INV CC sg VV ff fj VM fM jM) (kk : ∀ w w', NXI Y CC mm R w w' → LJ p l e s m below meth c D b 1389 [(3, .int iv), (2, .ref mm), (1, .ref (CC 0)), (0, .ref b)] [] (w ++ w')) : LJ p l e s m below meth c D b 1064 [(3, .int iv), (2, .ref mm), (1, .ref (CC 0)), (0, .ref b)] [] (WX Y CC sg VV ff fj ++ WM Y mm R VM fM jM) := by
  obtain ⟨rX, rM, pX, pM, bX, bM, mX, mM, hh⟩ := pr_trace l D Y (m := mm) (R := R) hI (xs (K + 1))
  refine V_aload_n X 2 rfl dL_law_1064 ?_
  refine L_arg X hX hbl hbA hi hL rfl rfl 1 (by decide) (by omega) dL_law_1065 dL_law_1066 dL_law_1067 dL_law_1068 dL_law_1069 ?_
  refine V_callW (st := []) (As := [.int (xs (K + 1))]) X (Mg_lft mX _) 1 gL_law_X10_trace rfl (by decide +kernel) bX.1 (RB_R bX (n := 2) (by decide)) (ci := 9) rfl rfl 0 rfl rfl rfl (Nat.zero_le _) ⟨Nat.le_of_ble_eq_true rfl, Nat.le_of_ble_eq_true rfl⟩ dL_law_1070 (fun v w_ h_ => ?_)
  obtain ⟨w1, rfl, h1⟩ := h_
  refine V_aload_n X 1 rfl dL_law_1073 ?_
  refine L_arg X hX hbl hbA hi hL rfl rfl 1 (by decide) (by omega) dL_law_1074 dL_law_1075 dL_law_1076 dL_law_1077 dL_law_1078 ?_
  refine V_callW (st := v.toList ++ []) (As := [.int (xs (K + 1))]) X (Mg_rgt mM w1) 1 gL_law_X11_trace rfl (by decide +kernel) bM.1 (RB_R bM (n := 2) (by decide)) (ci := 10) rfl rfl w1.length ((app_at w1 _).trans rfl) rfl rfl (cat2 v) ⟨Nat.le_of_ble_eq_true rfl, Nat.le_of_ble_eq_true rfl⟩ dL_law_1079 (fun v2 w_ h_ => ?_)
  obtain ⟨w2, rfl, h2⟩ := h_
  obtain ⟨⟨r, rfl, rfl⟩, hN⟩ := hh _ _ _ _ h1 h2
  refine V_to (pc' := 1082) (st' := [.int r, .int r]) ?_ rfl rfl rfl rfl
  exact V_icmp_eq X rfl rfl 1389 dL_law_1082 (by decide) (fun _ => kk _ _ hN) (fun q => absurd rfl q)
set_option maxHeartbeats 4000000 in
set_option maxRecDepth 100000 in
theorem lc_keep (X : Vx p s m #[Value.ref b] meth c cL_law 4 RL wsL_law D Y (fun q => s.heap.size ≤ q)) (hX : va_X b L xs s s.heap) (hbl : b < s.heap.size) (hbA : ¬ (fun q : Nat => s.heap.size ≤ q) b) {iv : Int32} {K : Nat} (hi : iv.toInt = (K : Int)) (hK : K + 5 < L) (hL : L ≤ 3072) (hI : INV CC sg VV ff fj VM fM jM) (kk : ∀ w w', NXI Y CC mm R w w' → LJ p l e s m below meth c D b 1389 [(3, .int iv), (2, .ref mm), (1, .ref (CC 0)), (0, .ref b)] [] (w ++ w')) : LJ p l e s m below meth c D b 1087 [(3, .int iv), (2, .ref mm), (1, .ref (CC 0)), (0, .ref b)] [] (WX Y CC sg VV ff fj ++ WM Y mm R VM fM jM) := by
  obtain ⟨rX, rM, pX, pM, bX, bM, mX, mM, hh⟩ := pr_keep l D Y (m := mm) (R := R) hI (xs (K + 1)) (xs (K + 2))
  refine V_aload_n X 2 rfl dL_law_1087 ?_
  refine L_arg X hX hbl hbA hi hL rfl rfl 1 (by decide) (by omega) dL_law_1088 dL_law_1089 dL_law_1090 dL_law_1091 dL_law_1092 ?_
  refine L_arg X hX hbl hbA hi hL rfl rfl 2 (by decide) (by omega) dL_law_1093 dL_law_1094 dL_law_1095 dL_law_1096 dL_law_1097 ?_
  refine V_callW (st := []) (As := [.int (xs (K + 1)), .int (xs (K + 2))]) X (Mg_lft mX _) 2 gL_law_X10_keep rfl (by decide +kernel) bX.1 (RB_R bX (n := 4) (by decide)) (ci := 9) rfl rfl 0 rfl rfl rfl (Nat.zero_le _) ⟨Nat.le_of_ble_eq_true rfl, Nat.le_of_ble_eq_true rfl⟩ dL_law_1098 (fun v w_ h_ => ?_)
  obtain ⟨w1, rfl, h1⟩ := h_
  refine V_aload_n X 1 rfl dL_law_1101 ?_
  refine L_arg X hX hbl hbA hi hL rfl rfl 1 (by decide) (by omega) dL_law_1102 dL_law_1103 dL_law_1104 dL_law_1105 dL_law_1106 ?_
  refine L_arg X hX hbl hbA hi hL rfl rfl 2 (by decide) (by omega) dL_law_1107 dL_law_1108 dL_law_1109 dL_law_1110 dL_law_1111 ?_
  refine V_callW (st := v.toList ++ []) (As := [.int (xs (K + 1)), .int (xs (K + 2))]) X (Mg_rgt mM w1) 2 gL_law_X11_keep rfl (by decide +kernel) bM.1 (RB_R bM (n := 3) (by decide)) (ci := 10) rfl rfl w1.length ((app_at w1 _).trans rfl) rfl rfl (cat2 v) ⟨Nat.le_of_ble_eq_true rfl, Nat.le_of_ble_eq_true rfl⟩ dL_law_1112 (fun v2 w_ h_ => ?_)
  obtain ⟨w2, rfl, h2⟩ := h_
  obtain ⟨⟨r, rfl, rfl⟩, hN⟩ := hh _ _ _ _ h1 h2
  refine V_to (pc' := 1115) (st' := [.int r, .int r]) ?_ rfl rfl rfl rfl
  exact V_icmp_eq X rfl rfl 1389 dL_law_1115 (by decide) (fun _ => kk _ _ hN) (fun q => absurd rfl q)
set_option maxHeartbeats 4000000 in
set_option maxRecDepth 100000 in
theorem lc_row (X : Vx p s m #[Value.ref b] meth c cL_law 4 RL wsL_law D Y (fun q => s.heap.size ≤ q)) (hX : va_X b L xs s s.heap) (hbl : b < s.heap.size) (hbA : ¬ (fun q : Nat => s.heap.size ≤ q) b) {iv : Int32} {K : Nat} (hi : iv.toInt = (K : Int)) (hK : K + 5 < L) (hL : L ≤ 3072) (hI : INV CC sg VV ff fj VM fM jM) (kk : ∀ w w', NXI Y CC mm R w w' → LJ p l e s m below meth c D b 1389 [(3, .int iv), (2, .ref mm), (1, .ref (CC 0)), (0, .ref b)] [] (w ++ w')) : LJ p l e s m below meth c D b 1120 [(3, .int iv), (2, .ref mm), (1, .ref (CC 0)), (0, .ref b)] [] (WX Y CC sg VV ff fj ++ WM Y mm R VM fM jM) := by
  obtain ⟨rX, rM, pX, pM, bX, bM, mX, mM, hh⟩ := pr_row l D Y (m := mm) (R := R) hI (xs (K + 1)) (xs (K + 2)) (xs (K + 3))
  refine V_aload_n X 2 rfl dL_law_1120 ?_
  refine L_arg X hX hbl hbA hi hL rfl rfl 1 (by decide) (by omega) dL_law_1121 dL_law_1122 dL_law_1123 dL_law_1124 dL_law_1125 ?_
  refine L_arg X hX hbl hbA hi hL rfl rfl 2 (by decide) (by omega) dL_law_1126 dL_law_1127 dL_law_1128 dL_law_1129 dL_law_1130 ?_
  refine L_arg X hX hbl hbA hi hL rfl rfl 3 (by decide) (by omega) dL_law_1131 dL_law_1132 dL_law_1133 dL_law_1134 dL_law_1135 ?_
  refine V_callW (st := []) (As := [.int (xs (K + 1)), .int (xs (K + 2)), .int (xs (K + 3))]) X (Mg_lft mX _) 3 gL_law_X10_row rfl (by decide +kernel) bX.1 (RB_R bX (n := 5) (by decide)) (ci := 9) rfl rfl 0 rfl rfl rfl (Nat.zero_le _) ⟨Nat.le_of_ble_eq_true rfl, Nat.le_of_ble_eq_true rfl⟩ dL_law_1136 (fun v w_ h_ => ?_)
  obtain ⟨w1, rfl, h1⟩ := h_
  refine V_aload_n X 1 rfl dL_law_1139 ?_
  refine L_arg X hX hbl hbA hi hL rfl rfl 1 (by decide) (by omega) dL_law_1140 dL_law_1141 dL_law_1142 dL_law_1143 dL_law_1144 ?_
  refine L_arg X hX hbl hbA hi hL rfl rfl 2 (by decide) (by omega) dL_law_1145 dL_law_1146 dL_law_1147 dL_law_1148 dL_law_1149 ?_
  refine L_arg X hX hbl hbA hi hL rfl rfl 3 (by decide) (by omega) dL_law_1150 dL_law_1151 dL_law_1152 dL_law_1153 dL_law_1154 ?_
  refine V_callW (st := v.toList ++ []) (As := [.int (xs (K + 1)), .int (xs (K + 2)), .int (xs (K + 3))]) X (Mg_rgt mM w1) 3 gL_law_X11_row rfl (by decide +kernel) bM.1 (RB_R bM (n := 5) (by decide)) (ci := 10) rfl rfl w1.length ((app_at w1 _).trans rfl) rfl rfl (cat2 v) ⟨Nat.le_of_ble_eq_true rfl, Nat.le_of_ble_eq_true rfl⟩ dL_law_1155 (fun v2 w_ h_ => ?_)
  obtain ⟨w2, rfl, h2⟩ := h_
  obtain ⟨⟨r, rfl, rfl⟩, hN⟩ := hh _ _ _ _ h1 h2
  refine V_to (pc' := 1158) (st' := [.int r, .int r]) ?_ rfl rfl rfl rfl
  exact V_icmp_eq X rfl rfl 1389 dL_law_1158 (by decide) (fun _ => kk _ _ hN) (fun q => absurd rfl q)
set_option maxHeartbeats 4000000 in
set_option maxRecDepth 100000 in
theorem lc_put (X : Vx p s m #[Value.ref b] meth c cL_law 4 RL wsL_law D Y (fun q => s.heap.size ≤ q)) (hX : va_X b L xs s s.heap) (hbl : b < s.heap.size) (hbA : ¬ (fun q : Nat => s.heap.size ≤ q) b) {iv : Int32} {K : Nat} (hi : iv.toInt = (K : Int)) (hK : K + 5 < L) (hL : L ≤ 3072) (hI : INV CC sg VV ff fj VM fM jM) (kk : ∀ w w', NXI Y CC mm R w w' → LJ p l e s m below meth c D b 1389 [(3, .int iv), (2, .ref mm), (1, .ref (CC 0)), (0, .ref b)] [] (w ++ w')) : LJ p l e s m below meth c D b 1163 [(3, .int iv), (2, .ref mm), (1, .ref (CC 0)), (0, .ref b)] [] (WX Y CC sg VV ff fj ++ WM Y mm R VM fM jM) := by
  obtain ⟨rX, rM, pX, pM, bX, bM, mX, mM, hh⟩ := pr_put l D Y (m := mm) (R := R) hI (xs (K + 1)) (xs (K + 2)) (((xs (K + 3)).toInt64 <<< ((32 : Int32).toInt64 &&& 63)) ||| ((xs (K + 4)).toInt64 &&& (4294967295 : Int64)))
  refine V_aload_n X 2 rfl dL_law_1163 ?_
  refine L_arg X hX hbl hbA hi hL rfl rfl 1 (by decide) (by omega) dL_law_1164 dL_law_1165 dL_law_1166 dL_law_1167 dL_law_1168 ?_
  refine L_arg X hX hbl hbA hi hL rfl rfl 2 (by decide) (by omega) dL_law_1169 dL_law_1170 dL_law_1171 dL_law_1172 dL_law_1173 ?_
  refine L_arg X hX hbl hbA hi hL rfl rfl 3 (by decide) (by omega) dL_law_1174 dL_law_1175 dL_law_1176 dL_law_1177 dL_law_1178 ?_
  refine V_i2l X rfl dL_law_1179 ?_
  refine V_bipush (v := (32 : Int32)) X (by decide) dL_law_1180 ?_
  refine V_lshl X rfl dL_law_1182 ?_
  refine L_arg X hX hbl hbA hi hL rfl rfl 4 (by decide) (by omega) dL_law_1183 dL_law_1184 dL_law_1185 dL_law_1186 dL_law_1187 ?_
  refine V_i2l X rfl dL_law_1188 ?_
  refine V_ldc2 (v := (4294967295 : Int64)) X (inr_1 _ (List.mem_of_getElem? (i := 6) rfl)) dL_law_1189 ?_
  refine V_land X dL_law_1192 (fun q1 hq1 => ?_)
  refine V_lor X dL_law_1193 (fun q2 hq2 => ?_)
  subst hq1
  subst hq2
  refine V_callW (st := []) (As := [.int (xs (K + 1)), .int (xs (K + 2)), .long (((xs (K + 3)).toInt64 <<< ((32 : Int32).toInt64 &&& 63)) ||| ((xs (K + 4)).toInt64 &&& (4294967295 : Int64)))]) X (Mg_lft mX _) 3 gL_law_X10_put rfl (by decide +kernel) bX.1 (RB_R bX (n := 7) (by decide)) (ci := 9) rfl rfl 0 rfl rfl rfl (Nat.zero_le _) ⟨Nat.le_of_ble_eq_true rfl, Nat.le_of_ble_eq_true rfl⟩ dL_law_1194 (fun v w_ h_ => ?_)
  obtain ⟨w1, rfl, h1⟩ := h_
  refine V_aload_n X 1 rfl dL_law_1197 ?_
  refine L_arg X hX hbl hbA hi hL rfl rfl 1 (by decide) (by omega) dL_law_1198 dL_law_1199 dL_law_1200 dL_law_1201 dL_law_1202 ?_
  refine L_arg X hX hbl hbA hi hL rfl rfl 2 (by decide) (by omega) dL_law_1203 dL_law_1204 dL_law_1205 dL_law_1206 dL_law_1207 ?_
  refine L_arg X hX hbl hbA hi hL rfl rfl 3 (by decide) (by omega) dL_law_1208 dL_law_1209 dL_law_1210 dL_law_1211 dL_law_1212 ?_
  refine V_i2l X rfl dL_law_1213 ?_
  refine V_bipush (v := (32 : Int32)) X (by decide) dL_law_1214 ?_
  refine V_lshl X rfl dL_law_1216 ?_
  refine L_arg X hX hbl hbA hi hL rfl rfl 4 (by decide) (by omega) dL_law_1217 dL_law_1218 dL_law_1219 dL_law_1220 dL_law_1221 ?_
  refine V_i2l X rfl dL_law_1222 ?_
  refine V_ldc2 (v := (4294967295 : Int64)) X (inr_1 _ (List.mem_of_getElem? (i := 6) rfl)) dL_law_1223 ?_
  refine V_land X dL_law_1226 (fun q1 hq1 => ?_)
  refine V_lor X dL_law_1227 (fun q2 hq2 => ?_)
  subst hq1
  subst hq2
  refine V_callW (st := v.toList ++ []) (As := [.int (xs (K + 1)), .int (xs (K + 2)), .long (((xs (K + 3)).toInt64 <<< ((32 : Int32).toInt64 &&& 63)) ||| ((xs (K + 4)).toInt64 &&& (4294967295 : Int64)))]) X (Mg_rgt mM w1) 3 gL_law_X11_put rfl (by decide +kernel) bM.1 (RB_R bM (n := 7) (by decide)) (ci := 10) rfl rfl w1.length ((app_at w1 _).trans rfl) rfl rfl (cat2 v) ⟨Nat.le_of_ble_eq_true rfl, Nat.le_of_ble_eq_true rfl⟩ dL_law_1228 (fun v2 w_ h_ => ?_)
  obtain ⟨w2, rfl, h2⟩ := h_
  obtain ⟨⟨r, rfl, rfl⟩, hN⟩ := hh _ _ _ _ h1 h2
  refine V_to (pc' := 1231) (st' := [.int r, .int r]) ?_ rfl rfl rfl rfl
  exact V_icmp_eq X rfl rfl 1389 dL_law_1231 (by decide) (fun _ => kk _ _ hN) (fun q => absurd rfl q)
set_option maxHeartbeats 4000000 in
set_option maxRecDepth 100000 in
theorem lc_element (X : Vx p s m #[Value.ref b] meth c cL_law 4 RL wsL_law D Y (fun q => s.heap.size ≤ q)) (hX : va_X b L xs s s.heap) (hbl : b < s.heap.size) (hbA : ¬ (fun q : Nat => s.heap.size ≤ q) b) {iv : Int32} {K : Nat} (hi : iv.toInt = (K : Int)) (hK : K + 5 < L) (hL : L ≤ 3072) (hI : INV CC sg VV ff fj VM fM jM) (kk : ∀ w w', NXI Y CC mm R w w' → LJ p l e s m below meth c D b 1389 [(3, .int iv), (2, .ref mm), (1, .ref (CC 0)), (0, .ref b)] [] (w ++ w')) : LJ p l e s m below meth c D b 1236 [(3, .int iv), (2, .ref mm), (1, .ref (CC 0)), (0, .ref b)] [] (WX Y CC sg VV ff fj ++ WM Y mm R VM fM jM) := by
  obtain ⟨rX, rM, pX, pM, bX, bM, mX, mM, hh⟩ := pr_element l D Y (m := mm) (R := R) hI (xs (K + 1)) (xs (K + 2))
  refine V_aload_n X 2 rfl dL_law_1236 ?_
  refine L_arg X hX hbl hbA hi hL rfl rfl 1 (by decide) (by omega) dL_law_1237 dL_law_1238 dL_law_1239 dL_law_1240 dL_law_1241 ?_
  refine L_arg X hX hbl hbA hi hL rfl rfl 2 (by decide) (by omega) dL_law_1242 dL_law_1243 dL_law_1244 dL_law_1245 dL_law_1246 ?_
  refine V_callW (st := []) (As := [.int (xs (K + 1)), .int (xs (K + 2))]) X (Mg_lft mX _) 2 gL_law_X10_element rfl (by decide +kernel) bX.1 (RB_R bX (n := 4) (by decide)) (ci := 9) rfl rfl 0 rfl rfl rfl (Nat.zero_le _) ⟨Nat.le_of_ble_eq_true rfl, Nat.le_of_ble_eq_true rfl⟩ dL_law_1247 (fun v w_ h_ => ?_)
  obtain ⟨w1, rfl, h1⟩ := h_
  refine V_aload_n X 1 rfl dL_law_1250 ?_
  refine L_arg X hX hbl hbA hi hL rfl rfl 1 (by decide) (by omega) dL_law_1251 dL_law_1252 dL_law_1253 dL_law_1254 dL_law_1255 ?_
  refine L_arg X hX hbl hbA hi hL rfl rfl 2 (by decide) (by omega) dL_law_1256 dL_law_1257 dL_law_1258 dL_law_1259 dL_law_1260 ?_
  refine V_callW (st := v.toList ++ []) (As := [.int (xs (K + 1)), .int (xs (K + 2))]) X (Mg_rgt mM w1) 2 gL_law_X11_element rfl (by decide +kernel) bM.1 (RB_R bM (n := 3) (by decide)) (ci := 10) rfl rfl w1.length ((app_at w1 _).trans rfl) rfl rfl (cat2 v) ⟨Nat.le_of_ble_eq_true rfl, Nat.le_of_ble_eq_true rfl⟩ dL_law_1261 (fun v2 w_ h_ => ?_)
  obtain ⟨w2, rfl, h2⟩ := h_
  obtain ⟨⟨r, rfl, rfl⟩, hN⟩ := hh _ _ _ _ h1 h2
  refine V_to (pc' := 1264) (st' := [.long r, .long r]) ?_ rfl rfl rfl rfl
  refine V_lcmp (v := (0 : Int32)) X (lg_self r) dL_law_1264 ?_
  exact V_if_eq X (a := 0) (by decide) 1389 dL_law_1265 (by decide) (fun _ => kk _ _ hN) (fun q => absurd rfl q)
set_option maxHeartbeats 4000000 in
set_option maxRecDepth 100000 in
theorem lc_shift (X : Vx p s m #[Value.ref b] meth c cL_law 4 RL wsL_law D Y (fun q => s.heap.size ≤ q)) (hX : va_X b L xs s s.heap) (hbl : b < s.heap.size) (hbA : ¬ (fun q : Nat => s.heap.size ≤ q) b) {iv : Int32} {K : Nat} (hi : iv.toInt = (K : Int)) (hK : K + 5 < L) (hL : L ≤ 3072) (hI : INV CC sg VV ff fj VM fM jM) (kk : ∀ w w', NXI Y CC mm R w w' → LJ p l e s m below meth c D b 1389 [(3, .int iv), (2, .ref mm), (1, .ref (CC 0)), (0, .ref b)] [] (w ++ w')) : LJ p l e s m below meth c D b 1270 [(3, .int iv), (2, .ref mm), (1, .ref (CC 0)), (0, .ref b)] [] (WX Y CC sg VV ff fj ++ WM Y mm R VM fM jM) := by
  obtain ⟨rX, rM, pX, pM, bX, bM, mX, mM, hh⟩ := pr_shift l D Y (m := mm) (R := R) hI (xs (K + 1)) (xs (K + 2)) (xs (K + 3)) (xs (K + 4)) (xs (K + 5))
  refine V_aload_n X 2 rfl dL_law_1270 ?_
  refine L_arg X hX hbl hbA hi hL rfl rfl 1 (by decide) (by omega) dL_law_1271 dL_law_1272 dL_law_1273 dL_law_1274 dL_law_1275 ?_
  refine L_arg X hX hbl hbA hi hL rfl rfl 2 (by decide) (by omega) dL_law_1276 dL_law_1277 dL_law_1278 dL_law_1279 dL_law_1280 ?_
  refine L_arg X hX hbl hbA hi hL rfl rfl 3 (by decide) (by omega) dL_law_1281 dL_law_1282 dL_law_1283 dL_law_1284 dL_law_1285 ?_
  refine L_arg X hX hbl hbA hi hL rfl rfl 4 (by decide) (by omega) dL_law_1286 dL_law_1287 dL_law_1288 dL_law_1289 dL_law_1290 ?_
  refine L_arg X hX hbl hbA hi hL rfl rfl 5 (by decide) (by omega) dL_law_1291 dL_law_1292 dL_law_1293 dL_law_1294 dL_law_1295 ?_
  refine V_callW (st := []) (As := [.int (xs (K + 1)), .int (xs (K + 2)), .int (xs (K + 3)), .int (xs (K + 4)), .int (xs (K + 5))]) X (Mg_lft mX _) 5 gL_law_X10_shift rfl (by decide +kernel) bX.1 (RB_R bX (n := 8) (by decide)) (ci := 9) rfl rfl 0 rfl rfl rfl (Nat.zero_le _) ⟨Nat.le_of_ble_eq_true rfl, Nat.le_of_ble_eq_true rfl⟩ dL_law_1296 (fun v w_ h_ => ?_)
  obtain ⟨w1, rfl, h1⟩ := h_
  refine V_aload_n X 1 rfl dL_law_1299 ?_
  refine L_arg X hX hbl hbA hi hL rfl rfl 1 (by decide) (by omega) dL_law_1300 dL_law_1301 dL_law_1302 dL_law_1303 dL_law_1304 ?_
  refine L_arg X hX hbl hbA hi hL rfl rfl 2 (by decide) (by omega) dL_law_1305 dL_law_1306 dL_law_1307 dL_law_1308 dL_law_1309 ?_
  refine L_arg X hX hbl hbA hi hL rfl rfl 3 (by decide) (by omega) dL_law_1310 dL_law_1311 dL_law_1312 dL_law_1313 dL_law_1314 ?_
  refine L_arg X hX hbl hbA hi hL rfl rfl 4 (by decide) (by omega) dL_law_1315 dL_law_1316 dL_law_1317 dL_law_1318 dL_law_1319 ?_
  refine L_arg X hX hbl hbA hi hL rfl rfl 5 (by decide) (by omega) dL_law_1320 dL_law_1321 dL_law_1322 dL_law_1323 dL_law_1324 ?_
  refine V_callW (st := v.toList ++ []) (As := [.int (xs (K + 1)), .int (xs (K + 2)), .int (xs (K + 3)), .int (xs (K + 4)), .int (xs (K + 5))]) X (Mg_rgt mM w1) 5 gL_law_X11_shift rfl (by decide +kernel) bM.1 (RB_R bM (n := 7) (by decide)) (ci := 10) rfl rfl w1.length ((app_at w1 _).trans rfl) rfl rfl (cat2 v) ⟨Nat.le_of_ble_eq_true rfl, Nat.le_of_ble_eq_true rfl⟩ dL_law_1325 (fun v2 w_ h_ => ?_)
  obtain ⟨w2, rfl, h2⟩ := h_
  obtain ⟨⟨r, rfl, rfl⟩, hN⟩ := hh _ _ _ _ h1 h2
  refine V_to (pc' := 1328) (st' := [.int r, .int r]) ?_ rfl rfl rfl rfl
  exact V_icmp_eq X rfl rfl 1389 dL_law_1328 (by decide) (fun _ => kk _ _ hN) (fun q => absurd rfl q)
set_option maxHeartbeats 4000000 in
set_option maxRecDepth 100000 in
theorem lc_taken (X : Vx p s m #[Value.ref b] meth c cL_law 4 RL wsL_law D Y (fun q => s.heap.size ≤ q)) (hX : va_X b L xs s s.heap) (hbl : b < s.heap.size) (hbA : ¬ (fun q : Nat => s.heap.size ≤ q) b) {iv : Int32} {K : Nat} (hi : iv.toInt = (K : Int)) (hK : K + 5 < L) (hL : L ≤ 3072) (hI : INV CC sg VV ff fj VM fM jM) (kk : ∀ w w', NXI Y CC mm R w w' → LJ p l e s m below meth c D b 1389 [(3, .int iv), (2, .ref mm), (1, .ref (CC 0)), (0, .ref b)] [] (w ++ w')) : LJ p l e s m below meth c D b 1333 [(3, .int iv), (2, .ref mm), (1, .ref (CC 0)), (0, .ref b)] [] (WX Y CC sg VV ff fj ++ WM Y mm R VM fM jM) := by
  obtain ⟨rX, rM, pX, pM, bX, bM, mX, mM, hh⟩ := pr_taken l D Y (m := mm) (R := R) hI (xs (K + 1)) (xs (K + 2))
  refine V_aload_n X 2 rfl dL_law_1333 ?_
  refine L_arg X hX hbl hbA hi hL rfl rfl 1 (by decide) (by omega) dL_law_1334 dL_law_1335 dL_law_1336 dL_law_1337 dL_law_1338 ?_
  refine L_arg X hX hbl hbA hi hL rfl rfl 2 (by decide) (by omega) dL_law_1339 dL_law_1340 dL_law_1341 dL_law_1342 dL_law_1343 ?_
  refine V_callW (st := []) (As := [.int (xs (K + 1)), .int (xs (K + 2))]) X (Mg_lft mX _) 2 gL_law_X10_taken rfl (by decide +kernel) bX.1 (RB_R bX (n := 5) (by decide)) (ci := 9) rfl rfl 0 rfl rfl rfl (Nat.zero_le _) ⟨Nat.le_of_ble_eq_true rfl, Nat.le_of_ble_eq_true rfl⟩ dL_law_1344 (fun v w_ h_ => ?_)
  obtain ⟨w1, rfl, h1⟩ := h_
  refine V_aload_n X 1 rfl dL_law_1347 ?_
  refine L_arg X hX hbl hbA hi hL rfl rfl 1 (by decide) (by omega) dL_law_1348 dL_law_1349 dL_law_1350 dL_law_1351 dL_law_1352 ?_
  refine L_arg X hX hbl hbA hi hL rfl rfl 2 (by decide) (by omega) dL_law_1353 dL_law_1354 dL_law_1355 dL_law_1356 dL_law_1357 ?_
  refine V_callW (st := v.toList ++ []) (As := [.int (xs (K + 1)), .int (xs (K + 2))]) X (Mg_rgt mM w1) 2 gL_law_X11_taken rfl (by decide +kernel) bM.1 (RB_R bM (n := 3) (by decide)) (ci := 10) rfl rfl w1.length ((app_at w1 _).trans rfl) rfl rfl (cat2 v) ⟨Nat.le_of_ble_eq_true rfl, Nat.le_of_ble_eq_true rfl⟩ dL_law_1358 (fun v2 w_ h_ => ?_)
  obtain ⟨w2, rfl, h2⟩ := h_
  obtain ⟨⟨r, rfl, rfl⟩, hN⟩ := hh _ _ _ _ h1 h2
  refine V_to (pc' := 1361) (st' := [.int r, .int r]) ?_ rfl rfl rfl rfl
  exact V_icmp_eq X rfl rfl 1389 dL_law_1361 (by decide) (fun _ => kk _ _ hN) (fun q => absurd rfl q)
set_option maxHeartbeats 4000000 in
set_option maxRecDepth 100000 in
theorem lc_count (X : Vx p s m #[Value.ref b] meth c cL_law 4 RL wsL_law D Y (fun q => s.heap.size ≤ q)) (hX : va_X b L xs s s.heap) (hbl : b < s.heap.size) (hbA : ¬ (fun q : Nat => s.heap.size ≤ q) b) {iv : Int32} {K : Nat} (hi : iv.toInt = (K : Int)) (hK : K + 5 < L) (hL : L ≤ 3072) (hI : INV CC sg VV ff fj VM fM jM) (kk : ∀ w w', NXI Y CC mm R w w' → LJ p l e s m below meth c D b 1389 [(3, .int iv), (2, .ref mm), (1, .ref (CC 0)), (0, .ref b)] [] (w ++ w')) : LJ p l e s m below meth c D b 1366 [(3, .int iv), (2, .ref mm), (1, .ref (CC 0)), (0, .ref b)] [] (WX Y CC sg VV ff fj ++ WM Y mm R VM fM jM) := by
  obtain ⟨rX, rM, pX, pM, bX, bM, mX, mM, hh⟩ := pr_count l D Y (m := mm) (R := R) hI (xs (K + 1))
  refine V_aload_n X 2 rfl dL_law_1366 ?_
  refine L_arg X hX hbl hbA hi hL rfl rfl 1 (by decide) (by omega) dL_law_1367 dL_law_1368 dL_law_1369 dL_law_1370 dL_law_1371 ?_
  refine V_callW (st := []) (As := [.int (xs (K + 1))]) X (Mg_lft mX _) 1 gL_law_X10_count rfl (by decide +kernel) bX.1 (RB_R bX (n := 2) (by decide)) (ci := 9) rfl rfl 0 rfl rfl rfl (Nat.zero_le _) ⟨Nat.le_of_ble_eq_true rfl, Nat.le_of_ble_eq_true rfl⟩ dL_law_1372 (fun v w_ h_ => ?_)
  obtain ⟨w1, rfl, h1⟩ := h_
  refine V_aload_n X 1 rfl dL_law_1375 ?_
  refine L_arg X hX hbl hbA hi hL rfl rfl 1 (by decide) (by omega) dL_law_1376 dL_law_1377 dL_law_1378 dL_law_1379 dL_law_1380 ?_
  refine V_callW (st := v.toList ++ []) (As := [.int (xs (K + 1))]) X (Mg_rgt mM w1) 1 gL_law_X11_count rfl (by decide +kernel) bM.1 (RB_R bM (n := 2) (by decide)) (ci := 10) rfl rfl w1.length ((app_at w1 _).trans rfl) rfl rfl (cat2 v) ⟨Nat.le_of_ble_eq_true rfl, Nat.le_of_ble_eq_true rfl⟩ dL_law_1381 (fun v2 w_ h_ => ?_)
  obtain ⟨w2, rfl, h2⟩ := h_
  obtain ⟨⟨r, rfl, rfl⟩, hN⟩ := hh _ _ _ _ h1 h2
  refine V_to (pc' := 1384) (st' := [.int r, .int r]) ?_ rfl rfl rfl rfl
  exact V_icmp_eq X rfl rfl 1389 dL_law_1384 (by decide) (fun _ => kk _ _ hN) (fun q => absurd rfl q)
end LW
