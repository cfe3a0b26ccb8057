/-! The cases of the law (written by gen13.py). -/
set_option maxHeartbeats 4000000 in
set_option maxRecDepth 100000 in
theorem lc_napkin {p : Program} {l : Launch} {e : Env} {s : State} {m : MethodId} {args : Array Value} {below : List Frame} {meth : Method} {c : Code} {D : va_G} {cI cC cJ cDD : ClassId} {T : Nat → Nat} {b L : Nat} {xs : Nat → Int32} {E F : Nat → Nat} {o od : Nat} {Q : State → Prop} {i : Int} {cells slots : Nat} (K : LC p l s m args c D cI cC cJ cDD T b L xs) (h0 : 0 ≤ i) (h4 : i + 4 ≤ L) (hcr : cells + 2 ≤ room_1.cells ∧ slots + 12 ≤ room_1.slots) (kont : LK p l e s m args below meth c D cI cC cJ cDD E F o od b i Q cells slots) {C G : Mem} {f : Nat → Int64} {fd : Nat → UInt64} {H : Heap} {locs : List Loc} {ls : Array Slot} (hR : RelR C G) (hP : va_P D vwCl (VL E F cI cC cJ cDD o od C G f fd) H) (hD : va_D (lA s) (VL E F cI cC cJ cDD o od C G f fd)) (hS : va_S (lA s) s.heap H locs) (hl : lv_has ls 9 [(0, .ref b), (1, .ref (E 0)), (2, .ref (F 0)), (3, .ref o), (4, .ref od), (5, .int (iI i))]) : W p l e room_1 s m args below meth c H locs cells slots Q (F0 m 220 ls []) := by
  have hst := K.2.2.2.2.2.2.2.2.2.2.1
  obtain ⟨hx, hb, hml, hown, hts, -, -, hK, -, -, -, hL⟩ := id K
  have hs := s_napkin hR (sc xs (i + 1))
  refine lv_aload_n hx hb dL_law_220 rfl (lv_at hl 1 rfl) ?_
  refine lv_aload_n hx hb dL_law_221 rfl (lv_at hl 0 rfl) ?_
  refine lv_iload hx hb dL_law_222 (lv_at hl 5 rfl) ?_
  refine lv_iconst (v := iI 1) hx hb dL_law_224 rfl ?_
  refine z_iadd hx hb dL_law_225 ?_
  refine z_sld K hS (by omega) (by omega) dL_law_226 ?_
  refine lv_aload_n hx hb dL_law_227 rfl (lv_at hl 3 rfl) ?_
  refine lw_hl (n := 1) (As := [.ref (E 0), .int (iI (sc xs (i + 1))), .ref o]) (rest := []) K (hX_napkin l hst D E cI cC cJ cDD T o C (sc xs (i + 1)) (sc_r xs _) (rl_CI hR) (rl_SI hR) (rl_HN hR) (fX8_napkin C (sc xs (i + 1))).1 (fX8_napkin C (sc xs (i + 1))).2.1 (fX8_napkin C (sc xs (i + 1))).2.2 rfl ((fX9_napkin G (sc xs (i + 1))).2 26 0) hs.2.1) (vx_cwSW 3 hts gL_law_L_napkin rfl rfl rfl (by decide +kernel) ⟨Nat.le_of_ble_eq_true rfl, Nat.le_of_ble_eq_true rfl⟩) hP hD hS rfl hl.1 rfl (Nat.le_of_ble_eq_true rfl) dL_law_228 ⟨by omega, by omega⟩ (fun f' H locs hf' hP hD hS => ?_)
  refine lv_istore (lv' := [(6, .int (iI ((fX9_napkin G (sc xs (i + 1))).2 26 0))), (0, .ref b), (1, .ref (E 0)), (2, .ref (F 0)), (3, .ref o), (4, .ref od), (5, .int (iI i))]) hx hb dL_law_231 hl (by decide) rfl (fun ls hl => ?_)
  refine lv_aload_n hx hb dL_law_233 rfl (lv_at hl 3 rfl) ?_
  refine lv_aload_n hx hb dL_law_234 rfl (lv_at hl 1 rfl) ?_
  refine lv_iload hx hb dL_law_235 (lv_at hl 6 rfl) ?_
  refine lv_iconst (v := iI 1) hx hb dL_law_237 rfl ?_
  refine z_iadd hx hb dL_law_238 ?_
  refine z_sld K hS (by omega) (by omega) dL_law_239 ?_
  refine lw_gi (As := [.int (iI (sc xs (i + 1)))]) (rest := []) K (kX9_napkin l D F cI cC ztr (fun _ => ztr_o) ztr_b G (sc xs (i + 1)) (sc_r xs _) (rl_GI hR) (rl_CH hR) (fX9_napkin G (sc xs (i + 1))).1 (fX9_napkin G (sc xs (i + 1))).2 rfl) (cwV 1 hts gL_law_X9_napkin rfl rfl rfl (by decide +kernel) ⟨Nat.le_of_ble_eq_true rfl, Nat.le_of_ble_eq_true rfl⟩) hP hD hS rfl hl.1 rfl (Nat.le_of_ble_eq_true rfl) dL_law_240 ⟨by omega, by omega⟩ (fun H locs hP hD hS => ?_)
  refine lv_istore (lv' := [(7, .int (iI (fX9_napkin G (sc xs (i + 1))).1)), (6, .int (iI ((fX9_napkin G (sc xs (i + 1))).2 26 0))), (0, .ref b), (1, .ref (E 0)), (2, .ref (F 0)), (3, .ref o), (4, .ref od), (5, .int (iI i))]) hx hb dL_law_243 hl (by decide) rfl (fun ls hl => ?_)
  exact lw_tail (k := (fX8_napkin C (sc xs (i + 1))).1) (c0 := cells) (s0 := slots) K hs.1 rfl (AnsL_r hs.2.1 (by decide)).1 (fun hz => by rw [hf' ((AnsL_r hs.2.1 (by decide)).2 hz)]; exact congrArg (fun z => (iI z).toInt64) (hs.2.2 ((AnsL_r hs.2.1 (by decide)).2 hz))) hP hD hS hl (by omega) (by omega) ⟨by omega, by omega⟩ kont (by decide) dL_law_245 dL_law_246 dL_law_249 dL_law_251 dL_law_256 dL_law_258 dL_law_261 dL_law_262 dL_law_263 dL_law_264 dL_law_266 dL_law_267 dL_law_268 dL_law_273
set_option maxHeartbeats 4000000 in
set_option maxRecDepth 100000 in
theorem lc_fold {p : Program} {l : Launch} {e : Env} {s : State} {m : MethodId} {args : Array Value} {below : List Frame} {meth : Method} {c : Code} {D : va_G} {cI cC cJ cDD : ClassId} {T : Nat → Nat} {b L : Nat} {xs : Nat → Int32} {E F : Nat → Nat} {o od : Nat} {Q : State → Prop} {i : Int} {cells slots : Nat} (K : LC p l s m args c D cI cC cJ cDD T b L xs) (h0 : 0 ≤ i) (h4 : i + 4 ≤ L) (hcr : cells + 2 ≤ room_1.cells ∧ slots + 12 ≤ room_1.slots) (kont : LK p l e s m args below meth c D cI cC cJ cDD E F o od b i Q cells slots) {C G : Mem} {f : Nat → Int64} {fd : Nat → UInt64} {H : Heap} {locs : List Loc} {ls : Array Slot} (hR : RelR C G) (hP : va_P D vwCl (VL E F cI cC cJ cDD o od C G f fd) H) (hD : va_D (lA s) (VL E F cI cC cJ cDD o od C G f fd)) (hS : va_S (lA s) s.heap H locs) (hl : lv_has ls 9 [(0, .ref b), (1, .ref (E 0)), (2, .ref (F 0)), (3, .ref o), (4, .ref od), (5, .int (iI i))]) : W p l e room_1 s m args below meth c H locs cells slots Q (F0 m 276 ls []) := by
  have hst := K.2.2.2.2.2.2.2.2.2.2.1
  obtain ⟨hx, hb, hml, hown, hts, -, -, hK, -, -, -, hL⟩ := id K
  have hs := s_fold hR (sc xs (i + 1)) (sc xs (i + 2))
  refine lv_aload_n hx hb dL_law_276 rfl (lv_at hl 1 rfl) ?_
  refine lv_aload_n hx hb dL_law_277 rfl (lv_at hl 0 rfl) ?_
  refine lv_iload hx hb dL_law_278 (lv_at hl 5 rfl) ?_
  refine lv_iconst (v := iI 1) hx hb dL_law_280 rfl ?_
  refine z_iadd hx hb dL_law_281 ?_
  refine z_sld K hS (by omega) (by omega) dL_law_282 ?_
  refine lv_aload_n hx hb dL_law_283 rfl (lv_at hl 0 rfl) ?_
  refine lv_iload hx hb dL_law_284 (lv_at hl 5 rfl) ?_
  refine lv_iconst (v := iI 2) hx hb dL_law_286 rfl ?_
  refine z_iadd hx hb dL_law_287 ?_
  refine z_sld K hS (by omega) (by omega) dL_law_288 ?_
  refine lv_aload_n hx hb dL_law_289 rfl (lv_at hl 3 rfl) ?_
  refine lw_hl (n := 1) (As := [.ref (E 0), .int (iI (sc xs (i + 1))), .int (iI (sc xs (i + 2))), .ref o]) (rest := []) K (hX_fold l hst D E cI cC cJ cDD T o C (sc xs (i + 1)) (sc xs (i + 2)) (sc_r xs _) (sc_r xs _) (rl_CI hR) (rl_SI hR) (rl_HN hR) (fX8_fold C (sc xs (i + 1)) (sc xs (i + 2))).1 (fX8_fold C (sc xs (i + 1)) (sc xs (i + 2))).2.1 (fX8_fold C (sc xs (i + 1)) (sc xs (i + 2))).2.2 rfl ((fX9_fold G (sc xs (i + 1)) (sc xs (i + 2))).2 26 0) hs.2.1) (vx_cwSW 4 hts gL_law_L_fold rfl rfl rfl (by decide +kernel) ⟨Nat.le_of_ble_eq_true rfl, Nat.le_of_ble_eq_true rfl⟩) hP hD hS rfl hl.1 rfl (Nat.le_of_ble_eq_true rfl) dL_law_290 ⟨by omega, by omega⟩ (fun f' H locs hf' hP hD hS => ?_)
  refine lv_istore (lv' := [(6, .int (iI ((fX9_fold G (sc xs (i + 1)) (sc xs (i + 2))).2 26 0))), (0, .ref b), (1, .ref (E 0)), (2, .ref (F 0)), (3, .ref o), (4, .ref od), (5, .int (iI i))]) hx hb dL_law_293 hl (by decide) rfl (fun ls hl => ?_)
  refine lv_aload_n hx hb dL_law_295 rfl (lv_at hl 3 rfl) ?_
  refine lv_aload_n hx hb dL_law_296 rfl (lv_at hl 1 rfl) ?_
  refine lv_iload hx hb dL_law_297 (lv_at hl 6 rfl) ?_
  refine lv_iconst (v := iI 1) hx hb dL_law_299 rfl ?_
  refine z_iadd hx hb dL_law_300 ?_
  refine z_sld K hS (by omega) (by omega) dL_law_301 ?_
  refine lv_aload_n hx hb dL_law_302 rfl (lv_at hl 1 rfl) ?_
  refine lv_iload hx hb dL_law_303 (lv_at hl 6 rfl) ?_
  refine lv_iconst (v := iI 2) hx hb dL_law_305 rfl ?_
  refine z_iadd hx hb dL_law_306 ?_
  refine z_sld K hS (by omega) (by omega) dL_law_307 ?_
  refine lw_gi (As := [.int (iI (sc xs (i + 1))), .int (iI (sc xs (i + 2)))]) (rest := []) K (kX9_fold l D F cI cC ztr (fun _ => ztr_o) ztr_b G (sc xs (i + 1)) (sc xs (i + 2)) (sc_r xs _) (sc_r xs _) (rl_GI hR) (rl_CH hR) (fX9_fold G (sc xs (i + 1)) (sc xs (i + 2))).1 (fX9_fold G (sc xs (i + 1)) (sc xs (i + 2))).2 rfl) (cwV 2 hts gL_law_X9_fold rfl rfl rfl (by decide +kernel) ⟨Nat.le_of_ble_eq_true rfl, Nat.le_of_ble_eq_true rfl⟩) hP hD hS rfl hl.1 rfl (Nat.le_of_ble_eq_true rfl) dL_law_308 ⟨by omega, by omega⟩ (fun H locs hP hD hS => ?_)
  refine lv_istore (lv' := [(7, .int (iI (fX9_fold G (sc xs (i + 1)) (sc xs (i + 2))).1)), (6, .int (iI ((fX9_fold G (sc xs (i + 1)) (sc xs (i + 2))).2 26 0))), (0, .ref b), (1, .ref (E 0)), (2, .ref (F 0)), (3, .ref o), (4, .ref od), (5, .int (iI i))]) hx hb dL_law_311 hl (by decide) rfl (fun ls hl => ?_)
  exact lw_tail (k := (fX8_fold C (sc xs (i + 1)) (sc xs (i + 2))).1) (c0 := cells) (s0 := slots) K hs.1 rfl (AnsL_r hs.2.1 (by decide)).1 (fun hz => by rw [hf' ((AnsL_r hs.2.1 (by decide)).2 hz)]; exact congrArg (fun z => (iI z).toInt64) (hs.2.2 ((AnsL_r hs.2.1 (by decide)).2 hz))) hP hD hS hl (by omega) (by omega) ⟨by omega, by omega⟩ kont (by decide) dL_law_313 dL_law_314 dL_law_317 dL_law_319 dL_law_324 dL_law_326 dL_law_329 dL_law_330 dL_law_331 dL_law_332 dL_law_334 dL_law_335 dL_law_336 dL_law_341
set_option maxHeartbeats 4000000 in
set_option maxRecDepth 100000 in
theorem lc_unfold {p : Program} {l : Launch} {e : Env} {s : State} {m : MethodId} {args : Array Value} {below : List Frame} {meth : Method} {c : Code} {D : va_G} {cI cC cJ cDD : ClassId} {T : Nat → Nat} {b L : Nat} {xs : Nat → Int32} {E F : Nat → Nat} {o od : Nat} {Q : State → Prop} {i : Int} {cells slots : Nat} (K : LC p l s m args c D cI cC cJ cDD T b L xs) (h0 : 0 ≤ i) (h4 : i + 4 ≤ L) (hcr : cells + 2 ≤ room_1.cells ∧ slots + 12 ≤ room_1.slots) (kont : LK p l e s m args below meth c D cI cC cJ cDD E F o od b i Q cells slots) {C G : Mem} {f : Nat → Int64} {fd : Nat → UInt64} {H : Heap} {locs : List Loc} {ls : Array Slot} (hR : RelR C G) (hP : va_P D vwCl (VL E F cI cC cJ cDD o od C G f fd) H) (hD : va_D (lA s) (VL E F cI cC cJ cDD o od C G f fd)) (hS : va_S (lA s) s.heap H locs) (hl : lv_has ls 9 [(0, .ref b), (1, .ref (E 0)), (2, .ref (F 0)), (3, .ref o), (4, .ref od), (5, .int (iI i))]) : W p l e room_1 s m args below meth c H locs cells slots Q (F0 m 344 ls []) := by
  have hst := K.2.2.2.2.2.2.2.2.2.2.1
  obtain ⟨hx, hb, hml, hown, hts, -, -, hK, -, -, -, hL⟩ := id K
  have hs := s_unfold hR (sc xs (i + 1))
  refine lv_aload_n hx hb dL_law_344 rfl (lv_at hl 1 rfl) ?_
  refine lv_aload_n hx hb dL_law_345 rfl (lv_at hl 0 rfl) ?_
  refine lv_iload hx hb dL_law_346 (lv_at hl 5 rfl) ?_
  refine lv_iconst (v := iI 1) hx hb dL_law_348 rfl ?_
  refine z_iadd hx hb dL_law_349 ?_
  refine z_sld K hS (by omega) (by omega) dL_law_350 ?_
  refine lv_aload_n hx hb dL_law_351 rfl (lv_at hl 3 rfl) ?_
  refine lw_hl (n := 1) (As := [.ref (E 0), .int (iI (sc xs (i + 1))), .ref o]) (rest := []) K (hX_unfold l hst D E cI cC cJ cDD T o C (sc xs (i + 1)) (sc_r xs _) (rl_CI hR) (rl_SI hR) (rl_HN hR) (fX8_unfold C (sc xs (i + 1))).1 (fX8_unfold C (sc xs (i + 1))).2.1 (fX8_unfold C (sc xs (i + 1))).2.2 rfl ((fX9_unfold G (sc xs (i + 1))).2 26 0) hs.2.1) (vx_cwSW 3 hts gL_law_L_unfold rfl rfl rfl (by decide +kernel) ⟨Nat.le_of_ble_eq_true rfl, Nat.le_of_ble_eq_true rfl⟩) hP hD hS rfl hl.1 rfl (Nat.le_of_ble_eq_true rfl) dL_law_352 ⟨by omega, by omega⟩ (fun f' H locs hf' hP hD hS => ?_)
  refine lv_istore (lv' := [(6, .int (iI ((fX9_unfold G (sc xs (i + 1))).2 26 0))), (0, .ref b), (1, .ref (E 0)), (2, .ref (F 0)), (3, .ref o), (4, .ref od), (5, .int (iI i))]) hx hb dL_law_355 hl (by decide) rfl (fun ls hl => ?_)
  refine lv_aload_n hx hb dL_law_357 rfl (lv_at hl 3 rfl) ?_
  refine lv_aload_n hx hb dL_law_358 rfl (lv_at hl 1 rfl) ?_
  refine lv_iload hx hb dL_law_359 (lv_at hl 6 rfl) ?_
  refine lv_iconst (v := iI 1) hx hb dL_law_361 rfl ?_
  refine z_iadd hx hb dL_law_362 ?_
  refine z_sld K hS (by omega) (by omega) dL_law_363 ?_
  refine lw_gi (As := [.int (iI (sc xs (i + 1)))]) (rest := []) K (kX9_unfold l D F cI cC ztr (fun _ => ztr_o) ztr_b G (sc xs (i + 1)) (sc_r xs _) (rl_GI hR) (rl_CH hR) (fX9_unfold G (sc xs (i + 1))).1 (fX9_unfold G (sc xs (i + 1))).2 rfl) (cwV 1 hts gL_law_X9_unfold rfl rfl rfl (by decide +kernel) ⟨Nat.le_of_ble_eq_true rfl, Nat.le_of_ble_eq_true rfl⟩) hP hD hS rfl hl.1 rfl (Nat.le_of_ble_eq_true rfl) dL_law_364 ⟨by omega, by omega⟩ (fun H locs hP hD hS => ?_)
  refine lv_istore (lv' := [(7, .int (iI (fX9_unfold G (sc xs (i + 1))).1)), (6, .int (iI ((fX9_unfold G (sc xs (i + 1))).2 26 0))), (0, .ref b), (1, .ref (E 0)), (2, .ref (F 0)), (3, .ref o), (4, .ref od), (5, .int (iI i))]) hx hb dL_law_367 hl (by decide) rfl (fun ls hl => ?_)
  exact lw_tail (k := (fX8_unfold C (sc xs (i + 1))).1) (c0 := cells) (s0 := slots) K hs.1 rfl (AnsL_r hs.2.1 (by decide)).1 (fun hz => by rw [hf' ((AnsL_r hs.2.1 (by decide)).2 hz)]; exact congrArg (fun z => (iI z).toInt64) (hs.2.2 ((AnsL_r hs.2.1 (by decide)).2 hz))) hP hD hS hl (by omega) (by omega) ⟨by omega, by omega⟩ kont (by decide) dL_law_369 dL_law_370 dL_law_373 dL_law_375 dL_law_380 dL_law_382 dL_law_385 dL_law_386 dL_law_387 dL_law_388 dL_law_390 dL_law_391 dL_law_392 dL_law_397
set_option maxHeartbeats 4000000 in
set_option maxRecDepth 100000 in
theorem lc_lay {p : Program} {l : Launch} {e : Env} {s : State} {m : MethodId} {args : Array Value} {below : List Frame} {meth : Method} {c : Code} {D : va_G} {cI cC cJ cDD : ClassId} {T : Nat → Nat} {b L : Nat} {xs : Nat → Int32} {E F : Nat → Nat} {o od : Nat} {Q : State → Prop} {i : Int} {cells slots : Nat} (K : LC p l s m args c D cI cC cJ cDD T b L xs) (h0 : 0 ≤ i) (h4 : i + 4 ≤ L) (hcr : cells + 2 ≤ room_1.cells ∧ slots + 12 ≤ room_1.slots) (kont : LK p l e s m args below meth c D cI cC cJ cDD E F o od b i Q cells slots) {C G : Mem} {f : Nat → Int64} {fd : Nat → UInt64} {H : Heap} {locs : List Loc} {ls : Array Slot} (hR : RelR C G) (hP : va_P D vwCl (VL E F cI cC cJ cDD o od C G f fd) H) (hD : va_D (lA s) (VL E F cI cC cJ cDD o od C G f fd)) (hS : va_S (lA s) s.heap H locs) (hl : lv_has ls 9 [(0, .ref b), (1, .ref (E 0)), (2, .ref (F 0)), (3, .ref o), (4, .ref od), (5, .int (iI i))]) : W p l e room_1 s m args below meth c H locs cells slots Q (F0 m 400 ls []) := by
  have hst := K.2.2.2.2.2.2.2.2.2.2.1
  obtain ⟨hx, hb, hml, hown, hts, -, -, hK, -, -, -, hL⟩ := id K
  have hs := s_lay hR (sc xs (i + 1)) (sc xs (i + 2))
  refine lv_aload_n hx hb dL_law_400 rfl (lv_at hl 1 rfl) ?_
  refine lv_aload_n hx hb dL_law_401 rfl (lv_at hl 0 rfl) ?_
  refine lv_iload hx hb dL_law_402 (lv_at hl 5 rfl) ?_
  refine lv_iconst (v := iI 1) hx hb dL_law_404 rfl ?_
  refine z_iadd hx hb dL_law_405 ?_
  refine z_sld K hS (by omega) (by omega) dL_law_406 ?_
  refine lv_aload_n hx hb dL_law_407 rfl (lv_at hl 0 rfl) ?_
  refine lv_iload hx hb dL_law_408 (lv_at hl 5 rfl) ?_
  refine lv_iconst (v := iI 2) hx hb dL_law_410 rfl ?_
  refine z_iadd hx hb dL_law_411 ?_
  refine z_sld K hS (by omega) (by omega) dL_law_412 ?_
  refine lv_aload_n hx hb dL_law_413 rfl (lv_at hl 3 rfl) ?_
  refine lw_hl (n := 1) (As := [.ref (E 0), .int (iI (sc xs (i + 1))), .int (iI (sc xs (i + 2))), .ref o]) (rest := []) K (hX_lay l hst D E cI cC cJ cDD T o C (sc xs (i + 1)) (sc xs (i + 2)) (sc_r xs _) (sc_r xs _) (rl_CI hR) (rl_SI hR) (rl_HN hR) (fX8_lay C (sc xs (i + 1)) (sc xs (i + 2))).1 (fX8_lay C (sc xs (i + 1)) (sc xs (i + 2))).2.1 (fX8_lay C (sc xs (i + 1)) (sc xs (i + 2))).2.2 rfl ((fX9_lay G (sc xs (i + 1)) (sc xs (i + 2))).2 26 0) hs.2.1) (vx_cwSW 4 hts gL_law_L_lay rfl rfl rfl (by decide +kernel) ⟨Nat.le_of_ble_eq_true rfl, Nat.le_of_ble_eq_true rfl⟩) hP hD hS rfl hl.1 rfl (Nat.le_of_ble_eq_true rfl) dL_law_414 ⟨by omega, by omega⟩ (fun f' H locs hf' hP hD hS => ?_)
  refine lv_istore (lv' := [(6, .int (iI ((fX9_lay G (sc xs (i + 1)) (sc xs (i + 2))).2 26 0))), (0, .ref b), (1, .ref (E 0)), (2, .ref (F 0)), (3, .ref o), (4, .ref od), (5, .int (iI i))]) hx hb dL_law_417 hl (by decide) rfl (fun ls hl => ?_)
  refine lv_aload_n hx hb dL_law_419 rfl (lv_at hl 3 rfl) ?_
  refine lv_aload_n hx hb dL_law_420 rfl (lv_at hl 1 rfl) ?_
  refine lv_iload hx hb dL_law_421 (lv_at hl 6 rfl) ?_
  refine lv_iconst (v := iI 1) hx hb dL_law_423 rfl ?_
  refine z_iadd hx hb dL_law_424 ?_
  refine z_sld K hS (by omega) (by omega) dL_law_425 ?_
  refine lv_aload_n hx hb dL_law_426 rfl (lv_at hl 1 rfl) ?_
  refine lv_iload hx hb dL_law_427 (lv_at hl 6 rfl) ?_
  refine lv_iconst (v := iI 2) hx hb dL_law_429 rfl ?_
  refine z_iadd hx hb dL_law_430 ?_
  refine z_sld K hS (by omega) (by omega) dL_law_431 ?_
  refine lw_gi (As := [.int (iI (sc xs (i + 1))), .int (iI (sc xs (i + 2)))]) (rest := []) K (kX9_lay l D F cI cC ztr (fun _ => ztr_o) ztr_b G (sc xs (i + 1)) (sc xs (i + 2)) (sc_r xs _) (sc_r xs _) (rl_GI hR) (rl_CH hR) (fX9_lay G (sc xs (i + 1)) (sc xs (i + 2))).1 (fX9_lay G (sc xs (i + 1)) (sc xs (i + 2))).2 rfl) (cwV 2 hts gL_law_X9_lay rfl rfl rfl (by decide +kernel) ⟨Nat.le_of_ble_eq_true rfl, Nat.le_of_ble_eq_true rfl⟩) hP hD hS rfl hl.1 rfl (Nat.le_of_ble_eq_true rfl) dL_law_432 ⟨by omega, by omega⟩ (fun H locs hP hD hS => ?_)
  refine lv_istore (lv' := [(7, .int (iI (fX9_lay G (sc xs (i + 1)) (sc xs (i + 2))).1)), (6, .int (iI ((fX9_lay G (sc xs (i + 1)) (sc xs (i + 2))).2 26 0))), (0, .ref b), (1, .ref (E 0)), (2, .ref (F 0)), (3, .ref o), (4, .ref od), (5, .int (iI i))]) hx hb dL_law_435 hl (by decide) rfl (fun ls hl => ?_)
  exact lw_tail (k := (fX8_lay C (sc xs (i + 1)) (sc xs (i + 2))).1) (c0 := cells) (s0 := slots) K hs.1 rfl (AnsL_r hs.2.1 (by decide)).1 (fun hz => by rw [hf' ((AnsL_r hs.2.1 (by decide)).2 hz)]; exact congrArg (fun z => (iI z).toInt64) (hs.2.2 ((AnsL_r hs.2.1 (by decide)).2 hz))) hP hD hS hl (by omega) (by omega) ⟨by omega, by omega⟩ kont (by decide) dL_law_437 dL_law_438 dL_law_441 dL_law_443 dL_law_448 dL_law_450 dL_law_453 dL_law_454 dL_law_455 dL_law_456 dL_law_458 dL_law_459 dL_law_460 dL_law_465
set_option maxHeartbeats 4000000 in
set_option maxRecDepth 100000 in
theorem lc_take {p : Program} {l : Launch} {e : Env} {s : State} {m : MethodId} {args : Array Value} {below : List Frame} {meth : Method} {c : Code} {D : va_G} {cI cC cJ cDD : ClassId} {T : Nat → Nat} {b L : Nat} {xs : Nat → Int32} {E F : Nat → Nat} {o od : Nat} {Q : State → Prop} {i : Int} {cells slots : Nat} (K : LC p l s m args c D cI cC cJ cDD T b L xs) (h0 : 0 ≤ i) (h4 : i + 4 ≤ L) (hcr : cells + 2 ≤ room_1.cells ∧ slots + 12 ≤ room_1.slots) (kont : LK p l e s m args below meth c D cI cC cJ cDD E F o od b i Q cells slots) {C G : Mem} {f : Nat → Int64} {fd : Nat → UInt64} {H : Heap} {locs : List Loc} {ls : Array Slot} (hR : RelR C G) (hP : va_P D vwCl (VL E F cI cC cJ cDD o od C G f fd) H) (hD : va_D (lA s) (VL E F cI cC cJ cDD o od C G f fd)) (hS : va_S (lA s) s.heap H locs) (hl : lv_has ls 9 [(0, .ref b), (1, .ref (E 0)), (2, .ref (F 0)), (3, .ref o), (4, .ref od), (5, .int (iI i))]) : W p l e room_1 s m args below meth c H locs cells slots Q (F0 m 468 ls []) := by
  have hst := K.2.2.2.2.2.2.2.2.2.2.1
  obtain ⟨hx, hb, hml, hown, hts, -, -, hK, -, -, -, hL⟩ := id K
  have hs := s_take hR (sc xs (i + 1))
  refine lv_aload_n hx hb dL_law_468 rfl (lv_at hl 1 rfl) ?_
  refine lv_aload_n hx hb dL_law_469 rfl (lv_at hl 0 rfl) ?_
  refine lv_iload hx hb dL_law_470 (lv_at hl 5 rfl) ?_
  refine lv_iconst (v := iI 1) hx hb dL_law_472 rfl ?_
  refine z_iadd hx hb dL_law_473 ?_
  refine z_sld K hS (by omega) (by omega) dL_law_474 ?_
  refine lv_aload_n hx hb dL_law_475 rfl (lv_at hl 3 rfl) ?_
  refine lw_hl (n := 1) (As := [.ref (E 0), .int (iI (sc xs (i + 1))), .ref o]) (rest := []) K (hX_take l hst D E cI cC cJ cDD T o C (sc xs (i + 1)) (sc_r xs _) (rl_CI hR) (rl_SI hR) (rl_HN hR) (fX8_take C (sc xs (i + 1))).1 (fX8_take C (sc xs (i + 1))).2.1 (fX8_take C (sc xs (i + 1))).2.2 rfl ((fX9_take G (sc xs (i + 1))).2 26 0) hs.2.1) (vx_cwSW 3 hts gL_law_L_take rfl rfl rfl (by decide +kernel) ⟨Nat.le_of_ble_eq_true rfl, Nat.le_of_ble_eq_true rfl⟩) hP hD hS rfl hl.1 rfl (Nat.le_of_ble_eq_true rfl) dL_law_476 ⟨by omega, by omega⟩ (fun f' H locs hf' hP hD hS => ?_)
  refine lv_istore (lv' := [(6, .int (iI ((fX9_take G (sc xs (i + 1))).2 26 0))), (0, .ref b), (1, .ref (E 0)), (2, .ref (F 0)), (3, .ref o), (4, .ref od), (5, .int (iI i))]) hx hb dL_law_479 hl (by decide) rfl (fun ls hl => ?_)
  refine lv_aload_n hx hb dL_law_481 rfl (lv_at hl 3 rfl) ?_
  refine lv_aload_n hx hb dL_law_482 rfl (lv_at hl 1 rfl) ?_
  refine lv_iload hx hb dL_law_483 (lv_at hl 6 rfl) ?_
  refine lv_iconst (v := iI 1) hx hb dL_law_485 rfl ?_
  refine z_iadd hx hb dL_law_486 ?_
  refine z_sld K hS (by omega) (by omega) dL_law_487 ?_
  refine lw_gi (As := [.int (iI (sc xs (i + 1)))]) (rest := []) K (kX9_take l D F cI cC ztr (fun _ => ztr_o) ztr_b G (sc xs (i + 1)) (sc_r xs _) (rl_GI hR) (rl_CH hR) (fX9_take G (sc xs (i + 1))).1 (fX9_take G (sc xs (i + 1))).2 rfl) (cwV 1 hts gL_law_X9_take rfl rfl rfl (by decide +kernel) ⟨Nat.le_of_ble_eq_true rfl, Nat.le_of_ble_eq_true rfl⟩) hP hD hS rfl hl.1 rfl (Nat.le_of_ble_eq_true rfl) dL_law_488 ⟨by omega, by omega⟩ (fun H locs hP hD hS => ?_)
  refine lv_istore (lv' := [(7, .int (iI (fX9_take G (sc xs (i + 1))).1)), (6, .int (iI ((fX9_take G (sc xs (i + 1))).2 26 0))), (0, .ref b), (1, .ref (E 0)), (2, .ref (F 0)), (3, .ref o), (4, .ref od), (5, .int (iI i))]) hx hb dL_law_491 hl (by decide) rfl (fun ls hl => ?_)
  exact lw_tail (k := (fX8_take C (sc xs (i + 1))).1) (c0 := cells) (s0 := slots) K hs.1 rfl (AnsL_r hs.2.1 (by decide)).1 (fun hz => by rw [hf' ((AnsL_r hs.2.1 (by decide)).2 hz)]; exact congrArg (fun z => (iI z).toInt64) (hs.2.2 ((AnsL_r hs.2.1 (by decide)).2 hz))) hP hD hS hl (by omega) (by omega) ⟨by omega, by omega⟩ kont (by decide) dL_law_493 dL_law_494 dL_law_497 dL_law_499 dL_law_504 dL_law_506 dL_law_509 dL_law_510 dL_law_511 dL_law_512 dL_law_514 dL_law_515 dL_law_516 dL_law_521
set_option maxHeartbeats 4000000 in
set_option maxRecDepth 100000 in
theorem lc_move {p : Program} {l : Launch} {e : Env} {s : State} {m : MethodId} {args : Array Value} {below : List Frame} {meth : Method} {c : Code} {D : va_G} {cI cC cJ cDD : ClassId} {T : Nat → Nat} {b L : Nat} {xs : Nat → Int32} {E F : Nat → Nat} {o od : Nat} {Q : State → Prop} {i : Int} {cells slots : Nat} (K : LC p l s m args c D cI cC cJ cDD T b L xs) (h0 : 0 ≤ i) (h4 : i + 4 ≤ L) (hcr : cells + 2 ≤ room_1.cells ∧ slots + 12 ≤ room_1.slots) (kont : LK p l e s m args below meth c D cI cC cJ cDD E F o od b i Q cells slots) {C G : Mem} {f : Nat → Int64} {fd : Nat → UInt64} {H : Heap} {locs : List Loc} {ls : Array Slot} (hR : RelR C G) (hP : va_P D vwCl (VL E F cI cC cJ cDD o od C G f fd) H) (hD : va_D (lA s) (VL E F cI cC cJ cDD o od C G f fd)) (hS : va_S (lA s) s.heap H locs) (hl : lv_has ls 9 [(0, .ref b), (1, .ref (E 0)), (2, .ref (F 0)), (3, .ref o), (4, .ref od), (5, .int (iI i))]) : W p l e room_1 s m args below meth c H locs cells slots Q (F0 m 524 ls []) := by
  have hst := K.2.2.2.2.2.2.2.2.2.2.1
  obtain ⟨hx, hb, hml, hown, hts, -, -, hK, -, -, -, hL⟩ := id K
  have hs := s_move hR (sc xs (i + 1)) (sc xs (i + 2)) (sc xs (i + 3))
  refine lv_aload_n hx hb dL_law_524 rfl (lv_at hl 1 rfl) ?_
  refine lv_aload_n hx hb dL_law_525 rfl (lv_at hl 0 rfl) ?_
  refine lv_iload hx hb dL_law_526 (lv_at hl 5 rfl) ?_
  refine lv_iconst (v := iI 1) hx hb dL_law_528 rfl ?_
  refine z_iadd hx hb dL_law_529 ?_
  refine z_sld K hS (by omega) (by omega) dL_law_530 ?_
  refine lv_aload_n hx hb dL_law_531 rfl (lv_at hl 0 rfl) ?_
  refine lv_iload hx hb dL_law_532 (lv_at hl 5 rfl) ?_
  refine lv_iconst (v := iI 2) hx hb dL_law_534 rfl ?_
  refine z_iadd hx hb dL_law_535 ?_
  refine z_sld K hS (by omega) (by omega) dL_law_536 ?_
  refine lv_aload_n hx hb dL_law_537 rfl (lv_at hl 0 rfl) ?_
  refine lv_iload hx hb dL_law_538 (lv_at hl 5 rfl) ?_
  refine lv_iconst (v := iI 3) hx hb dL_law_540 rfl ?_
  refine z_iadd hx hb dL_law_541 ?_
  refine z_sld K hS (by omega) (by omega) dL_law_542 ?_
  refine lv_aload_n hx hb dL_law_543 rfl (lv_at hl 3 rfl) ?_
  refine lw_hl (n := 1) (As := [.ref (E 0), .int (iI (sc xs (i + 1))), .int (iI (sc xs (i + 2))), .int (iI (sc xs (i + 3))), .ref o]) (rest := []) K (hX_move l hst D E cI cC cJ cDD T o C (sc xs (i + 1)) (sc xs (i + 2)) (sc xs (i + 3)) (sc_r xs _) (sc_r xs _) (sc_r xs _) (rl_CI hR) (rl_SI hR) (rl_HN hR) (fX8_move C (sc xs (i + 1)) (sc xs (i + 2)) (sc xs (i + 3))).1 (fX8_move C (sc xs (i + 1)) (sc xs (i + 2)) (sc xs (i + 3))).2.1 (fX8_move C (sc xs (i + 1)) (sc xs (i + 2)) (sc xs (i + 3))).2.2 rfl ((fX9_move G (sc xs (i + 1)) (sc xs (i + 2)) (sc xs (i + 3))).2 26 0) hs.2.1) (vx_cwSW 5 hts gL_law_L_move rfl rfl rfl (by decide +kernel) ⟨Nat.le_of_ble_eq_true rfl, Nat.le_of_ble_eq_true rfl⟩) hP hD hS rfl hl.1 rfl (Nat.le_of_ble_eq_true rfl) dL_law_544 ⟨by omega, by omega⟩ (fun f' H locs hf' hP hD hS => ?_)
  refine lv_istore (lv' := [(6, .int (iI ((fX9_move G (sc xs (i + 1)) (sc xs (i + 2)) (sc xs (i + 3))).2 26 0))), (0, .ref b), (1, .ref (E 0)), (2, .ref (F 0)), (3, .ref o), (4, .ref od), (5, .int (iI i))]) hx hb dL_law_547 hl (by decide) rfl (fun ls hl => ?_)
  refine lv_aload_n hx hb dL_law_549 rfl (lv_at hl 3 rfl) ?_
  refine lv_aload_n hx hb dL_law_550 rfl (lv_at hl 1 rfl) ?_
  refine lv_iload hx hb dL_law_551 (lv_at hl 6 rfl) ?_
  refine lv_iconst (v := iI 1) hx hb dL_law_553 rfl ?_
  refine z_iadd hx hb dL_law_554 ?_
  refine z_sld K hS (by omega) (by omega) dL_law_555 ?_
  refine lv_aload_n hx hb dL_law_556 rfl (lv_at hl 1 rfl) ?_
  refine lv_iload hx hb dL_law_557 (lv_at hl 6 rfl) ?_
  refine lv_iconst (v := iI 2) hx hb dL_law_559 rfl ?_
  refine z_iadd hx hb dL_law_560 ?_
  refine z_sld K hS (by omega) (by omega) dL_law_561 ?_
  refine lv_aload_n hx hb dL_law_562 rfl (lv_at hl 1 rfl) ?_
  refine lv_iload hx hb dL_law_563 (lv_at hl 6 rfl) ?_
  refine lv_iconst (v := iI 3) hx hb dL_law_565 rfl ?_
  refine z_iadd hx hb dL_law_566 ?_
  refine z_sld K hS (by omega) (by omega) dL_law_567 ?_
  refine lw_gi (As := [.int (iI (sc xs (i + 1))), .int (iI (sc xs (i + 2))), .int (iI (sc xs (i + 3)))]) (rest := []) K (kX9_move l D F cI cC ztr (fun _ => ztr_o) ztr_b G (sc xs (i + 1)) (sc xs (i + 2)) (sc xs (i + 3)) (sc_r xs _) (sc_r xs _) (sc_r xs _) (rl_GI hR) (rl_CH hR) (fX9_move G (sc xs (i + 1)) (sc xs (i + 2)) (sc xs (i + 3))).1 (fX9_move G (sc xs (i + 1)) (sc xs (i + 2)) (sc xs (i + 3))).2 rfl) (cwV 3 hts gL_law_X9_move rfl rfl rfl (by decide +kernel) ⟨Nat.le_of_ble_eq_true rfl, Nat.le_of_ble_eq_true rfl⟩) hP hD hS rfl hl.1 rfl (Nat.le_of_ble_eq_true rfl) dL_law_568 ⟨by omega, by omega⟩ (fun H locs hP hD hS => ?_)
  refine lv_istore (lv' := [(7, .int (iI (fX9_move G (sc xs (i + 1)) (sc xs (i + 2)) (sc xs (i + 3))).1)), (6, .int (iI ((fX9_move G (sc xs (i + 1)) (sc xs (i + 2)) (sc xs (i + 3))).2 26 0))), (0, .ref b), (1, .ref (E 0)), (2, .ref (F 0)), (3, .ref o), (4, .ref od), (5, .int (iI i))]) hx hb dL_law_571 hl (by decide) rfl (fun ls hl => ?_)
  exact lw_tail (k := (fX8_move C (sc xs (i + 1)) (sc xs (i + 2)) (sc xs (i + 3))).1) (c0 := cells) (s0 := slots) K hs.1 rfl (AnsL_r hs.2.1 (by decide)).1 (fun hz => by rw [hf' ((AnsL_r hs.2.1 (by decide)).2 hz)]; exact congrArg (fun z => (iI z).toInt64) (hs.2.2 ((AnsL_r hs.2.1 (by decide)).2 hz))) hP hD hS hl (by omega) (by omega) ⟨by omega, by omega⟩ kont (by decide) dL_law_573 dL_law_574 dL_law_577 dL_law_579 dL_law_584 dL_law_586 dL_law_589 dL_law_590 dL_law_591 dL_law_592 dL_law_594 dL_law_595 dL_law_596 dL_law_601
set_option maxHeartbeats 4000000 in
set_option maxRecDepth 100000 in
theorem lc_stain {p : Program} {l : Launch} {e : Env} {s : State} {m : MethodId} {args : Array Value} {below : List Frame} {meth : Method} {c : Code} {D : va_G} {cI cC cJ cDD : ClassId} {T : Nat → Nat} {b L : Nat} {xs : Nat → Int32} {E F : Nat → Nat} {o od : Nat} {Q : State → Prop} {i : Int} {cells slots : Nat} (K : LC p l s m args c D cI cC cJ cDD T b L xs) (h0 : 0 ≤ i) (h4 : i + 4 ≤ L) (hcr : cells + 2 ≤ room_1.cells ∧ slots + 12 ≤ room_1.slots) (kont : LK p l e s m args below meth c D cI cC cJ cDD E F o od b i Q cells slots) {C G : Mem} {f : Nat → Int64} {fd : Nat → UInt64} {H : Heap} {locs : List Loc} {ls : Array Slot} (hR : RelR C G) (hP : va_P D vwCl (VL E F cI cC cJ cDD o od C G f fd) H) (hD : va_D (lA s) (VL E F cI cC cJ cDD o od C G f fd)) (hS : va_S (lA s) s.heap H locs) (hl : lv_has ls 9 [(0, .ref b), (1, .ref (E 0)), (2, .ref (F 0)), (3, .ref o), (4, .ref od), (5, .int (iI i))]) : W p l e room_1 s m args below meth c H locs cells slots Q (F0 m 604 ls []) := by
  have hst := K.2.2.2.2.2.2.2.2.2.2.1
  obtain ⟨hx, hb, hml, hown, hts, -, -, hK, -, -, -, hL⟩ := id K
  have hs := s_stain hR (sc xs (i + 1)) (sc xs (i + 2))
  refine lv_aload_n hx hb dL_law_604 rfl (lv_at hl 1 rfl) ?_
  refine lv_aload_n hx hb dL_law_605 rfl (lv_at hl 0 rfl) ?_
  refine lv_iload hx hb dL_law_606 (lv_at hl 5 rfl) ?_
  refine lv_iconst (v := iI 1) hx hb dL_law_608 rfl ?_
  refine z_iadd hx hb dL_law_609 ?_
  refine z_sld K hS (by omega) (by omega) dL_law_610 ?_
  refine lv_aload_n hx hb dL_law_611 rfl (lv_at hl 0 rfl) ?_
  refine lv_iload hx hb dL_law_612 (lv_at hl 5 rfl) ?_
  refine lv_iconst (v := iI 2) hx hb dL_law_614 rfl ?_
  refine z_iadd hx hb dL_law_615 ?_
  refine z_sld K hS (by omega) (by omega) dL_law_616 ?_
  refine lv_aload_n hx hb dL_law_617 rfl (lv_at hl 3 rfl) ?_
  refine lw_hl (n := 1) (As := [.ref (E 0), .int (iI (sc xs (i + 1))), .int (iI (sc xs (i + 2))), .ref o]) (rest := []) K (hX_stain l hst D E cI cC cJ cDD T o C (sc xs (i + 1)) (sc xs (i + 2)) (sc_r xs _) (sc_r xs _) (rl_CI hR) (rl_SI hR) (rl_HN hR) (fX8_stain C (sc xs (i + 1)) (sc xs (i + 2))).1 (fX8_stain C (sc xs (i + 1)) (sc xs (i + 2))).2.1 (fX8_stain C (sc xs (i + 1)) (sc xs (i + 2))).2.2 rfl ((fX9_stain G (sc xs (i + 1)) (sc xs (i + 2))).2 26 0) hs.2.1) (vx_cwSW 4 hts gL_law_L_stain rfl rfl rfl (by decide +kernel) ⟨Nat.le_of_ble_eq_true rfl, Nat.le_of_ble_eq_true rfl⟩) hP hD hS rfl hl.1 rfl (Nat.le_of_ble_eq_true rfl) dL_law_618 ⟨by omega, by omega⟩ (fun f' H locs hf' hP hD hS => ?_)
  refine lv_istore (lv' := [(6, .int (iI ((fX9_stain G (sc xs (i + 1)) (sc xs (i + 2))).2 26 0))), (0, .ref b), (1, .ref (E 0)), (2, .ref (F 0)), (3, .ref o), (4, .ref od), (5, .int (iI i))]) hx hb dL_law_621 hl (by decide) rfl (fun ls hl => ?_)
  refine lv_aload_n hx hb dL_law_623 rfl (lv_at hl 3 rfl) ?_
  refine lv_aload_n hx hb dL_law_624 rfl (lv_at hl 1 rfl) ?_
  refine lv_iload hx hb dL_law_625 (lv_at hl 6 rfl) ?_
  refine lv_iconst (v := iI 1) hx hb dL_law_627 rfl ?_
  refine z_iadd hx hb dL_law_628 ?_
  refine z_sld K hS (by omega) (by omega) dL_law_629 ?_
  refine lv_aload_n hx hb dL_law_630 rfl (lv_at hl 1 rfl) ?_
  refine lv_iload hx hb dL_law_631 (lv_at hl 6 rfl) ?_
  refine lv_iconst (v := iI 2) hx hb dL_law_633 rfl ?_
  refine z_iadd hx hb dL_law_634 ?_
  refine z_sld K hS (by omega) (by omega) dL_law_635 ?_
  refine lw_gi (As := [.int (iI (sc xs (i + 1))), .int (iI (sc xs (i + 2)))]) (rest := []) K (kX9_stain l D F cI cC ztr (fun _ => ztr_o) ztr_b G (sc xs (i + 1)) (sc xs (i + 2)) (sc_r xs _) (sc_r xs _) (rl_GI hR) (rl_CH hR) (fX9_stain G (sc xs (i + 1)) (sc xs (i + 2))).1 (fX9_stain G (sc xs (i + 1)) (sc xs (i + 2))).2 rfl) (cwV 2 hts gL_law_X9_stain rfl rfl rfl (by decide +kernel) ⟨Nat.le_of_ble_eq_true rfl, Nat.le_of_ble_eq_true rfl⟩) hP hD hS rfl hl.1 rfl (Nat.le_of_ble_eq_true rfl) dL_law_636 ⟨by omega, by omega⟩ (fun H locs hP hD hS => ?_)
  refine lv_istore (lv' := [(7, .int (iI (fX9_stain G (sc xs (i + 1)) (sc xs (i + 2))).1)), (6, .int (iI ((fX9_stain G (sc xs (i + 1)) (sc xs (i + 2))).2 26 0))), (0, .ref b), (1, .ref (E 0)), (2, .ref (F 0)), (3, .ref o), (4, .ref od), (5, .int (iI i))]) hx hb dL_law_639 hl (by decide) rfl (fun ls hl => ?_)
  exact lw_tail (k := (fX8_stain C (sc xs (i + 1)) (sc xs (i + 2))).1) (c0 := cells) (s0 := slots) K hs.1 rfl (AnsL_r hs.2.1 (by decide)).1 (fun hz => by rw [hf' ((AnsL_r hs.2.1 (by decide)).2 hz)]; exact congrArg (fun z => (iI z).toInt64) (hs.2.2 ((AnsL_r hs.2.1 (by decide)).2 hz))) hP hD hS hl (by omega) (by omega) ⟨by omega, by omega⟩ kont (by decide) dL_law_641 dL_law_642 dL_law_645 dL_law_647 dL_law_652 dL_law_654 dL_law_657 dL_law_658 dL_law_659 dL_law_660 dL_law_662 dL_law_663 dL_law_664 dL_law_669
set_option maxHeartbeats 4000000 in
set_option maxRecDepth 100000 in
theorem lc_wash {p : Program} {l : Launch} {e : Env} {s : State} {m : MethodId} {args : Array Value} {below : List Frame} {meth : Method} {c : Code} {D : va_G} {cI cC cJ cDD : ClassId} {T : Nat → Nat} {b L : Nat} {xs : Nat → Int32} {E F : Nat → Nat} {o od : Nat} {Q : State → Prop} {i : Int} {cells slots : Nat} (K : LC p l s m args c D cI cC cJ cDD T b L xs) (h0 : 0 ≤ i) (h4 : i + 4 ≤ L) (hcr : cells + 2 ≤ room_1.cells ∧ slots + 12 ≤ room_1.slots) (kont : LK p l e s m args below meth c D cI cC cJ cDD E F o od b i Q cells slots) {C G : Mem} {f : Nat → Int64} {fd : Nat → UInt64} {H : Heap} {locs : List Loc} {ls : Array Slot} (hR : RelR C G) (hP : va_P D vwCl (VL E F cI cC cJ cDD o od C G f fd) H) (hD : va_D (lA s) (VL E F cI cC cJ cDD o od C G f fd)) (hS : va_S (lA s) s.heap H locs) (hl : lv_has ls 9 [(0, .ref b), (1, .ref (E 0)), (2, .ref (F 0)), (3, .ref o), (4, .ref od), (5, .int (iI i))]) : W p l e room_1 s m args below meth c H locs cells slots Q (F0 m 672 ls []) := by
  have hst := K.2.2.2.2.2.2.2.2.2.2.1
  obtain ⟨hx, hb, hml, hown, hts, -, -, hK, -, -, -, hL⟩ := id K
  have hs := s_wash hR (sc xs (i + 1))
  refine lv_aload_n hx hb dL_law_672 rfl (lv_at hl 1 rfl) ?_
  refine lv_aload_n hx hb dL_law_673 rfl (lv_at hl 0 rfl) ?_
  refine lv_iload hx hb dL_law_674 (lv_at hl 5 rfl) ?_
  refine lv_iconst (v := iI 1) hx hb dL_law_676 rfl ?_
  refine z_iadd hx hb dL_law_677 ?_
  refine z_sld K hS (by omega) (by omega) dL_law_678 ?_
  refine lv_aload_n hx hb dL_law_679 rfl (lv_at hl 3 rfl) ?_
  refine lw_hl (n := 1) (As := [.ref (E 0), .int (iI (sc xs (i + 1))), .ref o]) (rest := []) K (hX_wash l hst D E cI cC cJ cDD T o C (sc xs (i + 1)) (sc_r xs _) (rl_CI hR) (rl_SI hR) (rl_HN hR) (fX8_wash C (sc xs (i + 1))).1 (fX8_wash C (sc xs (i + 1))).2.1 (fX8_wash C (sc xs (i + 1))).2.2 rfl ((fX9_wash G (sc xs (i + 1))).2 26 0) hs.2.1) (vx_cwSW 3 hts gL_law_L_wash rfl rfl rfl (by decide +kernel) ⟨Nat.le_of_ble_eq_true rfl, Nat.le_of_ble_eq_true rfl⟩) hP hD hS rfl hl.1 rfl (Nat.le_of_ble_eq_true rfl) dL_law_680 ⟨by omega, by omega⟩ (fun f' H locs hf' hP hD hS => ?_)
  refine lv_istore (lv' := [(6, .int (iI ((fX9_wash G (sc xs (i + 1))).2 26 0))), (0, .ref b), (1, .ref (E 0)), (2, .ref (F 0)), (3, .ref o), (4, .ref od), (5, .int (iI i))]) hx hb dL_law_683 hl (by decide) rfl (fun ls hl => ?_)
  refine lv_aload_n hx hb dL_law_685 rfl (lv_at hl 3 rfl) ?_
  refine lv_aload_n hx hb dL_law_686 rfl (lv_at hl 1 rfl) ?_
  refine lv_iload hx hb dL_law_687 (lv_at hl 6 rfl) ?_
  refine lv_iconst (v := iI 1) hx hb dL_law_689 rfl ?_
  refine z_iadd hx hb dL_law_690 ?_
  refine z_sld K hS (by omega) (by omega) dL_law_691 ?_
  refine lw_gi (As := [.int (iI (sc xs (i + 1)))]) (rest := []) K (kX9_wash l D F cI cC ztr (fun _ => ztr_o) ztr_b G (sc xs (i + 1)) (sc_r xs _) (rl_GI hR) (rl_CH hR) (fX9_wash G (sc xs (i + 1))).1 (fX9_wash G (sc xs (i + 1))).2 rfl) (cwV 1 hts gL_law_X9_wash rfl rfl rfl (by decide +kernel) ⟨Nat.le_of_ble_eq_true rfl, Nat.le_of_ble_eq_true rfl⟩) hP hD hS rfl hl.1 rfl (Nat.le_of_ble_eq_true rfl) dL_law_692 ⟨by omega, by omega⟩ (fun H locs hP hD hS => ?_)
  refine lv_istore (lv' := [(7, .int (iI (fX9_wash G (sc xs (i + 1))).1)), (6, .int (iI ((fX9_wash G (sc xs (i + 1))).2 26 0))), (0, .ref b), (1, .ref (E 0)), (2, .ref (F 0)), (3, .ref o), (4, .ref od), (5, .int (iI i))]) hx hb dL_law_695 hl (by decide) rfl (fun ls hl => ?_)
  exact lw_tail (k := (fX8_wash C (sc xs (i + 1))).1) (c0 := cells) (s0 := slots) K hs.1 rfl (AnsL_r hs.2.1 (by decide)).1 (fun hz => by rw [hf' ((AnsL_r hs.2.1 (by decide)).2 hz)]; exact congrArg (fun z => (iI z).toInt64) (hs.2.2 ((AnsL_r hs.2.1 (by decide)).2 hz))) hP hD hS hl (by omega) (by omega) ⟨by omega, by omega⟩ kont (by decide) dL_law_697 dL_law_698 dL_law_701 dL_law_703 dL_law_708 dL_law_710 dL_law_713 dL_law_714 dL_law_715 dL_law_716 dL_law_718 dL_law_719 dL_law_720 dL_law_725
set_option maxHeartbeats 4000000 in
set_option maxRecDepth 100000 in
theorem lc_host {p : Program} {l : Launch} {e : Env} {s : State} {m : MethodId} {args : Array Value} {below : List Frame} {meth : Method} {c : Code} {D : va_G} {cI cC cJ cDD : ClassId} {T : Nat → Nat} {b L : Nat} {xs : Nat → Int32} {E F : Nat → Nat} {o od : Nat} {Q : State → Prop} {i : Int} {cells slots : Nat} (K : LC p l s m args c D cI cC cJ cDD T b L xs) (h0 : 0 ≤ i) (h4 : i + 4 ≤ L) (hcr : cells + 2 ≤ room_1.cells ∧ slots + 12 ≤ room_1.slots) (kont : LK p l e s m args below meth c D cI cC cJ cDD E F o od b i Q cells slots) {C G : Mem} {f : Nat → Int64} {fd : Nat → UInt64} {H : Heap} {locs : List Loc} {ls : Array Slot} (hR : RelR C G) (hP : va_P D vwCl (VL E F cI cC cJ cDD o od C G f fd) H) (hD : va_D (lA s) (VL E F cI cC cJ cDD o od C G f fd)) (hS : va_S (lA s) s.heap H locs) (hl : lv_has ls 9 [(0, .ref b), (1, .ref (E 0)), (2, .ref (F 0)), (3, .ref o), (4, .ref od), (5, .int (iI i))]) : W p l e room_1 s m args below meth c H locs cells slots Q (F0 m 728 ls []) := by
  have hst := K.2.2.2.2.2.2.2.2.2.2.1
  obtain ⟨hx, hb, hml, hown, hts, -, -, hK, -, -, -, hL⟩ := id K
  have hs := s_host hR (sc xs (i + 1))
  refine lv_aload_n hx hb dL_law_728 rfl (lv_at hl 1 rfl) ?_
  refine lv_aload_n hx hb dL_law_729 rfl (lv_at hl 0 rfl) ?_
  refine lv_iload hx hb dL_law_730 (lv_at hl 5 rfl) ?_
  refine lv_iconst (v := iI 1) hx hb dL_law_732 rfl ?_
  refine z_iadd hx hb dL_law_733 ?_
  refine z_sld K hS (by omega) (by omega) dL_law_734 ?_
  refine lv_aload_n hx hb dL_law_735 rfl (lv_at hl 3 rfl) ?_
  refine lw_hl (n := 1) (As := [.ref (E 0), .int (iI (sc xs (i + 1))), .ref o]) (rest := []) K (hX_host l hst D E cI cC cJ cDD T o C (sc xs (i + 1)) (sc_r xs _) (rl_CI hR) (rl_SI hR) (rl_HN hR) (fX8_host C (sc xs (i + 1))).1 (fX8_host C (sc xs (i + 1))).2.1 (fX8_host C (sc xs (i + 1))).2.2 rfl ((fX9_host G (sc xs (i + 1))).2 26 0) hs.2.1) (vx_cwSW 3 hts gL_law_L_host rfl rfl rfl (by decide +kernel) ⟨Nat.le_of_ble_eq_true rfl, Nat.le_of_ble_eq_true rfl⟩) hP hD hS rfl hl.1 rfl (Nat.le_of_ble_eq_true rfl) dL_law_736 ⟨by omega, by omega⟩ (fun f' H locs hf' hP hD hS => ?_)
  refine lv_istore (lv' := [(6, .int (iI ((fX9_host G (sc xs (i + 1))).2 26 0))), (0, .ref b), (1, .ref (E 0)), (2, .ref (F 0)), (3, .ref o), (4, .ref od), (5, .int (iI i))]) hx hb dL_law_739 hl (by decide) rfl (fun ls hl => ?_)
  refine lv_aload_n hx hb dL_law_741 rfl (lv_at hl 3 rfl) ?_
  refine lv_aload_n hx hb dL_law_742 rfl (lv_at hl 1 rfl) ?_
  refine lv_iload hx hb dL_law_743 (lv_at hl 6 rfl) ?_
  refine lv_iconst (v := iI 1) hx hb dL_law_745 rfl ?_
  refine z_iadd hx hb dL_law_746 ?_
  refine z_sld K hS (by omega) (by omega) dL_law_747 ?_
  refine lw_gi (As := [.int (iI (sc xs (i + 1)))]) (rest := []) K (kX9_host l D F cI cC ztr (fun _ => ztr_o) ztr_b G (sc xs (i + 1)) (sc_r xs _) (rl_GI hR) (rl_CH hR) (fX9_host G (sc xs (i + 1))).1 (fX9_host G (sc xs (i + 1))).2 rfl) (cwV 1 hts gL_law_X9_host rfl rfl rfl (by decide +kernel) ⟨Nat.le_of_ble_eq_true rfl, Nat.le_of_ble_eq_true rfl⟩) hP hD hS rfl hl.1 rfl (Nat.le_of_ble_eq_true rfl) dL_law_748 ⟨by omega, by omega⟩ (fun H locs hP hD hS => ?_)
  refine lv_istore (lv' := [(7, .int (iI (fX9_host G (sc xs (i + 1))).1)), (6, .int (iI ((fX9_host G (sc xs (i + 1))).2 26 0))), (0, .ref b), (1, .ref (E 0)), (2, .ref (F 0)), (3, .ref o), (4, .ref od), (5, .int (iI i))]) hx hb dL_law_751 hl (by decide) rfl (fun ls hl => ?_)
  exact lw_tail (k := (fX8_host C (sc xs (i + 1))).1) (c0 := cells) (s0 := slots) K hs.1 rfl (AnsL_r hs.2.1 (by decide)).1 (fun hz => by rw [hf' ((AnsL_r hs.2.1 (by decide)).2 hz)]; exact congrArg (fun z => (iI z).toInt64) (hs.2.2 ((AnsL_r hs.2.1 (by decide)).2 hz))) hP hD hS hl (by omega) (by omega) ⟨by omega, by omega⟩ kont (by decide) dL_law_753 dL_law_754 dL_law_757 dL_law_759 dL_law_764 dL_law_766 dL_law_769 dL_law_770 dL_law_771 dL_law_772 dL_law_774 dL_law_775 dL_law_776 dL_law_781
set_option maxHeartbeats 4000000 in
set_option maxRecDepth 100000 in
theorem lc_napkinOf {p : Program} {l : Launch} {e : Env} {s : State} {m : MethodId} {args : Array Value} {below : List Frame} {meth : Method} {c : Code} {D : va_G} {cI cC cJ cDD : ClassId} {T : Nat → Nat} {b L : Nat} {xs : Nat → Int32} {E F : Nat → Nat} {o od : Nat} {Q : State → Prop} {i : Int} {cells slots : Nat} (K : LC p l s m args c D cI cC cJ cDD T b L xs) (h0 : 0 ≤ i) (h4 : i + 4 ≤ L) (hcr : cells + 2 ≤ room_1.cells ∧ slots + 12 ≤ room_1.slots) (kont : LK p l e s m args below meth c D cI cC cJ cDD E F o od b i Q cells slots) {C G : Mem} {f : Nat → Int64} {fd : Nat → UInt64} {H : Heap} {locs : List Loc} {ls : Array Slot} (hR : RelR C G) (hP : va_P D vwCl (VL E F cI cC cJ cDD o od C G f fd) H) (hD : va_D (lA s) (VL E F cI cC cJ cDD o od C G f fd)) (hS : va_S (lA s) s.heap H locs) (hl : lv_has ls 9 [(0, .ref b), (1, .ref (E 0)), (2, .ref (F 0)), (3, .ref o), (4, .ref od), (5, .int (iI i))]) : W p l e room_1 s m args below meth c H locs cells slots Q (F0 m 784 ls []) := by
  have hst := K.2.2.2.2.2.2.2.2.2.2.1
  obtain ⟨hx, hb, hml, hown, hts, -, -, hK, -, -, -, hL⟩ := id K
  have hs := s_napkinOf hR (sc xs (i + 1)) (sc xs (i + 2))
  refine lv_aload_n hx hb dL_law_784 rfl (lv_at hl 1 rfl) ?_
  refine lv_aload_n hx hb dL_law_785 rfl (lv_at hl 0 rfl) ?_
  refine lv_iload hx hb dL_law_786 (lv_at hl 5 rfl) ?_
  refine lv_iconst (v := iI 1) hx hb dL_law_788 rfl ?_
  refine z_iadd hx hb dL_law_789 ?_
  refine z_sld K hS (by omega) (by omega) dL_law_790 ?_
  refine lv_aload_n hx hb dL_law_791 rfl (lv_at hl 0 rfl) ?_
  refine lv_iload hx hb dL_law_792 (lv_at hl 5 rfl) ?_
  refine lv_iconst (v := iI 2) hx hb dL_law_794 rfl ?_
  refine z_iadd hx hb dL_law_795 ?_
  refine z_sld K hS (by omega) (by omega) dL_law_796 ?_
  refine lv_aload_n hx hb dL_law_797 rfl (lv_at hl 3 rfl) ?_
  refine lw_hl (n := 1) (As := [.ref (E 0), .int (iI (sc xs (i + 1))), .int (iI (sc xs (i + 2))), .ref o]) (rest := []) K (hX_napkinOf l hst D E cI cC cJ cDD T o C (sc xs (i + 1)) (sc xs (i + 2)) (sc_r xs _) (sc_r xs _) (rl_CI hR) (fX8_napkinOf C (sc xs (i + 1)) (sc xs (i + 2))).1 (fX8_napkinOf C (sc xs (i + 1)) (sc xs (i + 2))).2 rfl ((fX9_napkinOf G (sc xs (i + 1)) (sc xs (i + 2))).2 26 0) hs.2.1) (vx_cwSW 4 hts gL_law_L_napkinOf rfl rfl rfl (by decide +kernel) ⟨Nat.le_of_ble_eq_true rfl, Nat.le_of_ble_eq_true rfl⟩) hP hD hS rfl hl.1 rfl (Nat.le_of_ble_eq_true rfl) dL_law_798 ⟨by omega, by omega⟩ (fun f' H locs hf' hP hD hS => ?_)
  refine lv_istore (lv' := [(6, .int (iI ((fX9_napkinOf G (sc xs (i + 1)) (sc xs (i + 2))).2 26 0))), (0, .ref b), (1, .ref (E 0)), (2, .ref (F 0)), (3, .ref o), (4, .ref od), (5, .int (iI i))]) hx hb dL_law_801 hl (by decide) rfl (fun ls hl => ?_)
  refine lv_aload_n hx hb dL_law_803 rfl (lv_at hl 3 rfl) ?_
  refine lv_aload_n hx hb dL_law_804 rfl (lv_at hl 1 rfl) ?_
  refine lv_iload hx hb dL_law_805 (lv_at hl 6 rfl) ?_
  refine lv_iconst (v := iI 1) hx hb dL_law_807 rfl ?_
  refine z_iadd hx hb dL_law_808 ?_
  refine z_sld K hS (by omega) (by omega) dL_law_809 ?_
  refine lv_aload_n hx hb dL_law_810 rfl (lv_at hl 1 rfl) ?_
  refine lv_iload hx hb dL_law_811 (lv_at hl 6 rfl) ?_
  refine lv_iconst (v := iI 2) hx hb dL_law_813 rfl ?_
  refine z_iadd hx hb dL_law_814 ?_
  refine z_sld K hS (by omega) (by omega) dL_law_815 ?_
  refine lw_gi (As := [.int (iI (sc xs (i + 1))), .int (iI (sc xs (i + 2)))]) (rest := []) K (kX9_napkinOf l D F cI cC ztr (fun _ => ztr_o) ztr_b G (sc xs (i + 1)) (sc xs (i + 2)) (sc_r xs _) (sc_r xs _) (rl_GI hR) (fX9_napkinOf G (sc xs (i + 1)) (sc xs (i + 2))).1 (fX9_napkinOf G (sc xs (i + 1)) (sc xs (i + 2))).2 rfl) (cwV 2 hts gL_law_X9_napkinOf rfl rfl rfl (by decide +kernel) ⟨Nat.le_of_ble_eq_true rfl, Nat.le_of_ble_eq_true rfl⟩) hP hD hS rfl hl.1 rfl (Nat.le_of_ble_eq_true rfl) dL_law_816 ⟨by omega, by omega⟩ (fun H locs hP hD hS => ?_)
  refine lv_istore (lv' := [(7, .int (iI (fX9_napkinOf G (sc xs (i + 1)) (sc xs (i + 2))).1)), (6, .int (iI ((fX9_napkinOf G (sc xs (i + 1)) (sc xs (i + 2))).2 26 0))), (0, .ref b), (1, .ref (E 0)), (2, .ref (F 0)), (3, .ref o), (4, .ref od), (5, .int (iI i))]) hx hb dL_law_819 hl (by decide) rfl (fun ls hl => ?_)
  exact lw_tail (k := (fX8_napkinOf C (sc xs (i + 1)) (sc xs (i + 2))).1) (c0 := cells) (s0 := slots) K hs.1 rfl (AnsL_r hs.2.1 (by decide)).1 (fun hz => by rw [hf' ((AnsL_r hs.2.1 (by decide)).2 hz)]; exact congrArg (fun z => (iI z).toInt64) (hs.2.2 ((AnsL_r hs.2.1 (by decide)).2 hz))) hP hD hS hl (by omega) (by omega) ⟨by omega, by omega⟩ kont (by decide) dL_law_821 dL_law_822 dL_law_825 dL_law_827 dL_law_832 dL_law_834 dL_law_837 dL_law_838 dL_law_839 dL_law_840 dL_law_842 dL_law_843 dL_law_844 dL_law_849
set_option maxHeartbeats 4000000 in
set_option maxRecDepth 100000 in
theorem lc_tableOf {p : Program} {l : Launch} {e : Env} {s : State} {m : MethodId} {args : Array Value} {below : List Frame} {meth : Method} {c : Code} {D : va_G} {cI cC cJ cDD : ClassId} {T : Nat → Nat} {b L : Nat} {xs : Nat → Int32} {E F : Nat → Nat} {o od : Nat} {Q : State → Prop} {i : Int} {cells slots : Nat} (K : LC p l s m args c D cI cC cJ cDD T b L xs) (h0 : 0 ≤ i) (h4 : i + 4 ≤ L) (hcr : cells + 2 ≤ room_1.cells ∧ slots + 12 ≤ room_1.slots) (kont : LK p l e s m args below meth c D cI cC cJ cDD E F o od b i Q cells slots) {C G : Mem} {f : Nat → Int64} {fd : Nat → UInt64} {H : Heap} {locs : List Loc} {ls : Array Slot} (hR : RelR C G) (hP : va_P D vwCl (VL E F cI cC cJ cDD o od C G f fd) H) (hD : va_D (lA s) (VL E F cI cC cJ cDD o od C G f fd)) (hS : va_S (lA s) s.heap H locs) (hl : lv_has ls 9 [(0, .ref b), (1, .ref (E 0)), (2, .ref (F 0)), (3, .ref o), (4, .ref od), (5, .int (iI i))]) : W p l e room_1 s m args below meth c H locs cells slots Q (F0 m 852 ls []) := by
  have hst := K.2.2.2.2.2.2.2.2.2.2.1
  obtain ⟨hx, hb, hml, hown, hts, -, -, hK, -, -, -, hL⟩ := id K
  have hs := s_tableOf hR (sc xs (i + 1)) (sc xs (i + 2))
  refine lv_aload_n hx hb dL_law_852 rfl (lv_at hl 1 rfl) ?_
  refine lv_aload_n hx hb dL_law_853 rfl (lv_at hl 0 rfl) ?_
  refine lv_iload hx hb dL_law_854 (lv_at hl 5 rfl) ?_
  refine lv_iconst (v := iI 1) hx hb dL_law_856 rfl ?_
  refine z_iadd hx hb dL_law_857 ?_
  refine z_sld K hS (by omega) (by omega) dL_law_858 ?_
  refine lv_aload_n hx hb dL_law_859 rfl (lv_at hl 0 rfl) ?_
  refine lv_iload hx hb dL_law_860 (lv_at hl 5 rfl) ?_
  refine lv_iconst (v := iI 2) hx hb dL_law_862 rfl ?_
  refine z_iadd hx hb dL_law_863 ?_
  refine z_sld K hS (by omega) (by omega) dL_law_864 ?_
  refine lv_aload_n hx hb dL_law_865 rfl (lv_at hl 3 rfl) ?_
  refine lw_hl (n := 2) (As := [.ref (E 0), .int (iI (sc xs (i + 1))), .int (iI (sc xs (i + 2))), .ref o]) (rest := []) K (hX_tableOf l hst D E cI cC cJ cDD T o C (sc xs (i + 1)) (sc xs (i + 2)) (sc_r xs _) (sc_r xs _) (rl_CI hR) (rl_SI hR) (fX8_tableOf C (sc xs (i + 1)) (sc xs (i + 2))).1 (fX8_tableOf C (sc xs (i + 1)) (sc xs (i + 2))).2.1 (fX8_tableOf C (sc xs (i + 1)) (sc xs (i + 2))).2.2 rfl ((fX9_tableOf G (sc xs (i + 1)) (sc xs (i + 2))).2 26 0) hs.2.1) (vx_cwSW 4 hts gL_law_L_tableOf rfl rfl rfl (by decide +kernel) ⟨Nat.le_of_ble_eq_true rfl, Nat.le_of_ble_eq_true rfl⟩) hP hD hS rfl hl.1 rfl (Nat.le_of_ble_eq_true rfl) dL_law_866 ⟨by omega, by omega⟩ (fun f' H locs hf' hP hD hS => ?_)
  refine lv_istore (lv' := [(6, .int (iI ((fX9_tableOf G (sc xs (i + 1)) (sc xs (i + 2))).2 26 0))), (0, .ref b), (1, .ref (E 0)), (2, .ref (F 0)), (3, .ref o), (4, .ref od), (5, .int (iI i))]) hx hb dL_law_869 hl (by decide) rfl (fun ls hl => ?_)
  refine lv_aload_n hx hb dL_law_871 rfl (lv_at hl 3 rfl) ?_
  refine lv_aload_n hx hb dL_law_872 rfl (lv_at hl 1 rfl) ?_
  refine lv_iload hx hb dL_law_873 (lv_at hl 6 rfl) ?_
  refine lv_iconst (v := iI 1) hx hb dL_law_875 rfl ?_
  refine z_iadd hx hb dL_law_876 ?_
  refine z_sld K hS (by omega) (by omega) dL_law_877 ?_
  refine lv_aload_n hx hb dL_law_878 rfl (lv_at hl 1 rfl) ?_
  refine lv_iload hx hb dL_law_879 (lv_at hl 6 rfl) ?_
  refine lv_iconst (v := iI 2) hx hb dL_law_881 rfl ?_
  refine z_iadd hx hb dL_law_882 ?_
  refine z_sld K hS (by omega) (by omega) dL_law_883 ?_
  refine lw_gi (As := [.int (iI (sc xs (i + 1))), .int (iI (sc xs (i + 2)))]) (rest := []) K (kX9_tableOf l D F cI cC ztr (fun _ => ztr_o) ztr_b G (sc xs (i + 1)) (sc xs (i + 2)) (sc_r xs _) (sc_r xs _) (rl_GI hR) (fX9_tableOf G (sc xs (i + 1)) (sc xs (i + 2))).1 (fX9_tableOf G (sc xs (i + 1)) (sc xs (i + 2))).2 rfl) (cwV 2 hts gL_law_X9_tableOf rfl rfl rfl (by decide +kernel) ⟨Nat.le_of_ble_eq_true rfl, Nat.le_of_ble_eq_true rfl⟩) hP hD hS rfl hl.1 rfl (Nat.le_of_ble_eq_true rfl) dL_law_884 ⟨by omega, by omega⟩ (fun H locs hP hD hS => ?_)
  refine lv_istore (lv' := [(7, .int (iI (fX9_tableOf G (sc xs (i + 1)) (sc xs (i + 2))).1)), (6, .int (iI ((fX9_tableOf G (sc xs (i + 1)) (sc xs (i + 2))).2 26 0))), (0, .ref b), (1, .ref (E 0)), (2, .ref (F 0)), (3, .ref o), (4, .ref od), (5, .int (iI i))]) hx hb dL_law_887 hl (by decide) rfl (fun ls hl => ?_)
  exact lw_tail (k := (fX8_tableOf C (sc xs (i + 1)) (sc xs (i + 2))).1) (c0 := cells) (s0 := slots) K hs.1 rfl (AnsL_r hs.2.1 (by decide)).1 (fun hz => by rw [hf' ((AnsL_r hs.2.1 (by decide)).2 hz)]; exact congrArg (fun z => (iI z).toInt64) (hs.2.2 ((AnsL_r hs.2.1 (by decide)).2 hz))) hP hD hS hl (by omega) (by omega) ⟨by omega, by omega⟩ kont (by decide) dL_law_889 dL_law_890 dL_law_893 dL_law_895 dL_law_900 dL_law_902 dL_law_905 dL_law_906 dL_law_907 dL_law_908 dL_law_910 dL_law_911 dL_law_912 dL_law_917
set_option maxHeartbeats 4000000 in
set_option maxRecDepth 100000 in
theorem lc_seat {p : Program} {l : Launch} {e : Env} {s : State} {m : MethodId} {args : Array Value} {below : List Frame} {meth : Method} {c : Code} {D : va_G} {cI cC cJ cDD : ClassId} {T : Nat → Nat} {b L : Nat} {xs : Nat → Int32} {E F : Nat → Nat} {o od : Nat} {Q : State → Prop} {i : Int} {cells slots : Nat} (K : LC p l s m args c D cI cC cJ cDD T b L xs) (h0 : 0 ≤ i) (h4 : i + 4 ≤ L) (hcr : cells + 2 ≤ room_1.cells ∧ slots + 12 ≤ room_1.slots) (kont : LK p l e s m args below meth c D cI cC cJ cDD E F o od b i Q cells slots) {C G : Mem} {f : Nat → Int64} {fd : Nat → UInt64} {H : Heap} {locs : List Loc} {ls : Array Slot} (hR : RelR C G) (hP : va_P D vwCl (VL E F cI cC cJ cDD o od C G f fd) H) (hD : va_D (lA s) (VL E F cI cC cJ cDD o od C G f fd)) (hS : va_S (lA s) s.heap H locs) (hl : lv_has ls 9 [(0, .ref b), (1, .ref (E 0)), (2, .ref (F 0)), (3, .ref o), (4, .ref od), (5, .int (iI i))]) : W p l e room_1 s m args below meth c H locs cells slots Q (F0 m 920 ls []) := by
  have hst := K.2.2.2.2.2.2.2.2.2.2.1
  obtain ⟨hx, hb, hml, hown, hts, -, -, hK, -, -, -, hL⟩ := id K
  have hs := s_seat hR (sc xs (i + 1)) (sc xs (i + 2))
  refine lv_aload_n hx hb dL_law_920 rfl (lv_at hl 1 rfl) ?_
  refine lv_aload_n hx hb dL_law_921 rfl (lv_at hl 0 rfl) ?_
  refine lv_iload hx hb dL_law_922 (lv_at hl 5 rfl) ?_
  refine lv_iconst (v := iI 1) hx hb dL_law_924 rfl ?_
  refine z_iadd hx hb dL_law_925 ?_
  refine z_sld K hS (by omega) (by omega) dL_law_926 ?_
  refine lv_aload_n hx hb dL_law_927 rfl (lv_at hl 0 rfl) ?_
  refine lv_iload hx hb dL_law_928 (lv_at hl 5 rfl) ?_
  refine lv_iconst (v := iI 2) hx hb dL_law_930 rfl ?_
  refine z_iadd hx hb dL_law_931 ?_
  refine z_sld K hS (by omega) (by omega) dL_law_932 ?_
  refine lv_aload_n hx hb dL_law_933 rfl (lv_at hl 3 rfl) ?_
  refine lw_hl (n := 2) (As := [.ref (E 0), .int (iI (sc xs (i + 1))), .int (iI (sc xs (i + 2))), .ref o]) (rest := []) K (hX_seat l hst D E cI cC cJ cDD T o C (sc xs (i + 1)) (sc xs (i + 2)) (sc_r xs _) (sc_r xs _) (rl_CI hR) (fX8_seat C (sc xs (i + 1)) (sc xs (i + 2))).1 (fX8_seat C (sc xs (i + 1)) (sc xs (i + 2))).2 rfl ((fX9_seat G (sc xs (i + 1)) (sc xs (i + 2))).2 26 0) hs.2.1) (vx_cwSW 4 hts gL_law_L_seat rfl rfl rfl (by decide +kernel) ⟨Nat.le_of_ble_eq_true rfl, Nat.le_of_ble_eq_true rfl⟩) hP hD hS rfl hl.1 rfl (Nat.le_of_ble_eq_true rfl) dL_law_934 ⟨by omega, by omega⟩ (fun f' H locs hf' hP hD hS => ?_)
  refine lv_istore (lv' := [(6, .int (iI ((fX9_seat G (sc xs (i + 1)) (sc xs (i + 2))).2 26 0))), (0, .ref b), (1, .ref (E 0)), (2, .ref (F 0)), (3, .ref o), (4, .ref od), (5, .int (iI i))]) hx hb dL_law_937 hl (by decide) rfl (fun ls hl => ?_)
  refine lv_aload_n hx hb dL_law_939 rfl (lv_at hl 3 rfl) ?_
  refine lv_aload_n hx hb dL_law_940 rfl (lv_at hl 1 rfl) ?_
  refine lv_iload hx hb dL_law_941 (lv_at hl 6 rfl) ?_
  refine lv_iconst (v := iI 1) hx hb dL_law_943 rfl ?_
  refine z_iadd hx hb dL_law_944 ?_
  refine z_sld K hS (by omega) (by omega) dL_law_945 ?_
  refine lv_aload_n hx hb dL_law_946 rfl (lv_at hl 1 rfl) ?_
  refine lv_iload hx hb dL_law_947 (lv_at hl 6 rfl) ?_
  refine lv_iconst (v := iI 2) hx hb dL_law_949 rfl ?_
  refine z_iadd hx hb dL_law_950 ?_
  refine z_sld K hS (by omega) (by omega) dL_law_951 ?_
  refine lw_gi (As := [.int (iI (sc xs (i + 1))), .int (iI (sc xs (i + 2)))]) (rest := []) K (kX9_seat l D F cI cC ztr (fun _ => ztr_o) ztr_b G (sc xs (i + 1)) (sc xs (i + 2)) (sc_r xs _) (sc_r xs _) (rl_GI hR) (fX9_seat G (sc xs (i + 1)) (sc xs (i + 2))).1 (fX9_seat G (sc xs (i + 1)) (sc xs (i + 2))).2 rfl) (cwV 2 hts gL_law_X9_seat rfl rfl rfl (by decide +kernel) ⟨Nat.le_of_ble_eq_true rfl, Nat.le_of_ble_eq_true rfl⟩) hP hD hS rfl hl.1 rfl (Nat.le_of_ble_eq_true rfl) dL_law_952 ⟨by omega, by omega⟩ (fun H locs hP hD hS => ?_)
  refine lv_istore (lv' := [(7, .int (iI (fX9_seat G (sc xs (i + 1)) (sc xs (i + 2))).1)), (6, .int (iI ((fX9_seat G (sc xs (i + 1)) (sc xs (i + 2))).2 26 0))), (0, .ref b), (1, .ref (E 0)), (2, .ref (F 0)), (3, .ref o), (4, .ref od), (5, .int (iI i))]) hx hb dL_law_955 hl (by decide) rfl (fun ls hl => ?_)
  exact lw_tail (k := (fX8_seat C (sc xs (i + 1)) (sc xs (i + 2))).1) (c0 := cells) (s0 := slots) K hs.1 rfl (AnsL_r hs.2.1 (by decide)).1 (fun hz => by rw [hf' ((AnsL_r hs.2.1 (by decide)).2 hz)]; exact congrArg (fun z => (iI z).toInt64) (hs.2.2 ((AnsL_r hs.2.1 (by decide)).2 hz))) hP hD hS hl (by omega) (by omega) ⟨by omega, by omega⟩ kont (by decide) dL_law_957 dL_law_958 dL_law_961 dL_law_963 dL_law_968 dL_law_970 dL_law_973 dL_law_974 dL_law_975 dL_law_976 dL_law_978 dL_law_979 dL_law_980 dL_law_985
set_option maxHeartbeats 4000000 in
set_option maxRecDepth 100000 in
theorem lc_said {p : Program} {l : Launch} {e : Env} {s : State} {m : MethodId} {args : Array Value} {below : List Frame} {meth : Method} {c : Code} {D : va_G} {cI cC cJ cDD : ClassId} {T : Nat → Nat} {b L : Nat} {xs : Nat → Int32} {E F : Nat → Nat} {o od : Nat} {Q : State → Prop} {i : Int} {cells slots : Nat} (K : LC p l s m args c D cI cC cJ cDD T b L xs) (h0 : 0 ≤ i) (h4 : i + 4 ≤ L) (hcr : cells + 2 ≤ room_1.cells ∧ slots + 12 ≤ room_1.slots) (kont : LK p l e s m args below meth c D cI cC cJ cDD E F o od b i Q cells slots) {C G : Mem} {f : Nat → Int64} {fd : Nat → UInt64} {H : Heap} {locs : List Loc} {ls : Array Slot} (hR : RelR C G) (hP : va_P D vwCl (VL E F cI cC cJ cDD o od C G f fd) H) (hD : va_D (lA s) (VL E F cI cC cJ cDD o od C G f fd)) (hS : va_S (lA s) s.heap H locs) (hl : lv_has ls 9 [(0, .ref b), (1, .ref (E 0)), (2, .ref (F 0)), (3, .ref o), (4, .ref od), (5, .int (iI i))]) : W p l e room_1 s m args below meth c H locs cells slots Q (F0 m 988 ls []) := by
  have hst := K.2.2.2.2.2.2.2.2.2.2.1
  obtain ⟨hx, hb, hml, hown, hts, -, -, hK, -, -, -, hL⟩ := id K
  have hs := s_said hR (sc xs (i + 1)) (sc xs (i + 2))
  refine lv_aload_n hx hb dL_law_988 rfl (lv_at hl 1 rfl) ?_
  refine lv_aload_n hx hb dL_law_989 rfl (lv_at hl 0 rfl) ?_
  refine lv_iload hx hb dL_law_990 (lv_at hl 5 rfl) ?_
  refine lv_iconst (v := iI 1) hx hb dL_law_992 rfl ?_
  refine z_iadd hx hb dL_law_993 ?_
  refine z_sld K hS (by omega) (by omega) dL_law_994 ?_
  refine lv_aload_n hx hb dL_law_995 rfl (lv_at hl 0 rfl) ?_
  refine lv_iload hx hb dL_law_996 (lv_at hl 5 rfl) ?_
  refine lv_iconst (v := iI 2) hx hb dL_law_998 rfl ?_
  refine z_iadd hx hb dL_law_999 ?_
  refine z_sld K hS (by omega) (by omega) dL_law_1000 ?_
  refine lv_aload_n hx hb dL_law_1001 rfl (lv_at hl 3 rfl) ?_
  refine lw_hl (n := 2) (As := [.ref (E 0), .int (iI (sc xs (i + 1))), .int (iI (sc xs (i + 2))), .ref o]) (rest := []) K (hX_said l hst D E cI cC cJ cDD T o C (sc xs (i + 1)) (sc xs (i + 2)) (sc_r xs _) (sc_r xs _) (rl_CI hR) (rl_SI hR) (fX8_said C (sc xs (i + 1)) (sc xs (i + 2))).1 (fX8_said C (sc xs (i + 1)) (sc xs (i + 2))).2.1 (fX8_said C (sc xs (i + 1)) (sc xs (i + 2))).2.2 rfl ((fX9_said G (sc xs (i + 1)) (sc xs (i + 2))).2 26 0) hs.2.1) (vx_cwSW 4 hts gL_law_L_said rfl rfl rfl (by decide +kernel) ⟨Nat.le_of_ble_eq_true rfl, Nat.le_of_ble_eq_true rfl⟩) hP hD hS rfl hl.1 rfl (Nat.le_of_ble_eq_true rfl) dL_law_1002 ⟨by omega, by omega⟩ (fun f' H locs hf' hP hD hS => ?_)
  refine lv_istore (lv' := [(6, .int (iI ((fX9_said G (sc xs (i + 1)) (sc xs (i + 2))).2 26 0))), (0, .ref b), (1, .ref (E 0)), (2, .ref (F 0)), (3, .ref o), (4, .ref od), (5, .int (iI i))]) hx hb dL_law_1005 hl (by decide) rfl (fun ls hl => ?_)
  refine lv_aload_n hx hb dL_law_1007 rfl (lv_at hl 3 rfl) ?_
  refine lv_aload_n hx hb dL_law_1008 rfl (lv_at hl 1 rfl) ?_
  refine lv_iload hx hb dL_law_1009 (lv_at hl 6 rfl) ?_
  refine lv_iconst (v := iI 1) hx hb dL_law_1011 rfl ?_
  refine z_iadd hx hb dL_law_1012 ?_
  refine z_sld K hS (by omega) (by omega) dL_law_1013 ?_
  refine lv_aload_n hx hb dL_law_1014 rfl (lv_at hl 1 rfl) ?_
  refine lv_iload hx hb dL_law_1015 (lv_at hl 6 rfl) ?_
  refine lv_iconst (v := iI 2) hx hb dL_law_1017 rfl ?_
  refine z_iadd hx hb dL_law_1018 ?_
  refine z_sld K hS (by omega) (by omega) dL_law_1019 ?_
  refine lw_gi (As := [.int (iI (sc xs (i + 1))), .int (iI (sc xs (i + 2)))]) (rest := []) K (kX9_said l D F cI cC ztr (fun _ => ztr_o) ztr_b G (sc xs (i + 1)) (sc xs (i + 2)) (sc_r xs _) (sc_r xs _) (rl_GI hR) (fX9_said G (sc xs (i + 1)) (sc xs (i + 2))).1 (fX9_said G (sc xs (i + 1)) (sc xs (i + 2))).2 rfl) (cwV 2 hts gL_law_X9_said rfl rfl rfl (by decide +kernel) ⟨Nat.le_of_ble_eq_true rfl, Nat.le_of_ble_eq_true rfl⟩) hP hD hS rfl hl.1 rfl (Nat.le_of_ble_eq_true rfl) dL_law_1020 ⟨by omega, by omega⟩ (fun H locs hP hD hS => ?_)
  refine lv_istore (lv' := [(7, .int (iI (fX9_said G (sc xs (i + 1)) (sc xs (i + 2))).1)), (6, .int (iI ((fX9_said G (sc xs (i + 1)) (sc xs (i + 2))).2 26 0))), (0, .ref b), (1, .ref (E 0)), (2, .ref (F 0)), (3, .ref o), (4, .ref od), (5, .int (iI i))]) hx hb dL_law_1023 hl (by decide) rfl (fun ls hl => ?_)
  exact lw_tail (k := (fX8_said C (sc xs (i + 1)) (sc xs (i + 2))).1) (c0 := cells) (s0 := slots) K hs.1 rfl (AnsL_r hs.2.1 (by decide)).1 (fun hz => by rw [hf' ((AnsL_r hs.2.1 (by decide)).2 hz)]; exact congrArg (fun z => (iI z).toInt64) (hs.2.2 ((AnsL_r hs.2.1 (by decide)).2 hz))) hP hD hS hl (by omega) (by omega) ⟨by omega, by omega⟩ kont (by decide) dL_law_1025 dL_law_1026 dL_law_1029 dL_law_1031 dL_law_1036 dL_law_1038 dL_law_1041 dL_law_1042 dL_law_1043 dL_law_1044 dL_law_1046 dL_law_1047 dL_law_1048 dL_law_1053
set_option maxHeartbeats 4000000 in
set_option maxRecDepth 100000 in
theorem lc_wrong {p : Program} {l : Launch} {e : Env} {s : State} {m : MethodId} {args : Array Value} {below : List Frame} {meth : Method} {c : Code} {D : va_G} {cI cC cJ cDD : ClassId} {T : Nat → Nat} {b L : Nat} {xs : Nat → Int32} {E F : Nat → Nat} {o od : Nat} {Q : State → Prop} {i : Int} {cells slots : Nat} (K : LC p l s m args c D cI cC cJ cDD T b L xs) (h0 : 0 ≤ i) (h4 : i + 4 ≤ L) (hcr : cells + 2 ≤ room_1.cells ∧ slots + 12 ≤ room_1.slots) (kont : LK p l e s m args below meth c D cI cC cJ cDD E F o od b i Q cells slots) {C G : Mem} {f : Nat → Int64} {fd : Nat → UInt64} {H : Heap} {locs : List Loc} {ls : Array Slot} (hR : RelR C G) (hP : va_P D vwCl (VL E F cI cC cJ cDD o od C G f fd) H) (hD : va_D (lA s) (VL E F cI cC cJ cDD o od C G f fd)) (hS : va_S (lA s) s.heap H locs) (hl : lv_has ls 9 [(0, .ref b), (1, .ref (E 0)), (2, .ref (F 0)), (3, .ref o), (4, .ref od), (5, .int (iI i))]) : W p l e room_1 s m args below meth c H locs cells slots Q (F0 m 1056 ls []) := by
  have hst := K.2.2.2.2.2.2.2.2.2.2.1
  obtain ⟨hx, hb, hml, hown, hts, -, -, hK, -, -, -, hL⟩ := id K
  have hs := s_wrong hR (sc xs (i + 1))
  refine lv_aload_n hx hb dL_law_1056 rfl (lv_at hl 1 rfl) ?_
  refine lv_aload_n hx hb dL_law_1057 rfl (lv_at hl 0 rfl) ?_
  refine lv_iload hx hb dL_law_1058 (lv_at hl 5 rfl) ?_
  refine lv_iconst (v := iI 1) hx hb dL_law_1060 rfl ?_
  refine z_iadd hx hb dL_law_1061 ?_
  refine z_sld K hS (by omega) (by omega) dL_law_1062 ?_
  refine lv_aload_n hx hb dL_law_1063 rfl (lv_at hl 3 rfl) ?_
  refine lw_hl (n := 1) (As := [.ref (E 0), .int (iI (sc xs (i + 1))), .ref o]) (rest := []) K (hX_wrong l hst D E cI cC cJ cDD T o C (sc xs (i + 1)) (sc_r xs _) (rl_CI hR) (rl_SI hR) (fX8_wrong C (sc xs (i + 1))).1 (fX8_wrong C (sc xs (i + 1))).2.1 (fX8_wrong C (sc xs (i + 1))).2.2 rfl ((fX9_wrong G (sc xs (i + 1))).2 26 0) hs.2.1) (vx_cwSW 3 hts gL_law_L_wrong rfl rfl rfl (by decide +kernel) ⟨Nat.le_of_ble_eq_true rfl, Nat.le_of_ble_eq_true rfl⟩) hP hD hS rfl hl.1 rfl (Nat.le_of_ble_eq_true rfl) dL_law_1064 ⟨by omega, by omega⟩ (fun f' H locs hf' hP hD hS => ?_)
  refine lv_istore (lv' := [(6, .int (iI ((fX9_wrong G (sc xs (i + 1))).2 26 0))), (0, .ref b), (1, .ref (E 0)), (2, .ref (F 0)), (3, .ref o), (4, .ref od), (5, .int (iI i))]) hx hb dL_law_1067 hl (by decide) rfl (fun ls hl => ?_)
  refine lv_aload_n hx hb dL_law_1069 rfl (lv_at hl 3 rfl) ?_
  refine lv_aload_n hx hb dL_law_1070 rfl (lv_at hl 1 rfl) ?_
  refine lv_iload hx hb dL_law_1071 (lv_at hl 6 rfl) ?_
  refine lv_iconst (v := iI 1) hx hb dL_law_1073 rfl ?_
  refine z_iadd hx hb dL_law_1074 ?_
  refine z_sld K hS (by omega) (by omega) dL_law_1075 ?_
  refine lw_gi (As := [.int (iI (sc xs (i + 1)))]) (rest := []) K (kX9_wrong l D F cI cC ztr (fun _ => ztr_o) ztr_b G (sc xs (i + 1)) (sc_r xs _) (rl_GI hR) (fX9_wrong G (sc xs (i + 1))).1 (fX9_wrong G (sc xs (i + 1))).2 rfl) (cwV 1 hts gL_law_X9_wrong rfl rfl rfl (by decide +kernel) ⟨Nat.le_of_ble_eq_true rfl, Nat.le_of_ble_eq_true rfl⟩) hP hD hS rfl hl.1 rfl (Nat.le_of_ble_eq_true rfl) dL_law_1076 ⟨by omega, by omega⟩ (fun H locs hP hD hS => ?_)
  refine lv_istore (lv' := [(7, .int (iI (fX9_wrong G (sc xs (i + 1))).1)), (6, .int (iI ((fX9_wrong G (sc xs (i + 1))).2 26 0))), (0, .ref b), (1, .ref (E 0)), (2, .ref (F 0)), (3, .ref o), (4, .ref od), (5, .int (iI i))]) hx hb dL_law_1079 hl (by decide) rfl (fun ls hl => ?_)
  exact lw_tail (k := (fX8_wrong C (sc xs (i + 1))).1) (c0 := cells) (s0 := slots) K hs.1 rfl (AnsL_r hs.2.1 (by decide)).1 (fun hz => by rw [hf' ((AnsL_r hs.2.1 (by decide)).2 hz)]; exact congrArg (fun z => (iI z).toInt64) (hs.2.2 ((AnsL_r hs.2.1 (by decide)).2 hz))) hP hD hS hl (by omega) (by omega) ⟨by omega, by omega⟩ kont (by decide) dL_law_1081 dL_law_1082 dL_law_1085 dL_law_1087 dL_law_1092 dL_law_1094 dL_law_1097 dL_law_1098 dL_law_1099 dL_law_1100 dL_law_1102 dL_law_1103 dL_law_1104 dL_law_1109
set_option maxHeartbeats 4000000 in
set_option maxRecDepth 100000 in
theorem lc_wrongAgain {p : Program} {l : Launch} {e : Env} {s : State} {m : MethodId} {args : Array Value} {below : List Frame} {meth : Method} {c : Code} {D : va_G} {cI cC cJ cDD : ClassId} {T : Nat → Nat} {b L : Nat} {xs : Nat → Int32} {E F : Nat → Nat} {o od : Nat} {Q : State → Prop} {i : Int} {cells slots : Nat} (K : LC p l s m args c D cI cC cJ cDD T b L xs) (h0 : 0 ≤ i) (h4 : i + 4 ≤ L) (hcr : cells + 2 ≤ room_1.cells ∧ slots + 12 ≤ room_1.slots) (kont : LK p l e s m args below meth c D cI cC cJ cDD E F o od b i Q cells slots) {C G : Mem} {f : Nat → Int64} {fd : Nat → UInt64} {H : Heap} {locs : List Loc} {ls : Array Slot} (hR : RelR C G) (hP : va_P D vwCl (VL E F cI cC cJ cDD o od C G f fd) H) (hD : va_D (lA s) (VL E F cI cC cJ cDD o od C G f fd)) (hS : va_S (lA s) s.heap H locs) (hl : lv_has ls 9 [(0, .ref b), (1, .ref (E 0)), (2, .ref (F 0)), (3, .ref o), (4, .ref od), (5, .int (iI i))]) : W p l e room_1 s m args below meth c H locs cells slots Q (F0 m 1112 ls []) := by
  have hst := K.2.2.2.2.2.2.2.2.2.2.1
  obtain ⟨hx, hb, hml, hown, hts, -, -, hK, -, -, -, hL⟩ := id K
  have hs := s_wrongAgain hR (sc xs (i + 1))
  refine lv_aload_n hx hb dL_law_1112 rfl (lv_at hl 1 rfl) ?_
  refine lv_aload_n hx hb dL_law_1113 rfl (lv_at hl 0 rfl) ?_
  refine lv_iload hx hb dL_law_1114 (lv_at hl 5 rfl) ?_
  refine lv_iconst (v := iI 1) hx hb dL_law_1116 rfl ?_
  refine z_iadd hx hb dL_law_1117 ?_
  refine z_sld K hS (by omega) (by omega) dL_law_1118 ?_
  refine lv_aload_n hx hb dL_law_1119 rfl (lv_at hl 3 rfl) ?_
  refine lw_hl (n := 1) (As := [.ref (E 0), .int (iI (sc xs (i + 1))), .ref o]) (rest := []) K (hX_wrongAgain l hst D E cI cC cJ cDD T o C (sc xs (i + 1)) (sc_r xs _) (rl_CI hR) (rl_SI hR) (fX8_wrongAgain C (sc xs (i + 1))).1 (fX8_wrongAgain C (sc xs (i + 1))).2.1 (fX8_wrongAgain C (sc xs (i + 1))).2.2 rfl ((fX9_wrongAgain G (sc xs (i + 1))).2 26 0) hs.2.1) (vx_cwSW 3 hts gL_law_L_wrongAgain rfl rfl rfl (by decide +kernel) ⟨Nat.le_of_ble_eq_true rfl, Nat.le_of_ble_eq_true rfl⟩) hP hD hS rfl hl.1 rfl (Nat.le_of_ble_eq_true rfl) dL_law_1120 ⟨by omega, by omega⟩ (fun f' H locs hf' hP hD hS => ?_)
  refine lv_istore (lv' := [(6, .int (iI ((fX9_wrongAgain G (sc xs (i + 1))).2 26 0))), (0, .ref b), (1, .ref (E 0)), (2, .ref (F 0)), (3, .ref o), (4, .ref od), (5, .int (iI i))]) hx hb dL_law_1123 hl (by decide) rfl (fun ls hl => ?_)
  refine lv_aload_n hx hb dL_law_1125 rfl (lv_at hl 3 rfl) ?_
  refine lv_aload_n hx hb dL_law_1126 rfl (lv_at hl 1 rfl) ?_
  refine lv_iload hx hb dL_law_1127 (lv_at hl 6 rfl) ?_
  refine lv_iconst (v := iI 1) hx hb dL_law_1129 rfl ?_
  refine z_iadd hx hb dL_law_1130 ?_
  refine z_sld K hS (by omega) (by omega) dL_law_1131 ?_
  refine lw_gi (As := [.int (iI (sc xs (i + 1)))]) (rest := []) K (kX9_wrongAgain l D F cI cC ztr (fun _ => ztr_o) ztr_b G (sc xs (i + 1)) (sc_r xs _) (rl_GI hR) (fX9_wrongAgain G (sc xs (i + 1))).1 (fX9_wrongAgain G (sc xs (i + 1))).2 rfl) (cwV 1 hts gL_law_X9_wrongAgain rfl rfl rfl (by decide +kernel) ⟨Nat.le_of_ble_eq_true rfl, Nat.le_of_ble_eq_true rfl⟩) hP hD hS rfl hl.1 rfl (Nat.le_of_ble_eq_true rfl) dL_law_1132 ⟨by omega, by omega⟩ (fun H locs hP hD hS => ?_)
  refine lv_istore (lv' := [(7, .int (iI (fX9_wrongAgain G (sc xs (i + 1))).1)), (6, .int (iI ((fX9_wrongAgain G (sc xs (i + 1))).2 26 0))), (0, .ref b), (1, .ref (E 0)), (2, .ref (F 0)), (3, .ref o), (4, .ref od), (5, .int (iI i))]) hx hb dL_law_1135 hl (by decide) rfl (fun ls hl => ?_)
  exact lw_tail (k := (fX8_wrongAgain C (sc xs (i + 1))).1) (c0 := cells) (s0 := slots) K hs.1 rfl (AnsL_r hs.2.1 (by decide)).1 (fun hz => by rw [hf' ((AnsL_r hs.2.1 (by decide)).2 hz)]; exact congrArg (fun z => (iI z).toInt64) (hs.2.2 ((AnsL_r hs.2.1 (by decide)).2 hz))) hP hD hS hl (by omega) (by omega) ⟨by omega, by omega⟩ kont (by decide) dL_law_1137 dL_law_1138 dL_law_1141 dL_law_1143 dL_law_1148 dL_law_1150 dL_law_1153 dL_law_1154 dL_law_1155 dL_law_1156 dL_law_1158 dL_law_1159 dL_law_1160 dL_law_1165
set_option maxHeartbeats 4000000 in
set_option maxRecDepth 100000 in
theorem lc_isRight {p : Program} {l : Launch} {e : Env} {s : State} {m : MethodId} {args : Array Value} {below : List Frame} {meth : Method} {c : Code} {D : va_G} {cI cC cJ cDD : ClassId} {T : Nat → Nat} {b L : Nat} {xs : Nat → Int32} {E F : Nat → Nat} {o od : Nat} {Q : State → Prop} {i : Int} {cells slots : Nat} (K : LC p l s m args c D cI cC cJ cDD T b L xs) (h0 : 0 ≤ i) (h4 : i + 4 ≤ L) (hcr : cells + 2 ≤ room_1.cells ∧ slots + 12 ≤ room_1.slots) (kont : LK p l e s m args below meth c D cI cC cJ cDD E F o od b i Q cells slots) {C G : Mem} {f : Nat → Int64} {fd : Nat → UInt64} {H : Heap} {locs : List Loc} {ls : Array Slot} (hR : RelR C G) (hP : va_P D vwCl (VL E F cI cC cJ cDD o od C G f fd) H) (hD : va_D (lA s) (VL E F cI cC cJ cDD o od C G f fd)) (hS : va_S (lA s) s.heap H locs) (hl : lv_has ls 9 [(0, .ref b), (1, .ref (E 0)), (2, .ref (F 0)), (3, .ref o), (4, .ref od), (5, .int (iI i))]) : W p l e room_1 s m args below meth c H locs cells slots Q (F0 m 1168 ls []) := by
  have hst := K.2.2.2.2.2.2.2.2.2.2.1
  obtain ⟨hx, hb, hml, hown, hts, -, -, hK, -, -, -, hL⟩ := id K
  have hs := s_isRight hR (sc xs (i + 1))
  refine lv_aload_n hx hb dL_law_1168 rfl (lv_at hl 1 rfl) ?_
  refine lv_aload_n hx hb dL_law_1169 rfl (lv_at hl 0 rfl) ?_
  refine lv_iload hx hb dL_law_1170 (lv_at hl 5 rfl) ?_
  refine lv_iconst (v := iI 1) hx hb dL_law_1172 rfl ?_
  refine z_iadd hx hb dL_law_1173 ?_
  refine z_sld K hS (by omega) (by omega) dL_law_1174 ?_
  refine lv_aload_n hx hb dL_law_1175 rfl (lv_at hl 3 rfl) ?_
  refine lw_hl (n := 1) (As := [.ref (E 0), .int (iI (sc xs (i + 1))), .ref o]) (rest := []) K (hX_isRight l hst D E cI cC cJ cDD T o C (sc xs (i + 1)) (sc_r xs _) (rl_CI hR) (rl_SI hR) (fX8_isRight C (sc xs (i + 1))).1 (fX8_isRight C (sc xs (i + 1))).2.1 (fX8_isRight C (sc xs (i + 1))).2.2 rfl ((fX9_isRight G (sc xs (i + 1))).2 26 0) hs.2.1) (vx_cwSW 3 hts gL_law_L_isRight rfl rfl rfl (by decide +kernel) ⟨Nat.le_of_ble_eq_true rfl, Nat.le_of_ble_eq_true rfl⟩) hP hD hS rfl hl.1 rfl (Nat.le_of_ble_eq_true rfl) dL_law_1176 ⟨by omega, by omega⟩ (fun f' H locs hf' hP hD hS => ?_)
  refine lv_istore (lv' := [(6, .int (iI ((fX9_isRight G (sc xs (i + 1))).2 26 0))), (0, .ref b), (1, .ref (E 0)), (2, .ref (F 0)), (3, .ref o), (4, .ref od), (5, .int (iI i))]) hx hb dL_law_1179 hl (by decide) rfl (fun ls hl => ?_)
  refine lv_aload_n hx hb dL_law_1181 rfl (lv_at hl 3 rfl) ?_
  refine lv_aload_n hx hb dL_law_1182 rfl (lv_at hl 1 rfl) ?_
  refine lv_iload hx hb dL_law_1183 (lv_at hl 6 rfl) ?_
  refine lv_iconst (v := iI 1) hx hb dL_law_1185 rfl ?_
  refine z_iadd hx hb dL_law_1186 ?_
  refine z_sld K hS (by omega) (by omega) dL_law_1187 ?_
  refine lw_gi (As := [.int (iI (sc xs (i + 1)))]) (rest := []) K (kX9_isRight l D F cI cC ztr (fun _ => ztr_o) ztr_b G (sc xs (i + 1)) (sc_r xs _) (rl_GI hR) (fX9_isRight G (sc xs (i + 1))).1 (fX9_isRight G (sc xs (i + 1))).2 rfl) (cwV 1 hts gL_law_X9_isRight rfl rfl rfl (by decide +kernel) ⟨Nat.le_of_ble_eq_true rfl, Nat.le_of_ble_eq_true rfl⟩) hP hD hS rfl hl.1 rfl (Nat.le_of_ble_eq_true rfl) dL_law_1188 ⟨by omega, by omega⟩ (fun H locs hP hD hS => ?_)
  refine lv_istore (lv' := [(7, .int (iI ((fX9_isRight G (sc xs (i + 1))).1))), (6, .int (iI ((fX9_isRight G (sc xs (i + 1))).2 26 0))), (0, .ref b), (1, .ref (E 0)), (2, .ref (F 0)), (3, .ref o), (4, .ref od), (5, .int (iI i))]) hx hb dL_law_1191 hl (by decide) rfl (fun ls hl => ?_)
  exact lw_tailB (c0 := cells) (s0 := slots) K hs.1 rfl (AnsL_r hs.2.1 (by decide)).1 (fun hz => by rw [hf' ((AnsL_r hs.2.1 (by decide)).2 hz), hs.2.2 ((AnsL_r hs.2.1 (by decide)).2 hz)]) hP hD hS hl (by omega) (by omega) ⟨by omega, by omega⟩ kont
set_option maxHeartbeats 4000000 in
set_option maxRecDepth 100000 in
theorem lc_phrases {p : Program} {l : Launch} {e : Env} {s : State} {m : MethodId} {args : Array Value} {below : List Frame} {meth : Method} {c : Code} {D : va_G} {cI cC cJ cDD : ClassId} {T : Nat → Nat} {b L : Nat} {xs : Nat → Int32} {E F : Nat → Nat} {o od : Nat} {Q : State → Prop} {i : Int} {cells slots : Nat} (K : LC p l s m args c D cI cC cJ cDD T b L xs) (h0 : 0 ≤ i) (h4 : i + 4 ≤ L) (hcr : cells + 2 ≤ room_1.cells ∧ slots + 12 ≤ room_1.slots) (kont : LK p l e s m args below meth c D cI cC cJ cDD E F o od b i Q cells slots) {C G : Mem} {f : Nat → Int64} {fd : Nat → UInt64} {H : Heap} {locs : List Loc} {ls : Array Slot} (hR : RelR C G) (hP : va_P D vwCl (VL E F cI cC cJ cDD o od C G f fd) H) (hD : va_D (lA s) (VL E F cI cC cJ cDD o od C G f fd)) (hS : va_S (lA s) s.heap H locs) (hl : lv_has ls 9 [(0, .ref b), (1, .ref (E 0)), (2, .ref (F 0)), (3, .ref o), (4, .ref od), (5, .int (iI i))]) : W p l e room_1 s m args below meth c H locs cells slots Q (F0 m 1231 ls []) := by
  have hst := K.2.2.2.2.2.2.2.2.2.2.1
  obtain ⟨hx, hb, hml, hown, hts, -, -, hK, -, -, -, hL⟩ := id K
  have hs := s_phrases hR (sc xs (i + 1))
  refine lv_aload_n hx hb dL_law_1231 rfl (lv_at hl 1 rfl) ?_
  refine lv_aload_n hx hb dL_law_1232 rfl (lv_at hl 0 rfl) ?_
  refine lv_iload hx hb dL_law_1233 (lv_at hl 5 rfl) ?_
  refine lv_iconst (v := iI 1) hx hb dL_law_1235 rfl ?_
  refine z_iadd hx hb dL_law_1236 ?_
  refine z_sld K hS (by omega) (by omega) dL_law_1237 ?_
  refine lv_aload_n hx hb dL_law_1238 rfl (lv_at hl 3 rfl) ?_
  refine lw_hl (n := 1) (As := [.ref (E 0), .int (iI (sc xs (i + 1))), .ref o]) (rest := []) K (hX_phrases l hst D E cI cC cJ cDD T o C (sc xs (i + 1)) (sc_r xs _) (rl_CI hR) (rl_SI hR) (fX8_phrases C (sc xs (i + 1))).1 (fX8_phrases C (sc xs (i + 1))).2.1 (fX8_phrases C (sc xs (i + 1))).2.2 rfl ((fX9_phrases G (sc xs (i + 1))).2 26 0) hs.2.1) (vx_cwSW 3 hts gL_law_L_phrases rfl rfl rfl (by decide +kernel) ⟨Nat.le_of_ble_eq_true rfl, Nat.le_of_ble_eq_true rfl⟩) hP hD hS rfl hl.1 rfl (Nat.le_of_ble_eq_true rfl) dL_law_1239 ⟨by omega, by omega⟩ (fun f' H locs hf' hP hD hS => ?_)
  refine lv_istore (lv' := [(6, .int (iI ((fX9_phrases G (sc xs (i + 1))).2 26 0))), (0, .ref b), (1, .ref (E 0)), (2, .ref (F 0)), (3, .ref o), (4, .ref od), (5, .int (iI i))]) hx hb dL_law_1242 hl (by decide) rfl (fun ls hl => ?_)
  refine lv_aload_n hx hb dL_law_1244 rfl (lv_at hl 3 rfl) ?_
  refine lv_aload_n hx hb dL_law_1245 rfl (lv_at hl 1 rfl) ?_
  refine lv_iload hx hb dL_law_1246 (lv_at hl 6 rfl) ?_
  refine lv_iconst (v := iI 1) hx hb dL_law_1248 rfl ?_
  refine z_iadd hx hb dL_law_1249 ?_
  refine z_sld K hS (by omega) (by omega) dL_law_1250 ?_
  refine lw_gi (As := [.int (iI (sc xs (i + 1)))]) (rest := []) K (kX9_phrases l D F cI cC ztr (fun _ => ztr_o) ztr_b G (sc xs (i + 1)) (sc_r xs _) (rl_GI hR) (fX9_phrases G (sc xs (i + 1))).1 (fX9_phrases G (sc xs (i + 1))).2 rfl) (cwV 1 hts gL_law_X9_phrases rfl rfl rfl (by decide +kernel) ⟨Nat.le_of_ble_eq_true rfl, Nat.le_of_ble_eq_true rfl⟩) hP hD hS rfl hl.1 rfl (Nat.le_of_ble_eq_true rfl) dL_law_1251 ⟨by omega, by omega⟩ (fun H locs hP hD hS => ?_)
  refine lv_istore (lv' := [(7, .int (iI (fX9_phrases G (sc xs (i + 1))).1)), (6, .int (iI ((fX9_phrases G (sc xs (i + 1))).2 26 0))), (0, .ref b), (1, .ref (E 0)), (2, .ref (F 0)), (3, .ref o), (4, .ref od), (5, .int (iI i))]) hx hb dL_law_1254 hl (by decide) rfl (fun ls hl => ?_)
  exact lw_tail (k := (fX8_phrases C (sc xs (i + 1))).1) (c0 := cells) (s0 := slots) K hs.1 rfl (AnsL_r hs.2.1 (by decide)).1 (fun hz => by rw [hf' ((AnsL_r hs.2.1 (by decide)).2 hz)]; exact congrArg (fun z => (iI z).toInt64) (hs.2.2 ((AnsL_r hs.2.1 (by decide)).2 hz))) hP hD hS hl (by omega) (by omega) ⟨by omega, by omega⟩ kont (by decide) dL_law_1256 dL_law_1257 dL_law_1260 dL_law_1262 dL_law_1267 dL_law_1269 dL_law_1272 dL_law_1273 dL_law_1274 dL_law_1275 dL_law_1277 dL_law_1278 dL_law_1279 dL_law_1284
set_option maxHeartbeats 4000000 in
set_option maxRecDepth 100000 in
theorem lc_phraseOf {p : Program} {l : Launch} {e : Env} {s : State} {m : MethodId} {args : Array Value} {below : List Frame} {meth : Method} {c : Code} {D : va_G} {cI cC cJ cDD : ClassId} {T : Nat → Nat} {b L : Nat} {xs : Nat → Int32} {E F : Nat → Nat} {o od : Nat} {Q : State → Prop} {i : Int} {cells slots : Nat} (K : LC p l s m args c D cI cC cJ cDD T b L xs) (h0 : 0 ≤ i) (h4 : i + 4 ≤ L) (hcr : cells + 2 ≤ room_1.cells ∧ slots + 12 ≤ room_1.slots) (kont : LK p l e s m args below meth c D cI cC cJ cDD E F o od b i Q cells slots) {C G : Mem} {f : Nat → Int64} {fd : Nat → UInt64} {H : Heap} {locs : List Loc} {ls : Array Slot} (hR : RelR C G) (hP : va_P D vwCl (VL E F cI cC cJ cDD o od C G f fd) H) (hD : va_D (lA s) (VL E F cI cC cJ cDD o od C G f fd)) (hS : va_S (lA s) s.heap H locs) (hl : lv_has ls 9 [(0, .ref b), (1, .ref (E 0)), (2, .ref (F 0)), (3, .ref o), (4, .ref od), (5, .int (iI i))]) : W p l e room_1 s m args below meth c H locs cells slots Q (F0 m 1287 ls []) := by
  have hst := K.2.2.2.2.2.2.2.2.2.2.1
  obtain ⟨hx, hb, hml, hown, hts, -, -, hK, -, -, -, hL⟩ := id K
  have hs := s_phraseOf hR (sc xs (i + 1)) (sc xs (i + 2)) (sc xs (i + 3))
  refine lv_aload_n hx hb dL_law_1287 rfl (lv_at hl 1 rfl) ?_
  refine lv_aload_n hx hb dL_law_1288 rfl (lv_at hl 0 rfl) ?_
  refine lv_iload hx hb dL_law_1289 (lv_at hl 5 rfl) ?_
  refine lv_iconst (v := iI 1) hx hb dL_law_1291 rfl ?_
  refine z_iadd hx hb dL_law_1292 ?_
  refine z_sld K hS (by omega) (by omega) dL_law_1293 ?_
  refine lv_aload_n hx hb dL_law_1294 rfl (lv_at hl 0 rfl) ?_
  refine lv_iload hx hb dL_law_1295 (lv_at hl 5 rfl) ?_
  refine lv_iconst (v := iI 2) hx hb dL_law_1297 rfl ?_
  refine z_iadd hx hb dL_law_1298 ?_
  refine z_sld K hS (by omega) (by omega) dL_law_1299 ?_
  refine lv_aload_n hx hb dL_law_1300 rfl (lv_at hl 0 rfl) ?_
  refine lv_iload hx hb dL_law_1301 (lv_at hl 5 rfl) ?_
  refine lv_iconst (v := iI 3) hx hb dL_law_1303 rfl ?_
  refine z_iadd hx hb dL_law_1304 ?_
  refine z_sld K hS (by omega) (by omega) dL_law_1305 ?_
  refine lv_aload_n hx hb dL_law_1306 rfl (lv_at hl 3 rfl) ?_
  refine lw_hl (n := 2) (As := [.ref (E 0), .int (iI (sc xs (i + 1))), .int (iI (sc xs (i + 2))), .int (iI (sc xs (i + 3))), .ref o]) (rest := []) K (hX_phraseOf l hst D E cI cC cJ cDD T o C (sc xs (i + 1)) (sc xs (i + 2)) (sc xs (i + 3)) (sc_r xs _) (sc_r xs _) (sc_r xs _) (rl_CI hR) (rl_SI hR) (fX8_phraseOf C (sc xs (i + 1)) (sc xs (i + 2)) (sc xs (i + 3))).1 (fX8_phraseOf C (sc xs (i + 1)) (sc xs (i + 2)) (sc xs (i + 3))).2.1 (fX8_phraseOf C (sc xs (i + 1)) (sc xs (i + 2)) (sc xs (i + 3))).2.2 rfl ((fX9_phraseOf G (sc xs (i + 1)) (sc xs (i + 2)) (sc xs (i + 3))).2 26 0) hs.2.1) (vx_cwSW 5 hts gL_law_L_phraseOf rfl rfl rfl (by decide +kernel) ⟨Nat.le_of_ble_eq_true rfl, Nat.le_of_ble_eq_true rfl⟩) hP hD hS rfl hl.1 rfl (Nat.le_of_ble_eq_true rfl) dL_law_1307 ⟨by omega, by omega⟩ (fun f' H locs hf' hP hD hS => ?_)
  refine lv_istore (lv' := [(6, .int (iI ((fX9_phraseOf G (sc xs (i + 1)) (sc xs (i + 2)) (sc xs (i + 3))).2 26 0))), (0, .ref b), (1, .ref (E 0)), (2, .ref (F 0)), (3, .ref o), (4, .ref od), (5, .int (iI i))]) hx hb dL_law_1310 hl (by decide) rfl (fun ls hl => ?_)
  refine lv_aload_n hx hb dL_law_1312 rfl (lv_at hl 3 rfl) ?_
  refine lv_aload_n hx hb dL_law_1313 rfl (lv_at hl 1 rfl) ?_
  refine lv_iload hx hb dL_law_1314 (lv_at hl 6 rfl) ?_
  refine lv_iconst (v := iI 1) hx hb dL_law_1316 rfl ?_
  refine z_iadd hx hb dL_law_1317 ?_
  refine z_sld K hS (by omega) (by omega) dL_law_1318 ?_
  refine lv_aload_n hx hb dL_law_1319 rfl (lv_at hl 1 rfl) ?_
  refine lv_iload hx hb dL_law_1320 (lv_at hl 6 rfl) ?_
  refine lv_iconst (v := iI 2) hx hb dL_law_1322 rfl ?_
  refine z_iadd hx hb dL_law_1323 ?_
  refine z_sld K hS (by omega) (by omega) dL_law_1324 ?_
  refine lv_aload_n hx hb dL_law_1325 rfl (lv_at hl 1 rfl) ?_
  refine lv_iload hx hb dL_law_1326 (lv_at hl 6 rfl) ?_
  refine lv_iconst (v := iI 3) hx hb dL_law_1328 rfl ?_
  refine z_iadd hx hb dL_law_1329 ?_
  refine z_sld K hS (by omega) (by omega) dL_law_1330 ?_
  refine lw_gi (As := [.int (iI (sc xs (i + 1))), .int (iI (sc xs (i + 2))), .int (iI (sc xs (i + 3)))]) (rest := []) K (kX9_phraseOf l D F cI cC ztr (fun _ => ztr_o) ztr_b G (sc xs (i + 1)) (sc xs (i + 2)) (sc xs (i + 3)) (sc_r xs _) (sc_r xs _) (sc_r xs _) (rl_GI hR) (fX9_phraseOf G (sc xs (i + 1)) (sc xs (i + 2)) (sc xs (i + 3))).1 (fX9_phraseOf G (sc xs (i + 1)) (sc xs (i + 2)) (sc xs (i + 3))).2 rfl) (cwV 3 hts gL_law_X9_phraseOf rfl rfl rfl (by decide +kernel) ⟨Nat.le_of_ble_eq_true rfl, Nat.le_of_ble_eq_true rfl⟩) hP hD hS rfl hl.1 rfl (Nat.le_of_ble_eq_true rfl) dL_law_1331 ⟨by omega, by omega⟩ (fun H locs hP hD hS => ?_)
  refine lv_istore (lv' := [(7, .int (iI (fX9_phraseOf G (sc xs (i + 1)) (sc xs (i + 2)) (sc xs (i + 3))).1)), (6, .int (iI ((fX9_phraseOf G (sc xs (i + 1)) (sc xs (i + 2)) (sc xs (i + 3))).2 26 0))), (0, .ref b), (1, .ref (E 0)), (2, .ref (F 0)), (3, .ref o), (4, .ref od), (5, .int (iI i))]) hx hb dL_law_1334 hl (by decide) rfl (fun ls hl => ?_)
  exact lw_tail (k := (fX8_phraseOf C (sc xs (i + 1)) (sc xs (i + 2)) (sc xs (i + 3))).1) (c0 := cells) (s0 := slots) K hs.1 rfl (AnsL_r hs.2.1 (by decide)).1 (fun hz => by rw [hf' ((AnsL_r hs.2.1 (by decide)).2 hz)]; exact congrArg (fun z => (iI z).toInt64) (hs.2.2 ((AnsL_r hs.2.1 (by decide)).2 hz))) hP hD hS hl (by omega) (by omega) ⟨by omega, by omega⟩ kont (by decide) dL_law_1336 dL_law_1337 dL_law_1340 dL_law_1342 dL_law_1347 dL_law_1349 dL_law_1352 dL_law_1353 dL_law_1354 dL_law_1355 dL_law_1357 dL_law_1358 dL_law_1359 dL_law_1364
set_option maxHeartbeats 4000000 in
set_option maxRecDepth 100000 in
theorem lc_next {p : Program} {l : Launch} {e : Env} {s : State} {m : MethodId} {args : Array Value} {below : List Frame} {meth : Method} {c : Code} {D : va_G} {cI cC cJ cDD : ClassId} {T : Nat → Nat} {b L : Nat} {xs : Nat → Int32} {E F : Nat → Nat} {o od : Nat} {Q : State → Prop} {i : Int} {cells slots : Nat} (K : LC p l s m args c D cI cC cJ cDD T b L xs) (h0 : 0 ≤ i) (h4 : i + 4 ≤ L) (hcr : cells + 2 ≤ room_1.cells ∧ slots + 12 ≤ room_1.slots) (kont : LK p l e s m args below meth c D cI cC cJ cDD E F o od b i Q cells slots) {C G : Mem} {f : Nat → Int64} {fd : Nat → UInt64} {H : Heap} {locs : List Loc} {ls : Array Slot} (hR : RelR C G) (hP : va_P D vwCl (VL E F cI cC cJ cDD o od C G f fd) H) (hD : va_D (lA s) (VL E F cI cC cJ cDD o od C G f fd)) (hS : va_S (lA s) s.heap H locs) (hl : lv_has ls 9 [(0, .ref b), (1, .ref (E 0)), (2, .ref (F 0)), (3, .ref o), (4, .ref od), (5, .int (iI i))]) : W p l e room_1 s m args below meth c H locs cells slots Q (F0 m 1367 ls []) := by
  have hst := K.2.2.2.2.2.2.2.2.2.2.1
  obtain ⟨hx, hb, hml, hown, hts, -, -, hK, -, -, -, hL⟩ := id K
  have hs := s_next hR (sc xs (i + 1))
  refine lv_aload_n hx hb dL_law_1367 rfl (lv_at hl 1 rfl) ?_
  refine lv_aload_n hx hb dL_law_1368 rfl (lv_at hl 0 rfl) ?_
  refine lv_iload hx hb dL_law_1369 (lv_at hl 5 rfl) ?_
  refine lv_iconst (v := iI 1) hx hb dL_law_1371 rfl ?_
  refine z_iadd hx hb dL_law_1372 ?_
  refine z_sld K hS (by omega) (by omega) dL_law_1373 ?_
  refine lv_aload_n hx hb dL_law_1374 rfl (lv_at hl 3 rfl) ?_
  refine lw_hl (n := 1) (As := [.ref (E 0), .int (iI (sc xs (i + 1))), .ref o]) (rest := []) K (hX_next l hst D E cI cC cJ cDD T o C (sc xs (i + 1)) (sc_r xs _) (rl_CI hR) (rl_SI hR) (fX8_next C (sc xs (i + 1))).1 (fX8_next C (sc xs (i + 1))).2.1 (fX8_next C (sc xs (i + 1))).2.2 rfl ((fX9_next G (sc xs (i + 1))).2 26 0) hs.2.1) (vx_cwSW 3 hts gL_law_L_next rfl rfl rfl (by decide +kernel) ⟨Nat.le_of_ble_eq_true rfl, Nat.le_of_ble_eq_true rfl⟩) hP hD hS rfl hl.1 rfl (Nat.le_of_ble_eq_true rfl) dL_law_1375 ⟨by omega, by omega⟩ (fun f' H locs hf' hP hD hS => ?_)
  refine lv_istore (lv' := [(6, .int (iI ((fX9_next G (sc xs (i + 1))).2 26 0))), (0, .ref b), (1, .ref (E 0)), (2, .ref (F 0)), (3, .ref o), (4, .ref od), (5, .int (iI i))]) hx hb dL_law_1378 hl (by decide) rfl (fun ls hl => ?_)
  refine lv_aload_n hx hb dL_law_1380 rfl (lv_at hl 3 rfl) ?_
  refine lv_aload_n hx hb dL_law_1381 rfl (lv_at hl 1 rfl) ?_
  refine lv_iload hx hb dL_law_1382 (lv_at hl 6 rfl) ?_
  refine lv_iconst (v := iI 1) hx hb dL_law_1384 rfl ?_
  refine z_iadd hx hb dL_law_1385 ?_
  refine z_sld K hS (by omega) (by omega) dL_law_1386 ?_
  refine lw_gi (As := [.int (iI (sc xs (i + 1)))]) (rest := []) K (kX9_next l D F cI cC ztr (fun _ => ztr_o) ztr_b G (sc xs (i + 1)) (sc_r xs _) (rl_GI hR) (fX9_next G (sc xs (i + 1))).1 (fX9_next G (sc xs (i + 1))).2 rfl) (cwV 1 hts gL_law_X9_next rfl rfl rfl (by decide +kernel) ⟨Nat.le_of_ble_eq_true rfl, Nat.le_of_ble_eq_true rfl⟩) hP hD hS rfl hl.1 rfl (Nat.le_of_ble_eq_true rfl) dL_law_1387 ⟨by omega, by omega⟩ (fun H locs hP hD hS => ?_)
  refine lv_istore (lv' := [(7, .int (iI (fX9_next G (sc xs (i + 1))).1)), (6, .int (iI ((fX9_next G (sc xs (i + 1))).2 26 0))), (0, .ref b), (1, .ref (E 0)), (2, .ref (F 0)), (3, .ref o), (4, .ref od), (5, .int (iI i))]) hx hb dL_law_1390 hl (by decide) rfl (fun ls hl => ?_)
  exact lw_tail (k := (fX8_next C (sc xs (i + 1))).1) (c0 := cells) (s0 := slots) K hs.1 rfl (AnsL_r hs.2.1 (by decide)).1 (fun hz => by rw [hf' ((AnsL_r hs.2.1 (by decide)).2 hz)]; exact congrArg (fun z => (iI z).toInt64) (hs.2.2 ((AnsL_r hs.2.1 (by decide)).2 hz))) hP hD hS hl (by omega) (by omega) ⟨by omega, by omega⟩ kont (by decide) dL_law_1392 dL_law_1393 dL_law_1396 dL_law_1398 dL_law_1403 dL_law_1405 dL_law_1408 dL_law_1409 dL_law_1410 dL_law_1411 dL_law_1413 dL_law_1414 dL_law_1415 dL_law_1420
set_option maxHeartbeats 4000000 in
set_option maxRecDepth 100000 in
theorem lc_fewest {p : Program} {l : Launch} {e : Env} {s : State} {m : MethodId} {args : Array Value} {below : List Frame} {meth : Method} {c : Code} {D : va_G} {cI cC cJ cDD : ClassId} {T : Nat → Nat} {b L : Nat} {xs : Nat → Int32} {E F : Nat → Nat} {o od : Nat} {Q : State → Prop} {i : Int} {cells slots : Nat} (K : LC p l s m args c D cI cC cJ cDD T b L xs) (h0 : 0 ≤ i) (h4 : i + 4 ≤ L) (hcr : cells + 2 ≤ room_1.cells ∧ slots + 12 ≤ room_1.slots) (kont : LK p l e s m args below meth c D cI cC cJ cDD E F o od b i Q cells slots) {C G : Mem} {f : Nat → Int64} {fd : Nat → UInt64} {H : Heap} {locs : List Loc} {ls : Array Slot} (hR : RelR C G) (hP : va_P D vwCl (VL E F cI cC cJ cDD o od C G f fd) H) (hD : va_D (lA s) (VL E F cI cC cJ cDD o od C G f fd)) (hS : va_S (lA s) s.heap H locs) (hl : lv_has ls 9 [(0, .ref b), (1, .ref (E 0)), (2, .ref (F 0)), (3, .ref o), (4, .ref od), (5, .int (iI i))]) : W p l e room_1 s m args below meth c H locs cells slots Q (F0 m 1423 ls []) := by
  have hst := K.2.2.2.2.2.2.2.2.2.2.1
  obtain ⟨hx, hb, hml, hown, hts, -, -, hK, -, -, -, hL⟩ := id K
  have hs := s_fewest hR (sc xs (i + 1))
  refine lv_aload_n hx hb dL_law_1423 rfl (lv_at hl 1 rfl) ?_
  refine lv_aload_n hx hb dL_law_1424 rfl (lv_at hl 0 rfl) ?_
  refine lv_iload hx hb dL_law_1425 (lv_at hl 5 rfl) ?_
  refine lv_iconst (v := iI 1) hx hb dL_law_1427 rfl ?_
  refine z_iadd hx hb dL_law_1428 ?_
  refine z_sld K hS (by omega) (by omega) dL_law_1429 ?_
  refine lv_aload_n hx hb dL_law_1430 rfl (lv_at hl 3 rfl) ?_
  refine lw_hl (n := 2) (As := [.ref (E 0), .int (iI (sc xs (i + 1))), .ref o]) (rest := []) K (hX_fewest l hst D E cI cC cJ cDD T o C (sc xs (i + 1)) (sc_r xs _) (rl_CI hR) (rl_SI hR) (fX8_fewest C (sc xs (i + 1))).1 (fX8_fewest C (sc xs (i + 1))).2.1 (fX8_fewest C (sc xs (i + 1))).2.2 rfl ((fX9_fewest G (sc xs (i + 1))).2 26 0) hs.2.1) (vx_cwSW 3 hts gL_law_L_fewest rfl rfl rfl (by decide +kernel) ⟨Nat.le_of_ble_eq_true rfl, Nat.le_of_ble_eq_true rfl⟩) hP hD hS rfl hl.1 rfl (Nat.le_of_ble_eq_true rfl) dL_law_1431 ⟨by omega, by omega⟩ (fun f' H locs hf' hP hD hS => ?_)
  refine lv_istore (lv' := [(6, .int (iI ((fX9_fewest G (sc xs (i + 1))).2 26 0))), (0, .ref b), (1, .ref (E 0)), (2, .ref (F 0)), (3, .ref o), (4, .ref od), (5, .int (iI i))]) hx hb dL_law_1434 hl (by decide) rfl (fun ls hl => ?_)
  refine lv_aload_n hx hb dL_law_1436 rfl (lv_at hl 3 rfl) ?_
  refine lv_aload_n hx hb dL_law_1437 rfl (lv_at hl 1 rfl) ?_
  refine lv_iload hx hb dL_law_1438 (lv_at hl 6 rfl) ?_
  refine lv_iconst (v := iI 1) hx hb dL_law_1440 rfl ?_
  refine z_iadd hx hb dL_law_1441 ?_
  refine z_sld K hS (by omega) (by omega) dL_law_1442 ?_
  refine lw_gi (As := [.int (iI (sc xs (i + 1)))]) (rest := []) K (kX9_fewest l D F cI cC ztr (fun _ => ztr_o) ztr_b G (sc xs (i + 1)) (sc_r xs _) (rl_GI hR) (fX9_fewest G (sc xs (i + 1))).1 (fX9_fewest G (sc xs (i + 1))).2 rfl) (cwV 1 hts gL_law_X9_fewest rfl rfl rfl (by decide +kernel) ⟨Nat.le_of_ble_eq_true rfl, Nat.le_of_ble_eq_true rfl⟩) hP hD hS rfl hl.1 rfl (Nat.le_of_ble_eq_true rfl) dL_law_1443 ⟨by omega, by omega⟩ (fun H locs hP hD hS => ?_)
  refine lv_istore (lv' := [(7, .int (iI (fX9_fewest G (sc xs (i + 1))).1)), (6, .int (iI ((fX9_fewest G (sc xs (i + 1))).2 26 0))), (0, .ref b), (1, .ref (E 0)), (2, .ref (F 0)), (3, .ref o), (4, .ref od), (5, .int (iI i))]) hx hb dL_law_1446 hl (by decide) rfl (fun ls hl => ?_)
  exact lw_tail (k := (fX8_fewest C (sc xs (i + 1))).1) (c0 := cells) (s0 := slots) K hs.1 rfl (AnsL_r hs.2.1 (by decide)).1 (fun hz => by rw [hf' ((AnsL_r hs.2.1 (by decide)).2 hz)]; exact congrArg (fun z => (iI z).toInt64) (hs.2.2 ((AnsL_r hs.2.1 (by decide)).2 hz))) hP hD hS hl (by omega) (by omega) ⟨by omega, by omega⟩ kont (by decide) dL_law_1448 dL_law_1449 dL_law_1452 dL_law_1454 dL_law_1459 dL_law_1461 dL_law_1464 dL_law_1465 dL_law_1466 dL_law_1467 dL_law_1469 dL_law_1470 dL_law_1471 dL_law_1476
