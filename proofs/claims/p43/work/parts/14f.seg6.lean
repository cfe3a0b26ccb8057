/-! THE LAW, walked: two commands of which the second is refused (written by mk14e.py). -/
set_option maxRecDepth 100000 in
theorem bD_k0 : ∀ t : Fin 3, 0 ≤ ((fun _ _ => 0) : Mem) 0 0 ∧ ((fun _ _ => 0) : Mem) 0 0 + ((sCs 1).length : Nat) ≤ (16 : Nat) := by decide +kernel
set_option maxRecDepth 100000 in
theorem bD_k1 : ∀ t : Fin 3, (0 ≤ (t.val : Int) ∧ (t.val : Int) ≤ 9) ∧ 0 ≤ (fB_app ((fun _ _ => 0) : Mem) (sCs 1).length (gT (sCs 1))) 0 0 ∧ (fB_app ((fun _ _ => 0) : Mem) (sCs 1).length (gT (sCs 1))) 0 0 + 1 ≤ (16 : Nat) := by decide +kernel
set_option maxRecDepth 100000 in
theorem bD_k2 : ∀ t : Fin 3, 0 ≤ (fB_int (fB_app ((fun _ _ => 0) : Mem) (sCs 1).length (gT (sCs 1))) (t.val : Int)) 0 0 ∧ (fB_int (fB_app ((fun _ _ => 0) : Mem) (sCs 1).length (gT (sCs 1))) (t.val : Int)) 0 0 + ((sCs 5).length : Nat) ≤ (16 : Nat) := by decide +kernel
set_option maxRecDepth 100000 in
theorem bD_k3 : ∀ t : Fin 3, (0 ≤ (t.val : Int) ∧ (t.val : Int) ≤ 9) ∧ 0 ≤ (fB_app (fB_int (fB_app ((fun _ _ => 0) : Mem) (sCs 1).length (gT (sCs 1))) (t.val : Int)) (sCs 5).length (gT (sCs 5))) 0 0 ∧ (fB_app (fB_int (fB_app ((fun _ _ => 0) : Mem) (sCs 1).length (gT (sCs 1))) (t.val : Int)) (sCs 5).length (gT (sCs 5))) 0 0 + 1 ≤ (16 : Nat) := by decide +kernel
set_option maxRecDepth 100000 in
theorem bD_t : ∀ t : Fin 3, (fB_int (fB_app (fB_int (fB_app ((fun _ _ => 0) : Mem) (sCs 1).length (gT (sCs 1))) (t.val : Int)) (sCs 5).length (gT (sCs 5))) (t.val : Int)) 0 0 = (15 : Nat) ∧ (∀ j : Fin 16, 0 ≤ (fB_int (fB_app (fB_int (fB_app ((fun _ _ => 0) : Mem) (sCs 1).length (gT (sCs 1))) (t.val : Int)) (sCs 5).length (gT (sCs 5))) (t.val : Int)) 1 (j.val : Int) ∧ (fB_int (fB_app (fB_int (fB_app ((fun _ _ => 0) : Mem) (sCs 1).length (gT (sCs 1))) (t.val : Int)) (sCs 5).length (gT (sCs 5))) (t.val : Int)) 1 (j.val : Int) < 128) ∧ (∀ j : Fin 15, (fB_int (fB_app (fB_int (fB_app ((fun _ _ => 0) : Mem) (sCs 1).length (gT (sCs 1))) (t.val : Int)) (sCs 5).length (gT (sCs 5))) (t.val : Int)) 1 (j.val : Int) = (tD (t.val : Int)) (j.val : Int)) ∧ (∀ j : Fin 15, 0 ≤ (tD (t.val : Int)) (j.val : Int) ∧ (tD (t.val : Int)) (j.val : Int) < 128) := by decide +kernel
theorem zmD : ∀ t : Fin 3, ¬ zmax (64 + (t.val : Int)) 0 = 0 ∧ zmax (64 + (t.val : Int)) 0 / 16 = 4 ∧ zmax (64 + (t.val : Int)) 0 % 16 = (t.val : Int) ∧ (0 ≤ zmax (64 + (t.val : Int)) 0 ∧ zmax (64 + (t.val : Int)) 0 ≤ 1000) := by decide +kernel
theorem zmE : ¬ zmax 80 0 = 0 ∧ zmax 80 0 / 16 = 5 ∧ zmax 80 0 % 16 = 0 ∧ (0 ≤ zmax 80 0 ∧ zmax 80 0 ≤ 1000) := by decide +kernel
section
variable {p : Program} {l : Launch} {e : Env} {s : State} {m : MethodId} {args : Array Value} {below : List Frame} {meth : Method} {c : Code} {H : Heap} {locs : List Loc} {cells slots : Nat} {Q : State → Prop}
variable {ls : Array Slot} {D : va_G} {cI cC cB : ClassId} {T S Tt : Nat → Nat} {tO b L : Nat} {xs : Nat → Int32} {E F : Nat → Nat} {B : Mem}
set_option maxRecDepth 100000 in
set_option maxHeartbeats 4000000 in
theorem sg6A (K : LC p l s m args c D cI cC cB T b L xs S Tt tO) (hB : BI B) (h1 : 1 ≤ B 0 77) {k3 : Fin 3} (hu : fX6_tableUnder B 0 = -1) (hto : fX6_laidOn B (k3.val : Int) < 6) {X Y : Mem} (hX : XI B X) (hP : va_P D vwCl (W2 E F cI cC X Y) H) (hD : va_D (lA s) (W2 E F cI cC X Y)) (hS : va_S (lA s) s.heap H locs) (hl : lv_has ls 12 [(6, .int (iI (k3.val : Int))), (5, .int (iI (fX6_tableUnder B 0))), (4, .int (iI (fL_state B).1)), (3, .int (iI (B 0 77))), (2, .ref (F 0)), (1, .ref (E 0)), (0, .ref b)]) (hc : cells + 600 ≤ 600390) (hs : slots + 6 * 600 ≤ 7289640)
    (next : ∀ (X2 Y : Mem) (H : Heap) (locs : List Loc) (ls : Array Slot), XI B X2 → va_P D vwCl (W2 E F cI cC X2 Y) H → va_D (lA s) (W2 E F cI cC X2 Y) → va_S (lA s) s.heap H locs → lv_has ls 12 [(6, .int (iI (k3.val : Int))), (5, .int (iI (fX6_tableUnder B 0))), (4, .int (iI (fL_state B).1)), (3, .int (iI (B 0 77))), (2, .ref (F 0)), (1, .ref (E 0)), (0, .ref b)] → W p l e room_1 s m args below meth c H locs (cells + 600) (slots + 6 * 600) Q (F0 m 405 ls [])) : W p l e room_1 s m args below meth c H locs cells slots Q (F0 m 294 ls []) := by
  have hx := K.hx
  have hb := K.hb
  have hk3 : 0 ≤ (k3.val : Int) ∧ (k3.val : Int) < 3 := ⟨by omega, by omega⟩
  have hT0 : -1 ≤ fX6_tableUnder B 0 ∧ fX6_tableUnder B 0 ≤ 2 := tu_r 0
  obtain ⟨g1, g2, g3, g4, g5⟩ := caseA hB h1 hu hk3 hto
  refine lv_aload_n hx hb dL_law_294 rfl (lv_at hl 5 rfl) ?_
  refine lv_iload hx hb dL_law_295 (lv_at hl 1 rfl) ?_
  refine z_if_ge hx hb dL_law_297 (tgt := 333) rfl ⟨by omega, by omega⟩ (fun hbr => absurd hbr (by omega)) (fun hbr => ?_)
  refine w_sbnew (rest := [.ref (E 0)]) K hP hD hS hl.1 (Nat.le_of_ble_eq_true rfl) dL_law_300 dL_law_303 dL_law_304 ⟨by show _ + _ ≤ 600390; omega, by show _ + _ ≤ 7289640; omega⟩ (fun h9 a9 H locs hP hD hS => ?_)
  refine w_ldc K (K.str 1 (by decide)).1 dL_law_307 ?_
  refine w_app (rest := [.ref (E 0)]) K (K.str 1 (by decide)).2 (sG (by decide)) (bD_k0 k3) (by decide) hP hD hS hl.1 (Nat.le_of_ble_eq_true rfl) dL_law_309 ⟨by omega, by omega⟩ (fun H locs hP hD hS => ?_)
  refine lv_iload hx hb dL_law_312 (lv_at hl 0 rfl) ?_
  refine w_int (rest := [.ref (E 0)]) K (bD_k1 k3).1 (bD_k1 k3).2 (by decide) hP hD hS hl.1 (Nat.le_of_ble_eq_true rfl) dL_law_314 ⟨by omega, by omega⟩ (fun H locs hP hD hS => ?_)
  refine w_ldc K (K.str 5 (by decide)).1 dL_law_317 ?_
  refine w_app (rest := [.ref (E 0)]) K (K.str 5 (by decide)).2 (sG (by decide)) (bD_k2 k3) (by decide) hP hD hS hl.1 (Nat.le_of_ble_eq_true rfl) dL_law_319 ⟨by omega, by omega⟩ (fun H locs hP hD hS => ?_)
  refine lv_iload hx hb dL_law_322 (lv_at hl 0 rfl) ?_
  refine w_int (rest := [.ref (E 0)]) K (bD_k3 k3).1 (bD_k3 k3).2 (by decide) hP hD hS hl.1 (Nat.le_of_ble_eq_true rfl) dL_law_324 ⟨by omega, by omega⟩ (fun H locs hP hD hS => ?_)
  refine w_tos (rest := [.ref (E 0)]) (n := 15) K (bD_t k3).1 (by decide) (by decide) (gen_r (bD_t k3).2.1) hP hD hS hl.1 (Nat.le_of_ble_eq_true rfl) dL_law_327 ⟨by show _ + _ ≤ 600390; omega, by show _ + _ ≤ 7289640; omega⟩ (fun u9 v9 τ H locs hτ hfz hP hD hS => ?_)
  have hτg : ∀ j : Int, 0 ≤ j → j < (15 : Nat) → τ j = (tD (k3.val : Int)) j := fun j p q => (hτ j p q).trans (gen_x (bD_t k3).2.2.1 j p q)
  have hgr : ∀ j : Int, 0 ≤ j → j < (15 : Nat) → 0 ≤ (tD (k3.val : Int)) j ∧ (tD (k3.val : Int)) j < 128 := gen_r (bD_t k3).2.2.2
  have hτr : ∀ j : Int, 0 ≤ j → j < (15 : Nat) → 0 ≤ τ j ∧ τ j < 256 := fun j p q => by rw [hτg j p q]; have := hgr j p q; exact ⟨this.1, by omega⟩
  have hgr2 : ∀ j : Int, 0 ≤ j → j < (15 : Nat) → 0 ≤ (tD (k3.val : Int)) j ∧ (tD (k3.val : Int)) j < 256 := fun j p q => by have := hgr j p q; exact ⟨this.1, by omega⟩
  refine lv_goto (tgt := 335) hx hb dL_law_330 (by decide) ?_
  have hXp := XI_put hX 15 (tD (k3.val : Int)) (by decide) hgr2
  refine wx_S (As := [.ref (E 0), .ref u9]) (rest := []) K (kL_put l K.hst D E cI cC T X u9 v9 15 τ (by decide) hτr hX.1.2.2.1 (by rw [hX.2.1]; decide)) (va_cwS 2 K.hts gL_law_L_put rfl rfl rfl (by decide +kernel) ⟨(Nat.le_of_ble_eq_true rfl), (Nat.le_of_ble_eq_true rfl)⟩) (ZS_bl E cI cC T u9 v9 15 τ) (zs_x K hD hS (fun U hU hW => (hfz U hU hW).1)) hP hD hS rfl hl.1 rfl (Nat.le_of_ble_eq_true rfl) dL_law_335 ⟨by show _ + _ ≤ 600390; omega, by show _ + _ ≤ 7289640; omega⟩ (fun H locs hP hD hS => ?_)
  rw [put_x hτg X] at hP hD
  obtain ⟨er, p1, ha, hb1, hd, hl1, p2, ha2, hb2, hd2⟩ := pD k3
  obtain ⟨N, rE, hN, h18, h19⟩ := x_no2 hX 15 (tD (k3.val : Int)) (by decide) hgr2 er p1 (by decide) ha hb1 hd hl1 p2 (by decide) ha2 hb2 hd2 g1 g5 (by omega)
  obtain ⟨z1, z2, z3, z4⟩ := zmD k3
  have hr18 : 0 ≤ N 18 0 ∧ N 18 0 ≤ 1000 := by rw [h18]; decide
  have hr19 : 0 ≤ N 19 0 ∧ N 19 0 ≤ 1000 := by rw [h19]; exact z4
  refine lv_aload_n hx hb dL_law_338 rfl (lv_at hl 5 rfl) ?_
  refine wx_SW (As := [.ref (E 0)]) (rest := []) K (kL_runs l K.hst D E cI cC T (fL_put X 15 (tD (k3.val : Int))) hXp.1.1 hXp.1.2.1 hXp.1.2.2.1 hXp.1.2.2.2.1) (vx_cwSW 1 K.hts gL_law_L_runs rfl rfl rfl (by decide +kernel) ⟨(Nat.le_of_ble_eq_true rfl), (Nat.le_of_ble_eq_true rfl)⟩) (ZL_bl E cI cC T) (lz_L K (w2_x hD) hS) hP hD hS rfl hl.1 rfl (Nat.le_of_ble_eq_true rfl) dL_law_339 ⟨by show _ + _ ≤ 600390; omega, by show _ + _ ≤ 7289640; omega⟩ (fun H locs hP hD hS => ?_)
  rw [(run_no rE).1]
  rw [(run_no rE).2] at hP hD
  refine z_bipush hx hb dL_law_342 (by decide +kernel) ?_
  refine w_ne_same K (a := (-2)) (b2 := (-2)) (rfl) dL_law_344 (tgt := 403) rfl ?_
  refine lv_aload_n hx hb dL_law_347 rfl (lv_at hl 5 rfl) ?_
  refine z_iconst hx hb dL_law_348 ?_
  refine z_iconst hx hb dL_law_349 ?_
  refine wx_V (As := [.int (iI 0), .int (iI 1)]) (rest := []) K (kX8_refusal l K.hst D E cI cC T N 0 1 (by decide) (by decide) hr18 hr19 0 1 ((ref_ft h18 (by decide)).trans (by rfl))) (cwV 2 K.hts gL_law_X8_refusal rfl rfl rfl (by decide +kernel) ⟨(Nat.le_of_ble_eq_true rfl), (Nat.le_of_ble_eq_true rfl)⟩) hP hD hS rfl hl.1 rfl (Nat.le_of_ble_eq_true rfl) dL_law_350 ⟨by show _ + _ ≤ 600390; omega, by show _ + _ ≤ 7289640; omega⟩ (fun H locs hP hD hS => ?_)
  refine z_iconst hx hb dL_law_353 ?_
  refine w_ne_same K (a := 1) (b2 := 1) (rfl) dL_law_354 (tgt := 403) rfl ?_
  refine lv_aload_n hx hb dL_law_357 rfl (lv_at hl 5 rfl) ?_
  refine wx_SW (As := [.ref (E 0)]) (rest := []) K (kL_cause l K.hst D E cI cC T N hr18 hr19) (vx_cwSW 1 K.hts gL_law_L_cause rfl rfl rfl (by decide +kernel) ⟨(Nat.le_of_ble_eq_true rfl), (Nat.le_of_ble_eq_true rfl)⟩) (ZL_bl E cI cC T) (lz_L K (w2_x hD) hS) hP hD hS rfl hl.1 rfl (Nat.le_of_ble_eq_true rfl) dL_law_358 ⟨by show _ + _ ≤ 600390; omega, by show _ + _ ≤ 7289640; omega⟩ (fun H locs hP hD hS => ?_)
  rw [cau_v h19 z1, z2]
  refine lv_iload hx hb dL_law_361 (lv_at hl 1 rfl) ?_
  refine z_if_ge hx hb dL_law_363 (tgt := 370) rfl ⟨by omega, by omega⟩ (fun hbr => absurd hbr (by omega)) (fun hbr => ?_)
  refine z_iconst hx hb dL_law_366 ?_
  refine lv_goto (tgt := 371) hx hb dL_law_367 (by decide) ?_
  refine w_ne_same K (a := 4) (b2 := 4) (rfl) dL_law_371 (tgt := 403) rfl ?_
  refine lv_aload_n hx hb dL_law_374 rfl (lv_at hl 5 rfl) ?_
  refine z_iconst hx hb dL_law_375 ?_
  refine z_iconst hx hb dL_law_376 ?_
  refine wx_V (As := [.int (iI 1), .int (iI 1)]) (rest := []) K (kX8_refusal l K.hst D E cI cC T N 1 1 (by decide) (by decide) hr18 hr19 0 (k3.val : Int) ((ref_tt h19 z1).trans (by rw [z3]))) (cwV 2 K.hts gL_law_X8_refusal rfl rfl rfl (by decide +kernel) ⟨(Nat.le_of_ble_eq_true rfl), (Nat.le_of_ble_eq_true rfl)⟩) hP hD hS rfl hl.1 rfl (Nat.le_of_ble_eq_true rfl) dL_law_377 ⟨by show _ + _ ≤ 600390; omega, by show _ + _ ≤ 7289640; omega⟩ (fun H locs hP hD hS => ?_)
  refine lv_iload hx hb dL_law_380 (lv_at hl 1 rfl) ?_
  refine z_if_ge hx hb dL_law_382 (tgt := 390) rfl ⟨by omega, by omega⟩ (fun hbr => absurd hbr (by omega)) (fun hbr => ?_)
  refine lv_iload hx hb dL_law_385 (lv_at hl 0 rfl) ?_
  refine lv_goto (tgt := 391) hx hb dL_law_387 (by decide) ?_
  refine w_ne_same K (a := (k3.val : Int)) (b2 := (k3.val : Int)) (rfl) dL_law_391 (tgt := 403) rfl ?_
  refine lv_aload_n hx hb dL_law_394 rfl (lv_at hl 5 rfl) ?_
  refine wx_S (As := [.ref (E 0)]) (rest := []) K (kL_state l K.hst D E cI cC T N hN.1.1 hN.1.2.1 hN.1.2.2.1) (va_cwS 1 K.hts gL_law_L_state rfl rfl rfl (by decide +kernel) ⟨(Nat.le_of_ble_eq_true rfl), (Nat.le_of_ble_eq_true rfl)⟩) (ZC_bl E cI cC T) (lz_C K (w2_x hD) hS) hP hD hS rfl hl.1 rfl (Nat.le_of_ble_eq_true rfl) dL_law_395 ⟨by show _ + _ ≤ 600390; omega, by show _ + _ ≤ 7289640; omega⟩ (fun H locs hP hD hS => ?_)
  rw [XI_now hN]
  have hN2 := XI_state hN
  refine lv_iload hx hb dL_law_398 (lv_at hl 2 rfl) ?_
  refine w_eq_same K (a := (fL_state B).1) (b2 := (fL_state B).1) (rfl) dL_law_400 (tgt := 405) rfl ?_
  exact W.widen (by omega) (by omega) (next _ _ H locs ls hN2 hP hD hS hl)
set_option maxRecDepth 100000 in
set_option maxHeartbeats 4000000 in
theorem sg6B (K : LC p l s m args c D cI cC cB T b L xs S Tt tO) (hB : BI B) (h1 : 1 ≤ B 0 77) {t0 : Int} (hu : fX6_tableUnder B 0 = t0) (h0 : ¬ t0 = -1) {X Y : Mem} (hX : XI B X) (hP : va_P D vwCl (W2 E F cI cC X Y) H) (hD : va_D (lA s) (W2 E F cI cC X Y)) (hS : va_S (lA s) s.heap H locs) (hl : lv_has ls 12 [(6, .int (iI 0)), (5, .int (iI t0)), (4, .int (iI (fL_state B).1)), (3, .int (iI (B 0 77))), (2, .ref (F 0)), (1, .ref (E 0)), (0, .ref b)]) (hc : cells + 600 ≤ 600390) (hs : slots + 6 * 600 ≤ 7289640)
    (next : ∀ (X2 Y : Mem) (H : Heap) (locs : List Loc) (ls : Array Slot), XI B X2 → va_P D vwCl (W2 E F cI cC X2 Y) H → va_D (lA s) (W2 E F cI cC X2 Y) → va_S (lA s) s.heap H locs → lv_has ls 12 [(6, .int (iI 0)), (5, .int (iI t0)), (4, .int (iI (fL_state B).1)), (3, .int (iI (B 0 77))), (2, .ref (F 0)), (1, .ref (E 0)), (0, .ref b)] → W p l e room_1 s m args below meth c H locs (cells + 600) (slots + 6 * 600) Q (F0 m 405 ls [])) : W p l e room_1 s m args below meth c H locs cells slots Q (F0 m 294 ls []) := by
  have hx := K.hx
  have hb := K.hb
  have hT0 : -1 ≤ t0 ∧ t0 ≤ 2 := by rw [← hu]; exact tu_r 0
  obtain ⟨g0, g1, g2, g3, g4, g5⟩ := caseB hB h1 hu h0
  refine lv_aload_n hx hb dL_law_294 rfl (lv_at hl 5 rfl) ?_
  refine lv_iload hx hb dL_law_295 (lv_at hl 1 rfl) ?_
  refine z_if_ge hx hb dL_law_297 (tgt := 333) rfl ⟨by omega, by omega⟩ (fun hbr => ?_) (fun hbr => absurd (by omega) hbr)
  refine w_ldc K (K.str 6 (by decide)).1 dL_law_333 ?_
  have hXp := XI_put hX 13 tE (by decide) (cA_e (l := sCs 6) (sCA 6 (by decide)))
  refine wx_S (As := [.ref (E 0), .ref (S 6)]) (rest := []) K (kL_put l K.hst D E cI cC T X (S 6) (Tt 6) 13 tE (by decide) (cA_e (l := sCs 6) (sCA 6 (by decide))) hX.1.2.2.1 (by rw [hX.2.1]; decide)) (va_cwS 2 K.hts gL_law_L_put rfl rfl rfl (by decide +kernel) ⟨(Nat.le_of_ble_eq_true rfl), (Nat.le_of_ble_eq_true rfl)⟩) (ZS_bl E cI cC T (S 6) (Tt 6) 13 tE) (zs_x K hD hS (q := S 6) (t := Tt 6) (n := 13) (g := tE) (lit_x K hD hS (K.str 6 (by decide)).2)) hP hD hS rfl hl.1 rfl (Nat.le_of_ble_eq_true rfl) dL_law_335 ⟨by show _ + _ ≤ 600390; omega, by show _ + _ ≤ 7289640; omega⟩ (fun H locs hP hD hS => ?_)
  obtain ⟨er, p1, ha, hb1, hd, hl1, p2, ha2, hb2, hd2⟩ := pE
  obtain ⟨N, rE, hN, h18, h19⟩ := x_no2 hX 13 tE (by decide) (cA_e (l := sCs 6) (sCA 6 (by decide))) er p1 (by decide) ha hb1 hd hl1 p2 (by decide) ha2 hb2 hd2 g1 g5 (by decide)
  obtain ⟨z1, z2, z3, z4⟩ := zmE
  have hr18 : 0 ≤ N 18 0 ∧ N 18 0 ≤ 1000 := by rw [h18]; decide
  have hr19 : 0 ≤ N 19 0 ∧ N 19 0 ≤ 1000 := by rw [h19]; exact z4
  refine lv_aload_n hx hb dL_law_338 rfl (lv_at hl 5 rfl) ?_
  refine wx_SW (As := [.ref (E 0)]) (rest := []) K (kL_runs l K.hst D E cI cC T (fL_put X 13 tE) hXp.1.1 hXp.1.2.1 hXp.1.2.2.1 hXp.1.2.2.2.1) (vx_cwSW 1 K.hts gL_law_L_runs rfl rfl rfl (by decide +kernel) ⟨(Nat.le_of_ble_eq_true rfl), (Nat.le_of_ble_eq_true rfl)⟩) (ZL_bl E cI cC T) (lz_L K (w2_x hD) hS) hP hD hS rfl hl.1 rfl (Nat.le_of_ble_eq_true rfl) dL_law_339 ⟨by show _ + _ ≤ 600390; omega, by show _ + _ ≤ 7289640; omega⟩ (fun H locs hP hD hS => ?_)
  rw [(run_no rE).1]
  rw [(run_no rE).2] at hP hD
  refine z_bipush hx hb dL_law_342 (by decide +kernel) ?_
  refine w_ne_same K (a := (-2)) (b2 := (-2)) (rfl) dL_law_344 (tgt := 403) rfl ?_
  refine lv_aload_n hx hb dL_law_347 rfl (lv_at hl 5 rfl) ?_
  refine z_iconst hx hb dL_law_348 ?_
  refine z_iconst hx hb dL_law_349 ?_
  refine wx_V (As := [.int (iI 0), .int (iI 1)]) (rest := []) K (kX8_refusal l K.hst D E cI cC T N 0 1 (by decide) (by decide) hr18 hr19 0 1 ((ref_ft h18 (by decide)).trans (by rfl))) (cwV 2 K.hts gL_law_X8_refusal rfl rfl rfl (by decide +kernel) ⟨(Nat.le_of_ble_eq_true rfl), (Nat.le_of_ble_eq_true rfl)⟩) hP hD hS rfl hl.1 rfl (Nat.le_of_ble_eq_true rfl) dL_law_350 ⟨by show _ + _ ≤ 600390; omega, by show _ + _ ≤ 7289640; omega⟩ (fun H locs hP hD hS => ?_)
  refine z_iconst hx hb dL_law_353 ?_
  refine w_ne_same K (a := 1) (b2 := 1) (rfl) dL_law_354 (tgt := 403) rfl ?_
  refine lv_aload_n hx hb dL_law_357 rfl (lv_at hl 5 rfl) ?_
  refine wx_SW (As := [.ref (E 0)]) (rest := []) K (kL_cause l K.hst D E cI cC T N hr18 hr19) (vx_cwSW 1 K.hts gL_law_L_cause rfl rfl rfl (by decide +kernel) ⟨(Nat.le_of_ble_eq_true rfl), (Nat.le_of_ble_eq_true rfl)⟩) (ZL_bl E cI cC T) (lz_L K (w2_x hD) hS) hP hD hS rfl hl.1 rfl (Nat.le_of_ble_eq_true rfl) dL_law_358 ⟨by show _ + _ ≤ 600390; omega, by show _ + _ ≤ 7289640; omega⟩ (fun H locs hP hD hS => ?_)
  rw [cau_v h19 z1, z2]
  refine lv_iload hx hb dL_law_361 (lv_at hl 1 rfl) ?_
  refine z_if_ge hx hb dL_law_363 (tgt := 370) rfl ⟨by omega, by omega⟩ (fun hbr => ?_) (fun hbr => absurd (by omega) hbr)
  refine z_iconst hx hb dL_law_370 ?_
  refine w_ne_same K (a := 5) (b2 := 5) (rfl) dL_law_371 (tgt := 403) rfl ?_
  refine lv_aload_n hx hb dL_law_374 rfl (lv_at hl 5 rfl) ?_
  refine z_iconst hx hb dL_law_375 ?_
  refine z_iconst hx hb dL_law_376 ?_
  refine wx_V (As := [.int (iI 1), .int (iI 1)]) (rest := []) K (kX8_refusal l K.hst D E cI cC T N 1 1 (by decide) (by decide) hr18 hr19 0 0 ((ref_tt h19 z1).trans (by rw [z3]))) (cwV 2 K.hts gL_law_X8_refusal rfl rfl rfl (by decide +kernel) ⟨(Nat.le_of_ble_eq_true rfl), (Nat.le_of_ble_eq_true rfl)⟩) hP hD hS rfl hl.1 rfl (Nat.le_of_ble_eq_true rfl) dL_law_377 ⟨by show _ + _ ≤ 600390; omega, by show _ + _ ≤ 7289640; omega⟩ (fun H locs hP hD hS => ?_)
  refine lv_iload hx hb dL_law_380 (lv_at hl 1 rfl) ?_
  refine z_if_ge hx hb dL_law_382 (tgt := 390) rfl ⟨by omega, by omega⟩ (fun hbr => ?_) (fun hbr => absurd (by omega) hbr)
  refine z_iconst hx hb dL_law_390 ?_
  refine w_ne_same K (a := 0) (b2 := 0) (rfl) dL_law_391 (tgt := 403) rfl ?_
  refine lv_aload_n hx hb dL_law_394 rfl (lv_at hl 5 rfl) ?_
  refine wx_S (As := [.ref (E 0)]) (rest := []) K (kL_state l K.hst D E cI cC T N hN.1.1 hN.1.2.1 hN.1.2.2.1) (va_cwS 1 K.hts gL_law_L_state rfl rfl rfl (by decide +kernel) ⟨(Nat.le_of_ble_eq_true rfl), (Nat.le_of_ble_eq_true rfl)⟩) (ZC_bl E cI cC T) (lz_C K (w2_x hD) hS) hP hD hS rfl hl.1 rfl (Nat.le_of_ble_eq_true rfl) dL_law_395 ⟨by show _ + _ ≤ 600390; omega, by show _ + _ ≤ 7289640; omega⟩ (fun H locs hP hD hS => ?_)
  rw [XI_now hN]
  have hN2 := XI_state hN
  refine lv_iload hx hb dL_law_398 (lv_at hl 2 rfl) ?_
  refine w_eq_same K (a := (fL_state B).1) (b2 := (fL_state B).1) (rfl) dL_law_400 (tgt := 405) rfl ?_
  exact W.widen (by omega) (by omega) (next _ _ H locs ls hN2 hP hD hS hl)
end
