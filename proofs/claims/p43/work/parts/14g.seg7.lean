/-! THE LAW, walked: malformed texts (written by mk14e.py). -/
set_option maxRecDepth 100000 in
theorem pF0 : fX7_errorAt (tM 7 (gT (sCs 7))) = 6 := by decide +kernel
set_option maxRecDepth 100000 in
theorem pF1 : fX7_errorAt (tM 5 (gT (sCs 8))) = 5 := by decide +kernel
set_option maxRecDepth 100000 in
theorem pF2 : fX7_errorAt (tM 8 (gT (sCs 9))) = 8 := by decide +kernel
set_option maxRecDepth 100000 in
theorem pF3 : fX7_errorAt (tM 2 (gT (sCs 10))) = 1 := by decide +kernel
set_option maxRecDepth 100000 in
theorem pF4 : fX7_errorAt (tM 7 (gT (sCs 11))) = 7 := by decide +kernel
set_option maxRecDepth 100000 in
theorem pF5 : fX7_errorAt (tM 0 (gT (sCs 0))) = 0 := by decide +kernel
set_option maxRecDepth 100000 in
theorem pF6 : fX7_errorAt (tM 6 (gT (sCs 12))) = 6 := by decide +kernel
set_option maxRecDepth 100000 in
theorem pF7 : fX7_errorAt (tM 4 (gT (sCs 13))) = 4 := by decide +kernel
set_option maxRecDepth 100000 in
theorem pF8 : fX7_errorAt (tM 7 (gT (sCs 14))) = 6 := by decide +kernel
set_option maxRecDepth 100000 in
theorem pF9 : fX7_errorAt (tM 1 (gT (sCs 15))) = 0 := by decide +kernel
set_option maxRecDepth 100000 in
theorem pF10 : fX7_errorAt (tM 6 (gT (sCs 16))) = 5 := by decide +kernel
section
variable {p : Program} {l : Launch} {e : Env} {s : State} {m : MethodId} {args : Array Value} {below : List Frame} {meth : Method} {c : Code} {H : Heap} {locs : List Loc} {cells slots : Nat} {Q : State → Prop}
variable {ls : Array Slot} {D : va_G} {cI cC cB : ClassId} {T S Tt : Nat → Nat} {tO b L : Nat} {xs : Nat → Int32} {E F : Nat → Nat} {B : Mem}
set_option maxRecDepth 100000 in
set_option maxHeartbeats 4000000 in
theorem sg7 (K : LC p l s m args c D cI cC cB T b L xs S Tt tO) (hB : BI B) (h1 : 1 ≤ B 0 77) {to t0 : Int} {X Y : Mem} (hX : XI B X) (hP : va_P D vwCl (W2 E F cI cC X Y) H) (hD : va_D (lA s) (W2 E F cI cC X Y)) (hS : va_S (lA s) s.heap H locs) (hl : lv_has ls 12 [(6, .int (iI to)), (5, .int (iI t0)), (4, .int (iI (fL_state B).1)), (3, .int (iI (B 0 77))), (2, .ref (F 0)), (1, .ref (E 0)), (0, .ref b)]) (hc : cells + 1200 ≤ 600390) (hs : slots + 6 * 1200 ≤ 7289640)
    (next : ∀ (X2 Y : Mem) (H : Heap) (locs : List Loc) (ls : Array Slot), XI B X2 → va_P D vwCl (W2 E F cI cC X2 Y) H → va_D (lA s) (W2 E F cI cC X2 Y) → va_S (lA s) s.heap H locs → lv_has ls 12 [(6, .int (iI to)), (5, .int (iI t0)), (4, .int (iI (fL_state B).1)), (3, .int (iI (B 0 77))), (2, .ref (F 0)), (1, .ref (E 0)), (0, .ref b)] → W p l e room_1 s m args below meth c H locs (cells + 1200) (slots + 6 * 1200) Q (F0 m 531 ls [])) : W p l e room_1 s m args below meth c H locs cells slots Q (F0 m 405 ls []) := by
  have hx := K.hx
  have hb := K.hb
  refine lv_aload_n hx hb dL_law_405 rfl (lv_at hl 5 rfl) ?_
  refine w_ldc K (K.str 7 (by decide)).1 dL_law_406 ?_
  refine z_bipush hx hb dL_law_408 (by decide +kernel) ?_
  have hXp0 := XI_put hX 7 (gT (sCs 7)) (by decide) (cA_e (l := sCs 7) (sCA 7 (by decide)))
  obtain ⟨N0, rE0, hN0, h170⟩ := x_bad hX 7 (gT (sCs 7)) (by decide) (cA_e (l := sCs 7) (sCA 7 (by decide))) pF0 (by decide)
  refine wx_S (As := [.ref (E 0), .ref (S 7), .int (iI 6)]) (rest := []) K (kL_faults l K.hst D E cI cC T X N0 (S 7) (Tt 7) 7 (gT (sCs 7)) 6 0 (by decide) (cA_e (l := sCs 7) (sCA 7 (by decide))) hX.1.2.2.1 (by rw [hX.2.1]; decide) hXp0.1.1 hXp0.1.2.1 hXp0.1.2.2.1 hXp0.1.2.2.2.1 rE0 h170 (by decide) (by decide)) (va_cwS 3 K.hts gL_law_L_faults rfl rfl rfl (by decide +kernel) ⟨(Nat.le_of_ble_eq_true rfl), (Nat.le_of_ble_eq_true rfl)⟩) (ZT_bl E cI cC T (S 7) (Tt 7) 7 (gT (sCs 7))) (zt_x K hD hS (q := S 7) (t := Tt 7) (n := 7) (g := (gT (sCs 7))) (lit_x K hD hS (K.str 7 (by decide)).2)) hP hD hS rfl hl.1 rfl (Nat.le_of_ble_eq_true rfl) dL_law_410 ⟨by show _ + _ ≤ 600390; omega, by show _ + _ ≤ 7289640; omega⟩ (fun H locs hP hD hS => ?_)
  refine z_if_eq hx hb dL_law_413 (tgt := 529) rfl (by decide) (fun hbr => absurd hbr (by decide)) (fun hbr => ?_)
  refine lv_aload_n hx hb dL_law_416 rfl (lv_at hl 5 rfl) ?_
  refine w_ldc K (K.str 8 (by decide)).1 dL_law_417 ?_
  refine z_iconst hx hb dL_law_419 ?_
  have hXp1 := XI_put hN0 5 (gT (sCs 8)) (by decide) (cA_e (l := sCs 8) (sCA 8 (by decide)))
  obtain ⟨N1, rE1, hN1, h171⟩ := x_bad hN0 5 (gT (sCs 8)) (by decide) (cA_e (l := sCs 8) (sCA 8 (by decide))) pF1 (by decide)
  refine wx_S (As := [.ref (E 0), .ref (S 8), .int (iI 5)]) (rest := []) K (kL_faults l K.hst D E cI cC T N0 N1 (S 8) (Tt 8) 5 (gT (sCs 8)) 5 0 (by decide) (cA_e (l := sCs 8) (sCA 8 (by decide))) hN0.1.2.2.1 (by rw [hN0.2.1]; decide) hXp1.1.1 hXp1.1.2.1 hXp1.1.2.2.1 hXp1.1.2.2.2.1 rE1 h171 (by decide) (by decide)) (va_cwS 3 K.hts gL_law_L_faults rfl rfl rfl (by decide +kernel) ⟨(Nat.le_of_ble_eq_true rfl), (Nat.le_of_ble_eq_true rfl)⟩) (ZT_bl E cI cC T (S 8) (Tt 8) 5 (gT (sCs 8))) (zt_x K hD hS (q := S 8) (t := Tt 8) (n := 5) (g := (gT (sCs 8))) (lit_x K hD hS (K.str 8 (by decide)).2)) hP hD hS rfl hl.1 rfl (Nat.le_of_ble_eq_true rfl) dL_law_420 ⟨by show _ + _ ≤ 600390; omega, by show _ + _ ≤ 7289640; omega⟩ (fun H locs hP hD hS => ?_)
  refine z_if_eq hx hb dL_law_423 (tgt := 529) rfl (by decide) (fun hbr => absurd hbr (by decide)) (fun hbr => ?_)
  refine lv_aload_n hx hb dL_law_426 rfl (lv_at hl 5 rfl) ?_
  refine w_ldc K (K.str 9 (by decide)).1 dL_law_427 ?_
  refine z_bipush hx hb dL_law_429 (by decide +kernel) ?_
  have hXp2 := XI_put hN1 8 (gT (sCs 9)) (by decide) (cA_e (l := sCs 9) (sCA 9 (by decide)))
  obtain ⟨N2, rE2, hN2, h172⟩ := x_bad hN1 8 (gT (sCs 9)) (by decide) (cA_e (l := sCs 9) (sCA 9 (by decide))) pF2 (by decide)
  refine wx_S (As := [.ref (E 0), .ref (S 9), .int (iI 8)]) (rest := []) K (kL_faults l K.hst D E cI cC T N1 N2 (S 9) (Tt 9) 8 (gT (sCs 9)) 8 0 (by decide) (cA_e (l := sCs 9) (sCA 9 (by decide))) hN1.1.2.2.1 (by rw [hN1.2.1]; decide) hXp2.1.1 hXp2.1.2.1 hXp2.1.2.2.1 hXp2.1.2.2.2.1 rE2 h172 (by decide) (by decide)) (va_cwS 3 K.hts gL_law_L_faults rfl rfl rfl (by decide +kernel) ⟨(Nat.le_of_ble_eq_true rfl), (Nat.le_of_ble_eq_true rfl)⟩) (ZT_bl E cI cC T (S 9) (Tt 9) 8 (gT (sCs 9))) (zt_x K hD hS (q := S 9) (t := Tt 9) (n := 8) (g := (gT (sCs 9))) (lit_x K hD hS (K.str 9 (by decide)).2)) hP hD hS rfl hl.1 rfl (Nat.le_of_ble_eq_true rfl) dL_law_431 ⟨by show _ + _ ≤ 600390; omega, by show _ + _ ≤ 7289640; omega⟩ (fun H locs hP hD hS => ?_)
  refine z_if_eq hx hb dL_law_434 (tgt := 529) rfl (by decide) (fun hbr => absurd hbr (by decide)) (fun hbr => ?_)
  refine lv_aload_n hx hb dL_law_437 rfl (lv_at hl 5 rfl) ?_
  refine w_ldc K (K.str 10 (by decide)).1 dL_law_438 ?_
  refine z_iconst hx hb dL_law_440 ?_
  have hXp3 := XI_put hN2 2 (gT (sCs 10)) (by decide) (cA_e (l := sCs 10) (sCA 10 (by decide)))
  obtain ⟨N3, rE3, hN3, h173⟩ := x_bad hN2 2 (gT (sCs 10)) (by decide) (cA_e (l := sCs 10) (sCA 10 (by decide))) pF3 (by decide)
  refine wx_S (As := [.ref (E 0), .ref (S 10), .int (iI 1)]) (rest := []) K (kL_faults l K.hst D E cI cC T N2 N3 (S 10) (Tt 10) 2 (gT (sCs 10)) 1 0 (by decide) (cA_e (l := sCs 10) (sCA 10 (by decide))) hN2.1.2.2.1 (by rw [hN2.2.1]; decide) hXp3.1.1 hXp3.1.2.1 hXp3.1.2.2.1 hXp3.1.2.2.2.1 rE3 h173 (by decide) (by decide)) (va_cwS 3 K.hts gL_law_L_faults rfl rfl rfl (by decide +kernel) ⟨(Nat.le_of_ble_eq_true rfl), (Nat.le_of_ble_eq_true rfl)⟩) (ZT_bl E cI cC T (S 10) (Tt 10) 2 (gT (sCs 10))) (zt_x K hD hS (q := S 10) (t := Tt 10) (n := 2) (g := (gT (sCs 10))) (lit_x K hD hS (K.str 10 (by decide)).2)) hP hD hS rfl hl.1 rfl (Nat.le_of_ble_eq_true rfl) dL_law_441 ⟨by show _ + _ ≤ 600390; omega, by show _ + _ ≤ 7289640; omega⟩ (fun H locs hP hD hS => ?_)
  refine z_if_eq hx hb dL_law_444 (tgt := 529) rfl (by decide) (fun hbr => absurd hbr (by decide)) (fun hbr => ?_)
  refine lv_aload_n hx hb dL_law_447 rfl (lv_at hl 5 rfl) ?_
  refine w_ldc K (K.str 11 (by decide)).1 dL_law_448 ?_
  refine z_bipush hx hb dL_law_450 (by decide +kernel) ?_
  have hXp4 := XI_put hN3 7 (gT (sCs 11)) (by decide) (cA_e (l := sCs 11) (sCA 11 (by decide)))
  obtain ⟨N4, rE4, hN4, h174⟩ := x_bad hN3 7 (gT (sCs 11)) (by decide) (cA_e (l := sCs 11) (sCA 11 (by decide))) pF4 (by decide)
  refine wx_S (As := [.ref (E 0), .ref (S 11), .int (iI 7)]) (rest := []) K (kL_faults l K.hst D E cI cC T N3 N4 (S 11) (Tt 11) 7 (gT (sCs 11)) 7 0 (by decide) (cA_e (l := sCs 11) (sCA 11 (by decide))) hN3.1.2.2.1 (by rw [hN3.2.1]; decide) hXp4.1.1 hXp4.1.2.1 hXp4.1.2.2.1 hXp4.1.2.2.2.1 rE4 h174 (by decide) (by decide)) (va_cwS 3 K.hts gL_law_L_faults rfl rfl rfl (by decide +kernel) ⟨(Nat.le_of_ble_eq_true rfl), (Nat.le_of_ble_eq_true rfl)⟩) (ZT_bl E cI cC T (S 11) (Tt 11) 7 (gT (sCs 11))) (zt_x K hD hS (q := S 11) (t := Tt 11) (n := 7) (g := (gT (sCs 11))) (lit_x K hD hS (K.str 11 (by decide)).2)) hP hD hS rfl hl.1 rfl (Nat.le_of_ble_eq_true rfl) dL_law_452 ⟨by show _ + _ ≤ 600390; omega, by show _ + _ ≤ 7289640; omega⟩ (fun H locs hP hD hS => ?_)
  refine z_if_eq hx hb dL_law_455 (tgt := 529) rfl (by decide) (fun hbr => absurd hbr (by decide)) (fun hbr => ?_)
  refine lv_aload_n hx hb dL_law_458 rfl (lv_at hl 5 rfl) ?_
  refine w_ldc K (K.str 0 (by decide)).1 dL_law_459 ?_
  refine z_iconst hx hb dL_law_461 ?_
  have hXp5 := XI_put hN4 0 (gT (sCs 0)) (by decide) (cA_e (l := sCs 0) (sCA 0 (by decide)))
  obtain ⟨N5, rE5, hN5, h175⟩ := x_bad hN4 0 (gT (sCs 0)) (by decide) (cA_e (l := sCs 0) (sCA 0 (by decide))) pF5 (by decide)
  refine wx_S (As := [.ref (E 0), .ref (S 0), .int (iI 0)]) (rest := []) K (kL_faults l K.hst D E cI cC T N4 N5 (S 0) (Tt 0) 0 (gT (sCs 0)) 0 0 (by decide) (cA_e (l := sCs 0) (sCA 0 (by decide))) hN4.1.2.2.1 (by rw [hN4.2.1]; decide) hXp5.1.1 hXp5.1.2.1 hXp5.1.2.2.1 hXp5.1.2.2.2.1 rE5 h175 (by decide) (by decide)) (va_cwS 3 K.hts gL_law_L_faults rfl rfl rfl (by decide +kernel) ⟨(Nat.le_of_ble_eq_true rfl), (Nat.le_of_ble_eq_true rfl)⟩) (ZT_bl E cI cC T (S 0) (Tt 0) 0 (gT (sCs 0))) (zt_x K hD hS (q := S 0) (t := Tt 0) (n := 0) (g := (gT (sCs 0))) (lit_x K hD hS (K.str 0 (by decide)).2)) hP hD hS rfl hl.1 rfl (Nat.le_of_ble_eq_true rfl) dL_law_462 ⟨by show _ + _ ≤ 600390; omega, by show _ + _ ≤ 7289640; omega⟩ (fun H locs hP hD hS => ?_)
  refine z_if_eq hx hb dL_law_465 (tgt := 529) rfl (by decide) (fun hbr => absurd hbr (by decide)) (fun hbr => ?_)
  refine lv_aload_n hx hb dL_law_468 rfl (lv_at hl 5 rfl) ?_
  refine w_ldc K (K.str 12 (by decide)).1 dL_law_469 ?_
  refine z_bipush hx hb dL_law_471 (by decide +kernel) ?_
  have hXp6 := XI_put hN5 6 (gT (sCs 12)) (by decide) (cA_e (l := sCs 12) (sCA 12 (by decide)))
  obtain ⟨N6, rE6, hN6, h176⟩ := x_bad hN5 6 (gT (sCs 12)) (by decide) (cA_e (l := sCs 12) (sCA 12 (by decide))) pF6 (by decide)
  refine wx_S (As := [.ref (E 0), .ref (S 12), .int (iI 6)]) (rest := []) K (kL_faults l K.hst D E cI cC T N5 N6 (S 12) (Tt 12) 6 (gT (sCs 12)) 6 0 (by decide) (cA_e (l := sCs 12) (sCA 12 (by decide))) hN5.1.2.2.1 (by rw [hN5.2.1]; decide) hXp6.1.1 hXp6.1.2.1 hXp6.1.2.2.1 hXp6.1.2.2.2.1 rE6 h176 (by decide) (by decide)) (va_cwS 3 K.hts gL_law_L_faults rfl rfl rfl (by decide +kernel) ⟨(Nat.le_of_ble_eq_true rfl), (Nat.le_of_ble_eq_true rfl)⟩) (ZT_bl E cI cC T (S 12) (Tt 12) 6 (gT (sCs 12))) (zt_x K hD hS (q := S 12) (t := Tt 12) (n := 6) (g := (gT (sCs 12))) (lit_x K hD hS (K.str 12 (by decide)).2)) hP hD hS rfl hl.1 rfl (Nat.le_of_ble_eq_true rfl) dL_law_473 ⟨by show _ + _ ≤ 600390; omega, by show _ + _ ≤ 7289640; omega⟩ (fun H locs hP hD hS => ?_)
  refine z_if_eq hx hb dL_law_476 (tgt := 529) rfl (by decide) (fun hbr => absurd hbr (by decide)) (fun hbr => ?_)
  refine lv_aload_n hx hb dL_law_479 rfl (lv_at hl 5 rfl) ?_
  refine w_ldc K (K.str 13 (by decide)).1 dL_law_480 ?_
  refine z_iconst hx hb dL_law_482 ?_
  have hXp7 := XI_put hN6 4 (gT (sCs 13)) (by decide) (cA_e (l := sCs 13) (sCA 13 (by decide)))
  obtain ⟨N7, rE7, hN7, h177⟩ := x_bad hN6 4 (gT (sCs 13)) (by decide) (cA_e (l := sCs 13) (sCA 13 (by decide))) pF7 (by decide)
  refine wx_S (As := [.ref (E 0), .ref (S 13), .int (iI 4)]) (rest := []) K (kL_faults l K.hst D E cI cC T N6 N7 (S 13) (Tt 13) 4 (gT (sCs 13)) 4 0 (by decide) (cA_e (l := sCs 13) (sCA 13 (by decide))) hN6.1.2.2.1 (by rw [hN6.2.1]; decide) hXp7.1.1 hXp7.1.2.1 hXp7.1.2.2.1 hXp7.1.2.2.2.1 rE7 h177 (by decide) (by decide)) (va_cwS 3 K.hts gL_law_L_faults rfl rfl rfl (by decide +kernel) ⟨(Nat.le_of_ble_eq_true rfl), (Nat.le_of_ble_eq_true rfl)⟩) (ZT_bl E cI cC T (S 13) (Tt 13) 4 (gT (sCs 13))) (zt_x K hD hS (q := S 13) (t := Tt 13) (n := 4) (g := (gT (sCs 13))) (lit_x K hD hS (K.str 13 (by decide)).2)) hP hD hS rfl hl.1 rfl (Nat.le_of_ble_eq_true rfl) dL_law_483 ⟨by show _ + _ ≤ 600390; omega, by show _ + _ ≤ 7289640; omega⟩ (fun H locs hP hD hS => ?_)
  refine z_if_eq hx hb dL_law_486 (tgt := 529) rfl (by decide) (fun hbr => absurd hbr (by decide)) (fun hbr => ?_)
  refine lv_aload_n hx hb dL_law_489 rfl (lv_at hl 5 rfl) ?_
  refine w_ldc K (K.str 14 (by decide)).1 dL_law_490 ?_
  refine z_bipush hx hb dL_law_492 (by decide +kernel) ?_
  have hXp8 := XI_put hN7 7 (gT (sCs 14)) (by decide) (cA_e (l := sCs 14) (sCA 14 (by decide)))
  obtain ⟨N8, rE8, hN8, h178⟩ := x_bad hN7 7 (gT (sCs 14)) (by decide) (cA_e (l := sCs 14) (sCA 14 (by decide))) pF8 (by decide)
  refine wx_S (As := [.ref (E 0), .ref (S 14), .int (iI 6)]) (rest := []) K (kL_faults l K.hst D E cI cC T N7 N8 (S 14) (Tt 14) 7 (gT (sCs 14)) 6 0 (by decide) (cA_e (l := sCs 14) (sCA 14 (by decide))) hN7.1.2.2.1 (by rw [hN7.2.1]; decide) hXp8.1.1 hXp8.1.2.1 hXp8.1.2.2.1 hXp8.1.2.2.2.1 rE8 h178 (by decide) (by decide)) (va_cwS 3 K.hts gL_law_L_faults rfl rfl rfl (by decide +kernel) ⟨(Nat.le_of_ble_eq_true rfl), (Nat.le_of_ble_eq_true rfl)⟩) (ZT_bl E cI cC T (S 14) (Tt 14) 7 (gT (sCs 14))) (zt_x K hD hS (q := S 14) (t := Tt 14) (n := 7) (g := (gT (sCs 14))) (lit_x K hD hS (K.str 14 (by decide)).2)) hP hD hS rfl hl.1 rfl (Nat.le_of_ble_eq_true rfl) dL_law_494 ⟨by show _ + _ ≤ 600390; omega, by show _ + _ ≤ 7289640; omega⟩ (fun H locs hP hD hS => ?_)
  refine z_if_eq hx hb dL_law_497 (tgt := 529) rfl (by decide) (fun hbr => absurd hbr (by decide)) (fun hbr => ?_)
  refine lv_aload_n hx hb dL_law_500 rfl (lv_at hl 5 rfl) ?_
  refine w_ldc K (K.str 15 (by decide)).1 dL_law_501 ?_
  refine z_iconst hx hb dL_law_503 ?_
  have hXp9 := XI_put hN8 1 (gT (sCs 15)) (by decide) (cA_e (l := sCs 15) (sCA 15 (by decide)))
  obtain ⟨N9, rE9, hN9, h179⟩ := x_bad hN8 1 (gT (sCs 15)) (by decide) (cA_e (l := sCs 15) (sCA 15 (by decide))) pF9 (by decide)
  refine wx_S (As := [.ref (E 0), .ref (S 15), .int (iI 0)]) (rest := []) K (kL_faults l K.hst D E cI cC T N8 N9 (S 15) (Tt 15) 1 (gT (sCs 15)) 0 0 (by decide) (cA_e (l := sCs 15) (sCA 15 (by decide))) hN8.1.2.2.1 (by rw [hN8.2.1]; decide) hXp9.1.1 hXp9.1.2.1 hXp9.1.2.2.1 hXp9.1.2.2.2.1 rE9 h179 (by decide) (by decide)) (va_cwS 3 K.hts gL_law_L_faults rfl rfl rfl (by decide +kernel) ⟨(Nat.le_of_ble_eq_true rfl), (Nat.le_of_ble_eq_true rfl)⟩) (ZT_bl E cI cC T (S 15) (Tt 15) 1 (gT (sCs 15))) (zt_x K hD hS (q := S 15) (t := Tt 15) (n := 1) (g := (gT (sCs 15))) (lit_x K hD hS (K.str 15 (by decide)).2)) hP hD hS rfl hl.1 rfl (Nat.le_of_ble_eq_true rfl) dL_law_504 ⟨by show _ + _ ≤ 600390; omega, by show _ + _ ≤ 7289640; omega⟩ (fun H locs hP hD hS => ?_)
  refine z_if_eq hx hb dL_law_507 (tgt := 529) rfl (by decide) (fun hbr => absurd hbr (by decide)) (fun hbr => ?_)
  refine lv_aload_n hx hb dL_law_510 rfl (lv_at hl 5 rfl) ?_
  refine w_ldc K (K.str 16 (by decide)).1 dL_law_511 ?_
  refine z_iconst hx hb dL_law_513 ?_
  have hXp10 := XI_put hN9 6 (gT (sCs 16)) (by decide) (cA_e (l := sCs 16) (sCA 16 (by decide)))
  obtain ⟨N10, rE10, hN10, h1710⟩ := x_bad hN9 6 (gT (sCs 16)) (by decide) (cA_e (l := sCs 16) (sCA 16 (by decide))) pF10 (by decide)
  refine wx_S (As := [.ref (E 0), .ref (S 16), .int (iI 5)]) (rest := []) K (kL_faults l K.hst D E cI cC T N9 N10 (S 16) (Tt 16) 6 (gT (sCs 16)) 5 0 (by decide) (cA_e (l := sCs 16) (sCA 16 (by decide))) hN9.1.2.2.1 (by rw [hN9.2.1]; decide) hXp10.1.1 hXp10.1.2.1 hXp10.1.2.2.1 hXp10.1.2.2.2.1 rE10 h1710 (by decide) (by decide)) (va_cwS 3 K.hts gL_law_L_faults rfl rfl rfl (by decide +kernel) ⟨(Nat.le_of_ble_eq_true rfl), (Nat.le_of_ble_eq_true rfl)⟩) (ZT_bl E cI cC T (S 16) (Tt 16) 6 (gT (sCs 16))) (zt_x K hD hS (q := S 16) (t := Tt 16) (n := 6) (g := (gT (sCs 16))) (lit_x K hD hS (K.str 16 (by decide)).2)) hP hD hS rfl hl.1 rfl (Nat.le_of_ble_eq_true rfl) dL_law_514 ⟨by show _ + _ ≤ 600390; omega, by show _ + _ ≤ 7289640; omega⟩ (fun H locs hP hD hS => ?_)
  refine z_if_eq hx hb dL_law_517 (tgt := 529) rfl (by decide) (fun hbr => absurd hbr (by decide)) (fun hbr => ?_)
  refine lv_aload_n hx hb dL_law_520 rfl (lv_at hl 5 rfl) ?_
  refine wx_S (As := [.ref (E 0)]) (rest := []) K (kL_state l K.hst D E cI cC T N10 hN10.1.1 hN10.1.2.1 hN10.1.2.2.1) (va_cwS 1 K.hts gL_law_L_state rfl rfl rfl (by decide +kernel) ⟨(Nat.le_of_ble_eq_true rfl), (Nat.le_of_ble_eq_true rfl)⟩) (ZC_bl E cI cC T) (lz_C K (w2_x hD) hS) hP hD hS rfl hl.1 rfl (Nat.le_of_ble_eq_true rfl) dL_law_521 ⟨by show _ + _ ≤ 600390; omega, by show _ + _ ≤ 7289640; omega⟩ (fun H locs hP hD hS => ?_)
  rw [XI_now hN10]
  have hN2 := XI_state hN10
  refine lv_iload hx hb dL_law_524 (lv_at hl 2 rfl) ?_
  refine w_eq_same K (a := (fL_state B).1) (b2 := (fL_state B).1) (rfl) dL_law_526 (tgt := 531) rfl ?_
  exact W.widen (by omega) (by omega) (next _ _ H locs ls hN2 hP hD hS hl)
end
