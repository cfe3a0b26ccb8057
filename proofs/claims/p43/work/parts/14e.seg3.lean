/-! THE LAW, walked: undone; a text that is refused (written by mk14e.py). -/
set_option maxRecDepth 100000 in
theorem sCA0 : ∀ k : Fin 26, ∀ i : Fin (sCs k.val).length, 0 ≤ gT (sCs k.val) (i.val : Int) ∧ gT (sCs k.val) (i.val : Int) < 128 := sG0
theorem sCA (k : Nat) (hk : k < 26) : cA (sCs k) := fun i => sG0 ⟨k, hk⟩ i
section
variable {p : Program} {l : Launch} {e : Env} {s : State} {m : MethodId} {args : Array Value} {below : List Frame} {meth : Method} {c : Code} {H : Heap} {locs : List Loc} {cells slots : Nat} {Q : State → Prop}
variable {ls : Array Slot} {D : va_G} {cI cC cB : ClassId} {T S Tt : Nat → Nat} {tO b L : Nat} {xs : Nat → Int32} {E F : Nat → Nat} {B : Mem}
set_option maxRecDepth 100000 in
set_option maxHeartbeats 4000000 in
theorem sg3 (K : LC p l s m args c D cI cC cB T b L xs S Tt tO) (hB : BI B) (h1 : 1 ≤ B 0 77) {to t0 : Int} {X5 Y5 : Mem} (o5 : OI X5) (uX : ∃ V : Mem, fX8_undo X5 = (0, X5 9 0 - 1, V) ∧ XI B V) (oY : OI Y5) (uY : ∃ V V2 : Mem, ∃ v v2 : Int, fX8_undo Y5 = (0, v, V) ∧ (0 ≤ v ∧ v ≤ 8) ∧ OI V ∧ fX8_undo V = (0, v2, V2) ∧ (0 ≤ v2 ∧ v2 ≤ 8) ∧ OI V2 ∧ REq V2 B) (hP : va_P D vwCl (W2 E F cI cC X5 Y5) H) (hD : va_D (lA s) (W2 E F cI cC X5 Y5)) (hS : va_S (lA s) s.heap H locs) (hl : lv_has ls 12 [(6, .int (iI to)), (5, .int (iI t0)), (4, .int (iI (fL_state B).1)), (3, .int (iI (B 0 77))), (2, .ref (F 0)), (1, .ref (E 0)), (0, .ref b)]) (hc : cells + 500 ≤ 600390) (hs : slots + 6 * 500 ≤ 7289640)
    (next : ∀ (X Y : Mem) (H : Heap) (locs : List Loc) (ls : Array Slot), XI B X → va_P D vwCl (W2 E F cI cC X Y) H → va_D (lA s) (W2 E F cI cC X Y) → va_S (lA s) s.heap H locs → lv_has ls 12 [(6, .int (iI to)), (5, .int (iI t0)), (4, .int (iI (fL_state B).1)), (3, .int (iI (B 0 77))), (2, .ref (F 0)), (1, .ref (E 0)), (0, .ref b)] → W p l e room_1 s m args below meth c H locs (cells + 500) (slots + 6 * 500) Q (F0 m 240 ls [])) : W p l e room_1 s m args below meth c H locs cells slots Q (F0 m 187 ls []) := by
  have hx := K.hx
  have hb := K.hb
  obtain ⟨V, uE, hV⟩ := uX
  obtain ⟨V1, V2, v, v2, e1, r1, o1, e2, r2, o2, R2⟩ := uY
  refine lv_aload_n hx hb dL_law_187 rfl (lv_at hl 5 rfl) ?_
  refine z_bipush hx hb dL_law_188 (by decide +kernel) ?_
  refine wx_V (As := [.int (iI 11)]) (rest := []) K (kX8_account l K.hst D E cI cC T X5 11 (by decide) o5.1 o5.2.1 o5.2.2.1 0 (X5 9 0) X5 (acc11 X5)) (cwV 1 K.hts gL_law_X8_account rfl rfl rfl (by decide +kernel) ⟨(Nat.le_of_ble_eq_true rfl), (Nat.le_of_ble_eq_true rfl)⟩) hP hD hS rfl hl.1 rfl (Nat.le_of_ble_eq_true rfl) dL_law_190 ⟨by show _ + _ ≤ 600390; omega, by show _ + _ ≤ 7289640; omega⟩ (fun H locs hP hD hS => ?_)
  refine lv_istore (lv' := [(7, .int (iI (X5 9 0))), (6, .int (iI to)), (5, .int (iI t0)), (4, .int (iI (fL_state B).1)), (3, .int (iI (B 0 77))), (2, .ref (F 0)), (1, .ref (E 0)), (0, .ref b)]) hx hb dL_law_193 hl (by decide) rfl (fun ls hl => ?_)
  refine lv_aload_n hx hb dL_law_195 rfl (lv_at hl 6 rfl) ?_
  refine wx_V (As := []) (rest := []) K (kX8_undo l K.hst D E cI cC T X5  o5.2.2.2.1 0 (X5 9 0 - 1) V uE) (cwV 0 K.hts gL_law_X8_undo rfl rfl rfl (by decide +kernel) ⟨(Nat.le_of_ble_eq_true rfl), (Nat.le_of_ble_eq_true rfl)⟩) hP hD hS rfl hl.1 rfl (Nat.le_of_ble_eq_true rfl) dL_law_196 ⟨by show _ + _ ≤ 600390; omega, by show _ + _ ≤ 7289640; omega⟩ (fun H locs hP hD hS => ?_)
  refine lv_iload hx hb dL_law_199 (lv_at hl 0 rfl) ?_
  refine z_iconst hx hb dL_law_201 ?_
  refine z_isub hx hb dL_law_202 ?_
  refine w_ne_same K (a := (X5 9 0 - 1)) (b2 := ((X5 9 0) - 1)) (rfl) dL_law_203 (tgt := 238) rfl ?_
  refine lv_aload_n hx hb dL_law_206 rfl (lv_at hl 6 rfl) ?_
  refine wx_S (As := [.ref (E 0)]) (rest := []) K (kL_state l K.hst D E cI cC T V hV.1.1 hV.1.2.1 hV.1.2.2.1) (va_cwS 1 K.hts gL_law_L_state rfl rfl rfl (by decide +kernel) ⟨(Nat.le_of_ble_eq_true rfl), (Nat.le_of_ble_eq_true rfl)⟩) (ZC_bl E cI cC T) (lz_C K (w2_x hD) hS) hP hD hS rfl hl.1 rfl (Nat.le_of_ble_eq_true rfl) dL_law_207 ⟨by show _ + _ ≤ 600390; omega, by show _ + _ ≤ 7289640; omega⟩ (fun H locs hP hD hS => ?_)
  rw [XI_now hV]
  have hV2 := XI_state hV
  refine lv_iload hx hb dL_law_210 (lv_at hl 3 rfl) ?_
  refine w_ne_same K (a := (fL_state B).1) (b2 := (fL_state B).1) (rfl) dL_law_212 (tgt := 238) rfl ?_
  refine lv_aload_n hx hb dL_law_215 rfl (lv_at hl 5 rfl) ?_
  refine wy_V (As := []) (rest := []) K (kX8_undo l K.hst D F cI cC T Y5  oY.2.2.2.1 0 v V1 e1) (cwV 0 K.hts gL_law_X8_undo rfl rfl rfl (by decide +kernel) ⟨(Nat.le_of_ble_eq_true rfl), (Nat.le_of_ble_eq_true rfl)⟩) hP hD hS rfl hl.1 rfl (Nat.le_of_ble_eq_true rfl) dL_law_216 ⟨by show _ + _ ≤ 600390; omega, by show _ + _ ≤ 7289640; omega⟩ (fun H locs hP hD hS => ?_)
  refine z_if_lt hx hb dL_law_219 (tgt := 238) rfl ⟨by omega, by omega⟩ (fun hbr => absurd hbr (by omega)) (fun hbr => ?_)
  refine lv_aload_n hx hb dL_law_222 rfl (lv_at hl 5 rfl) ?_
  refine wy_V (As := []) (rest := []) K (kX8_undo l K.hst D F cI cC T V1  o1.2.2.2.1 0 v2 V2 e2) (cwV 0 K.hts gL_law_X8_undo rfl rfl rfl (by decide +kernel) ⟨(Nat.le_of_ble_eq_true rfl), (Nat.le_of_ble_eq_true rfl)⟩) hP hD hS rfl hl.1 rfl (Nat.le_of_ble_eq_true rfl) dL_law_223 ⟨by show _ + _ ≤ 600390; omega, by show _ + _ ≤ 7289640; omega⟩ (fun H locs hP hD hS => ?_)
  refine z_if_lt hx hb dL_law_226 (tgt := 238) rfl ⟨by omega, by omega⟩ (fun hbr => absurd hbr (by omega)) (fun hbr => ?_)
  refine lv_aload_n hx hb dL_law_229 rfl (lv_at hl 5 rfl) ?_
  refine wy_S (As := [.ref (F 0)]) (rest := []) K (kL_state l K.hst D F cI cC T V2 o2.1 o2.2.1 o2.2.2.1) (va_cwS 1 K.hts gL_law_L_state rfl rfl rfl (by decide +kernel) ⟨(Nat.le_of_ble_eq_true rfl), (Nat.le_of_ble_eq_true rfl)⟩) (ZC_bl F cI cC T) (lz_C K (w2_y hD) hS) hP hD hS rfl hl.1 rfl (Nat.le_of_ble_eq_true rfl) dL_law_230 ⟨by show _ + _ ≤ 600390; omega, by show _ + _ ≤ 7289640; omega⟩ (fun H locs hP hD hS => ?_)
  rw [state_c R2]
  refine lv_iload hx hb dL_law_233 (lv_at hl 3 rfl) ?_
  refine w_eq_same K (a := (fL_state B).1) (b2 := (fL_state B).1) (rfl) dL_law_235 (tgt := 240) rfl ?_
  exact W.widen (by omega) (by omega) (next _ _ H locs ls hV2 hP hD hS (lv_sub hl [1, 2, 3, 4, 5, 6, 7] rfl))
set_option maxRecDepth 100000 in
set_option maxHeartbeats 4000000 in
theorem sg4 (K : LC p l s m args c D cI cC cB T b L xs S Tt tO) (hB : BI B) (h1 : 1 ≤ B 0 77) {to t0 : Int} {X Y : Mem} (hX : XI B X) (hP : va_P D vwCl (W2 E F cI cC X Y) H) (hD : va_D (lA s) (W2 E F cI cC X Y)) (hS : va_S (lA s) s.heap H locs) (hl : lv_has ls 12 [(6, .int (iI to)), (5, .int (iI t0)), (4, .int (iI (fL_state B).1)), (3, .int (iI (B 0 77))), (2, .ref (F 0)), (1, .ref (E 0)), (0, .ref b)]) (hc : cells + 500 ≤ 600390) (hs : slots + 6 * 500 ≤ 7289640)
    (next : ∀ (X2 Y : Mem) (H : Heap) (locs : List Loc) (ls : Array Slot), XI B X2 → va_P D vwCl (W2 E F cI cC X2 Y) H → va_D (lA s) (W2 E F cI cC X2 Y) → va_S (lA s) s.heap H locs → lv_has ls 12 [(6, .int (iI to)), (5, .int (iI t0)), (4, .int (iI (fL_state B).1)), (3, .int (iI (B 0 77))), (2, .ref (F 0)), (1, .ref (E 0)), (0, .ref b)] → W p l e room_1 s m args below meth c H locs (cells + 500) (slots + 6 * 500) Q (F0 m 294 ls [])) : W p l e room_1 s m args below meth c H locs cells slots Q (F0 m 240 ls []) := by
  have hx := K.hx
  have hb := K.hb
  refine lv_aload_n hx hb dL_law_240 rfl (lv_at hl 5 rfl) ?_
  refine w_ldc K (K.str 4 (by decide)).1 dL_law_241 ?_
  have hXp := XI_put hX 9 tC (by decide) (cA_e (l := sCs 4) (sCA 4 (by decide)))
  refine wx_S (As := [.ref (E 0), .ref (S 4)]) (rest := []) K (kL_put l K.hst D E cI cC T X (S 4) (Tt 4) 9 tC (by decide) (cA_e (l := sCs 4) (sCA 4 (by decide))) hX.1.2.2.1 (by rw [hX.2.1]; decide)) (va_cwS 2 K.hts gL_law_L_put rfl rfl rfl (by decide +kernel) ⟨(Nat.le_of_ble_eq_true rfl), (Nat.le_of_ble_eq_true rfl)⟩) (ZS_bl E cI cC T (S 4) (Tt 4) 9 tC) (zs_x K hD hS (q := S 4) (t := Tt 4) (n := 9) (g := tC) (lit_x K hD hS (K.str 4 (by decide)).2)) hP hD hS rfl hl.1 rfl (Nat.le_of_ble_eq_true rfl) dL_law_243 ⟨by show _ + _ ≤ 600390; omega, by show _ + _ ≤ 7289640; omega⟩ (fun H locs hP hD hS => ?_)
  obtain ⟨er, p1, ha, hb1, hd⟩ := pC
  obtain ⟨N, rE, hN, h18, h19⟩ := x_no1 hX 9 tC (by decide) (cA_e (l := sCs 4) (sCA 4 (by decide))) er p1 (by decide) ha hb1 hd (mv_no hB.1) (by decide)
  have h19 : N 19 0 = 0 := h19
  have hr18 : 0 ≤ N 18 0 ∧ N 18 0 ≤ 1000 := by rw [h18]; decide
  have hr19 : 0 ≤ N 19 0 ∧ N 19 0 ≤ 1000 := by rw [h19]; decide
  refine lv_aload_n hx hb dL_law_246 rfl (lv_at hl 5 rfl) ?_
  refine wx_SW (As := [.ref (E 0)]) (rest := []) K (kL_runs l K.hst D E cI cC T (fL_put X 9 tC) hXp.1.1 hXp.1.2.1 hXp.1.2.2.1 hXp.1.2.2.2.1) (vx_cwSW 1 K.hts gL_law_L_runs rfl rfl rfl (by decide +kernel) ⟨(Nat.le_of_ble_eq_true rfl), (Nat.le_of_ble_eq_true rfl)⟩) (ZL_bl E cI cC T) (lz_L K (w2_x hD) hS) hP hD hS rfl hl.1 rfl (Nat.le_of_ble_eq_true rfl) dL_law_247 ⟨by show _ + _ ≤ 600390; omega, by show _ + _ ≤ 7289640; omega⟩ (fun H locs hP hD hS => ?_)
  rw [(run_no rE).1]
  rw [(run_no rE).2] at hP hD
  refine z_bipush hx hb dL_law_250 (by decide +kernel) ?_
  refine w_ne_same K (a := (-2)) (b2 := (-2)) (rfl) dL_law_252 (tgt := 292) rfl ?_
  refine lv_aload_n hx hb dL_law_255 rfl (lv_at hl 5 rfl) ?_
  refine z_iconst hx hb dL_law_256 ?_
  refine z_iconst hx hb dL_law_257 ?_
  refine wx_V (As := [.int (iI 0), .int (iI 0)]) (rest := []) K (kX8_refusal l K.hst D E cI cC T N 0 0 (by decide) (by decide) hr18 hr19 0 9 ((ref_ff h18 (by decide)).trans (by rfl))) (cwV 2 K.hts gL_law_X8_refusal rfl rfl rfl (by decide +kernel) ⟨(Nat.le_of_ble_eq_true rfl), (Nat.le_of_ble_eq_true rfl)⟩) hP hD hS rfl hl.1 rfl (Nat.le_of_ble_eq_true rfl) dL_law_258 ⟨by show _ + _ ≤ 600390; omega, by show _ + _ ≤ 7289640; omega⟩ (fun H locs hP hD hS => ?_)
  refine z_bipush hx hb dL_law_261 (by decide +kernel) ?_
  refine w_ne_same K (a := 9) (b2 := 9) (rfl) dL_law_263 (tgt := 292) rfl ?_
  refine lv_aload_n hx hb dL_law_266 rfl (lv_at hl 5 rfl) ?_
  refine z_iconst hx hb dL_law_267 ?_
  refine z_iconst hx hb dL_law_268 ?_
  refine wx_V (As := [.int (iI 0), .int (iI 1)]) (rest := []) K (kX8_refusal l K.hst D E cI cC T N 0 1 (by decide) (by decide) hr18 hr19 0 0 ((ref_ft h18 (by decide)).trans (by rfl))) (cwV 2 K.hts gL_law_X8_refusal rfl rfl rfl (by decide +kernel) ⟨(Nat.le_of_ble_eq_true rfl), (Nat.le_of_ble_eq_true rfl)⟩) hP hD hS rfl hl.1 rfl (Nat.le_of_ble_eq_true rfl) dL_law_269 ⟨by show _ + _ ≤ 600390; omega, by show _ + _ ≤ 7289640; omega⟩ (fun H locs hP hD hS => ?_)
  refine z_if_ne hx hb dL_law_272 (tgt := 292) rfl (by decide) (fun hbr => absurd rfl hbr) (fun hbr => ?_)
  refine lv_aload_n hx hb dL_law_275 rfl (lv_at hl 5 rfl) ?_
  refine wx_SW (As := [.ref (E 0)]) (rest := []) K (kL_cause l K.hst D E cI cC T N hr18 hr19) (vx_cwSW 1 K.hts gL_law_L_cause rfl rfl rfl (by decide +kernel) ⟨(Nat.le_of_ble_eq_true rfl), (Nat.le_of_ble_eq_true rfl)⟩) (ZL_bl E cI cC T) (lz_L K (w2_x hD) hS) hP hD hS rfl hl.1 rfl (Nat.le_of_ble_eq_true rfl) dL_law_276 ⟨by show _ + _ ≤ 600390; omega, by show _ + _ ≤ 7289640; omega⟩ (fun H locs hP hD hS => ?_)
  rw [cau_n h19]
  refine z_iconst hx hb dL_law_279 ?_
  refine w_ne_same K (a := (-1)) (b2 := (-1)) (rfl) dL_law_280 (tgt := 292) rfl ?_
  refine lv_aload_n hx hb dL_law_283 rfl (lv_at hl 5 rfl) ?_
  refine wx_S (As := [.ref (E 0)]) (rest := []) K (kL_state l K.hst D E cI cC T N hN.1.1 hN.1.2.1 hN.1.2.2.1) (va_cwS 1 K.hts gL_law_L_state rfl rfl rfl (by decide +kernel) ⟨(Nat.le_of_ble_eq_true rfl), (Nat.le_of_ble_eq_true rfl)⟩) (ZC_bl E cI cC T) (lz_C K (w2_x hD) hS) hP hD hS rfl hl.1 rfl (Nat.le_of_ble_eq_true rfl) dL_law_284 ⟨by show _ + _ ≤ 600390; omega, by show _ + _ ≤ 7289640; omega⟩ (fun H locs hP hD hS => ?_)
  rw [XI_now hN]
  have hN2 := XI_state hN
  refine lv_iload hx hb dL_law_287 (lv_at hl 2 rfl) ?_
  refine w_eq_same K (a := (fL_state B).1) (b2 := (fL_state B).1) (rfl) dL_law_289 (tgt := 294) rfl ?_
  exact W.widen (by omega) (by omega) (next _ _ H locs ls hN2 hP hD hS hl)
end
