/-! THE LAW, walked: the third object, to its last call (written by mk14h.py). -/
section
variable {p : Program} {l : Launch} {e : Env} {s : State} {m : MethodId} {args : Array Value} {below : List Frame} {meth : Method} {c : Code} {H : Heap} {locs : List Loc} {cells slots : Nat} {Q : State → Prop}
variable {ls : Array Slot} {D : va_G} {cI cC cB : ClassId} {T S Tt : Nat → Nat} {tO b L : Nat} {xs : Nat → Int32} {E F : Nat → Nat} {B : Mem}
set_option maxRecDepth 100000 in
set_option maxHeartbeats 4000000 in
theorem sz4 (K : LC p l s m args c D cI cC cB T b L xs S Tt tO) {ka : Fin 4} {X Z : Mem} (zz : ZI (zC7 (ka.val : Int)) Z) (hP : va_P D vwCl (W2 E F cI cC X Z) H) (hD : va_D (lA s) (W2 E F cI cC X Z)) (hS : va_S (lA s) s.heap H locs) (hl : lv_has ls 12 [(11, .ref (F 0)), (10, .int (iI (bb (ka.val : Int)))), (9, .int (iI (ka.val : Int))), (4, .int (iI (fL_state B).1)), (3, .int (iI (B 0 77))), (1, .ref (E 0))]) (hc : cells + 1500 ≤ 600390) (hs : slots + 6 * 1500 ≤ 7289640)
    (next : ∀ (Z2 : Mem) (H : Heap) (locs : List Loc) (ls : Array Slot), ZI (zC16 (ka.val : Int)) Z2 → va_P D vwCl (W2 E F cI cC X Z2) H → va_D (lA s) (W2 E F cI cC X Z2) → va_S (lA s) s.heap H locs → lv_has ls 12 [(11, .ref (F 0)), (10, .int (iI (bb (ka.val : Int)))), (9, .int (iI (ka.val : Int))), (4, .int (iI (fL_state B).1)), (3, .int (iI (B 0 77))), (1, .ref (E 0))] → W p l e room_1 s m args below meth c H locs (cells + 1500) (slots + 6 * 1500) Q (F0 m 1509 ls [])) : W p l e room_1 s m args below meth c H locs cells slots Q (F0 m 1174 ls []) := by
  have hx := K.hx
  have hb := K.hb
  refine lv_aload hx hb dL_law_1174 (lv_at hl 0 rfl) ?_
  refine z_iconst hx hb dL_law_1176 ?_
  obtain ⟨e45, z45⟩ := zc_fine zz 3 4 0 0 (zf_7t ka) (zf_7t_c ka)
  refine wy_V (As := [.int (iI 4)]) (rest := []) K (kX8_take l K.hst D F cI cC T Z 4 (by decide) zz.1.1 zz.1.2.1 zz.1.2.2.2.1 0 3 (cM Z 3 4 0 0) (ch_take e45)) (cwV 1 K.hts gL_law_X8_take rfl rfl rfl (by decide +kernel) ⟨(Nat.le_of_ble_eq_true rfl), (Nat.le_of_ble_eq_true rfl)⟩) hP hD hS rfl hl.1 rfl (Nat.le_of_ble_eq_true rfl) dL_law_1177 ⟨by show _ + _ ≤ 600390; omega, by show _ + _ ≤ 7289640; omega⟩ (fun H locs hP hD hS => ?_)
  refine z_iconst hx hb dL_law_1180 ?_
  refine w_ne_same K (a := 3) (b2 := 3) (rfl) dL_law_1181 (tgt := 1507) rfl ?_
  refine lv_aload hx hb dL_law_1184 (lv_at hl 0 rfl) ?_
  refine z_iconst hx hb dL_law_1186 ?_
  refine z_iconst hx hb dL_law_1187 ?_
  refine z_iconst hx hb dL_law_1188 ?_
  obtain ⟨N46, e46, z46, -⟩ := zq_phraseOf z45 1 0 2 (zf_8a ka)
  refine wy_V (As := [.int (iI 1), .int (iI 0), .int (iI 2)]) (rest := []) K (kX8_phraseOf l K.hst D F cI cC T (cM Z 3 4 0 0) 1 0 2 (by decide) (by decide) (by decide) z45.1.1 z45.1.2.1 0 3 N46 e46) (cwV 3 K.hts gL_law_X8_phraseOf rfl rfl rfl (by decide +kernel) ⟨(Nat.le_of_ble_eq_true rfl), (Nat.le_of_ble_eq_true rfl)⟩) hP hD hS rfl hl.1 rfl (Nat.le_of_ble_eq_true rfl) dL_law_1189 ⟨by show _ + _ ≤ 600390; omega, by show _ + _ ≤ 7289640; omega⟩ (fun H locs hP hD hS => ?_)
  refine z_iconst hx hb dL_law_1192 ?_
  refine w_ne_same K (a := 3) (b2 := 3) (rfl) dL_law_1193 (tgt := 1507) rfl ?_
  refine lv_aload hx hb dL_law_1196 (lv_at hl 0 rfl) ?_
  refine z_iconst hx hb dL_law_1198 ?_
  obtain ⟨N47, e47, z47, -⟩ := zq_next z46 1 (zf_8n ka)
  refine wy_V (As := [.int (iI 1)]) (rest := []) K (kX8_next l K.hst D F cI cC T N46 1 (by decide) z46.1.1 z46.1.2.1 0 16 N47 e47) (cwV 1 K.hts gL_law_X8_next rfl rfl rfl (by decide +kernel) ⟨(Nat.le_of_ble_eq_true rfl), (Nat.le_of_ble_eq_true rfl)⟩) hP hD hS rfl hl.1 rfl (Nat.le_of_ble_eq_true rfl) dL_law_1199 ⟨by show _ + _ ≤ 600390; omega, by show _ + _ ≤ 7289640; omega⟩ (fun H locs hP hD hS => ?_)
  refine z_bipush hx hb dL_law_1202 (by decide +kernel) ?_
  refine w_ne_same K (a := 16) (b2 := 16) (rfl) dL_law_1204 (tgt := 1507) rfl ?_
  refine lv_aload hx hb dL_law_1207 (lv_at hl 0 rfl) ?_
  refine z_bipush hx hb dL_law_1209 (by decide +kernel) ?_
  refine z_iconst hx hb dL_law_1211 ?_
  refine z_iconst hx hb dL_law_1212 ?_
  refine z_iconst hx hb dL_law_1213 ?_
  obtain ⟨e48, z48, h18, h19⟩ := zc_no z47 4 3 0 0 (zf_8w ka) (by decide)
  refine wy_SW (As := [.ref (F 0), .int (iI 7), .int (iI 3), .int (iI 0), .int (iI 0)]) (rest := []) K (kA_7 l K.hst D F cI cC T N47 3 0 0 (by decide) z47.1.1 z47.1.2.1 z47.1.2.2.2.1) (vx_cwSW 5 K.hts gL_law_L_act rfl rfl rfl (by decide +kernel) ⟨(Nat.le_of_ble_eq_true rfl), (Nat.le_of_ble_eq_true rfl)⟩) (ZL_bl F cI cC T) (lz_L K (w2_y hD) hS) hP hD hS rfl hl.1 rfl (Nat.le_of_ble_eq_true rfl) dL_law_1214 ⟨by show _ + _ ≤ 600390; omega, by show _ + _ ≤ 7289640; omega⟩ (fun H locs hP hD hS => ?_)
  rw [act_no e48 (fX8_wash N47 3) rfl]
  have hr18 : 0 ≤ cM N47 4 3 0 0 18 0 ∧ cM N47 4 3 0 0 18 0 ≤ 1000 := by rw [h18]; decide
  have hr19 : 0 ≤ cM N47 4 3 0 0 19 0 ∧ cM N47 4 3 0 0 19 0 ≤ 1000 := by rw [h19]; decide
  refine z_bipush hx hb dL_law_1217 (by decide +kernel) ?_
  refine w_ne_same K (a := (-2)) (b2 := (-2)) (rfl) dL_law_1219 (tgt := 1507) rfl ?_
  refine lv_aload hx hb dL_law_1222 (lv_at hl 0 rfl) ?_
  refine z_iconst hx hb dL_law_1224 ?_
  refine z_iconst hx hb dL_law_1225 ?_
  refine wy_V (As := [.int (iI 0), .int (iI 0)]) (rest := []) K (kX8_refusal l K.hst D F cI cC T (cM N47 4 3 0 0) 0 0 (by decide) (by decide) hr18 hr19 0 4 ((ref_ff h18 (by decide)).trans (by rfl))) (cwV 2 K.hts gL_law_X8_refusal rfl rfl rfl (by decide +kernel) ⟨(Nat.le_of_ble_eq_true rfl), (Nat.le_of_ble_eq_true rfl)⟩) hP hD hS rfl hl.1 rfl (Nat.le_of_ble_eq_true rfl) dL_law_1226 ⟨by show _ + _ ≤ 600390; omega, by show _ + _ ≤ 7289640; omega⟩ (fun H locs hP hD hS => ?_)
  refine z_iconst hx hb dL_law_1229 ?_
  refine w_ne_same K (a := 4) (b2 := 4) (rfl) dL_law_1230 (tgt := 1507) rfl ?_
  refine lv_aload hx hb dL_law_1233 (lv_at hl 0 rfl) ?_
  refine z_iconst hx hb dL_law_1235 ?_
  refine z_iconst hx hb dL_law_1236 ?_
  refine wy_V (As := [.int (iI 0), .int (iI 1)]) (rest := []) K (kX8_refusal l K.hst D F cI cC T (cM N47 4 3 0 0) 0 1 (by decide) (by decide) hr18 hr19 0 1 ((ref_ft h18 (by decide)).trans (by rfl))) (cwV 2 K.hts gL_law_X8_refusal rfl rfl rfl (by decide +kernel) ⟨(Nat.le_of_ble_eq_true rfl), (Nat.le_of_ble_eq_true rfl)⟩) hP hD hS rfl hl.1 rfl (Nat.le_of_ble_eq_true rfl) dL_law_1237 ⟨by show _ + _ ≤ 600390; omega, by show _ + _ ≤ 7289640; omega⟩ (fun H locs hP hD hS => ?_)
  refine z_iconst hx hb dL_law_1240 ?_
  refine w_ne_same K (a := 1) (b2 := 1) (rfl) dL_law_1241 (tgt := 1507) rfl ?_
  refine lv_aload hx hb dL_law_1244 (lv_at hl 0 rfl) ?_
  refine z_iconst hx hb dL_law_1246 ?_
  obtain ⟨e49, z49⟩ := zc_fine z48 3 3 0 0 (zf_8t ka) (zf_8t_c ka)
  refine wy_V (As := [.int (iI 3)]) (rest := []) K (kX8_take l K.hst D F cI cC T (cM N47 4 3 0 0) 3 (by decide) z48.1.1 z48.1.2.1 z48.1.2.2.2.1 0 3 (cM (cM N47 4 3 0 0) 3 3 0 0) (ch_take e49)) (cwV 1 K.hts gL_law_X8_take rfl rfl rfl (by decide +kernel) ⟨(Nat.le_of_ble_eq_true rfl), (Nat.le_of_ble_eq_true rfl)⟩) hP hD hS rfl hl.1 rfl (Nat.le_of_ble_eq_true rfl) dL_law_1247 ⟨by show _ + _ ≤ 600390; omega, by show _ + _ ≤ 7289640; omega⟩ (fun H locs hP hD hS => ?_)
  refine z_iconst hx hb dL_law_1250 ?_
  refine w_ne_same K (a := 3) (b2 := 3) (rfl) dL_law_1251 (tgt := 1507) rfl ?_
  refine lv_aload hx hb dL_law_1254 (lv_at hl 0 rfl) ?_
  refine z_bipush hx hb dL_law_1256 (by decide +kernel) ?_
  refine z_iconst hx hb dL_law_1258 ?_
  refine z_iconst hx hb dL_law_1259 ?_
  refine z_iconst hx hb dL_law_1260 ?_
  obtain ⟨e50, z50, h18, h19⟩ := zc_no z49 4 3 0 0 (zf_9w ka) (by decide)
  refine wy_SW (As := [.ref (F 0), .int (iI 7), .int (iI 3), .int (iI 0), .int (iI 0)]) (rest := []) K (kA_7 l K.hst D F cI cC T (cM (cM N47 4 3 0 0) 3 3 0 0) 3 0 0 (by decide) z49.1.1 z49.1.2.1 z49.1.2.2.2.1) (vx_cwSW 5 K.hts gL_law_L_act rfl rfl rfl (by decide +kernel) ⟨(Nat.le_of_ble_eq_true rfl), (Nat.le_of_ble_eq_true rfl)⟩) (ZL_bl F cI cC T) (lz_L K (w2_y hD) hS) hP hD hS rfl hl.1 rfl (Nat.le_of_ble_eq_true rfl) dL_law_1261 ⟨by show _ + _ ≤ 600390; omega, by show _ + _ ≤ 7289640; omega⟩ (fun H locs hP hD hS => ?_)
  rw [act_no e50 (fX8_wash (cM (cM N47 4 3 0 0) 3 3 0 0) 3) rfl]
  have hr18 : 0 ≤ cM (cM (cM N47 4 3 0 0) 3 3 0 0) 4 3 0 0 18 0 ∧ cM (cM (cM N47 4 3 0 0) 3 3 0 0) 4 3 0 0 18 0 ≤ 1000 := by rw [h18]; decide
  have hr19 : 0 ≤ cM (cM (cM N47 4 3 0 0) 3 3 0 0) 4 3 0 0 19 0 ∧ cM (cM (cM N47 4 3 0 0) 3 3 0 0) 4 3 0 0 19 0 ≤ 1000 := by rw [h19]; decide
  refine z_bipush hx hb dL_law_1264 (by decide +kernel) ?_
  refine w_ne_same K (a := (-2)) (b2 := (-2)) (rfl) dL_law_1266 (tgt := 1507) rfl ?_
  refine lv_aload hx hb dL_law_1269 (lv_at hl 0 rfl) ?_
  refine z_iconst hx hb dL_law_1271 ?_
  refine z_iconst hx hb dL_law_1272 ?_
  refine wy_V (As := [.int (iI 0), .int (iI 0)]) (rest := []) K (kX8_refusal l K.hst D F cI cC T (cM (cM (cM N47 4 3 0 0) 3 3 0 0) 4 3 0 0) 0 0 (by decide) (by decide) hr18 hr19 0 7 ((ref_ff h18 (by decide)).trans (by rfl))) (cwV 2 K.hts gL_law_X8_refusal rfl rfl rfl (by decide +kernel) ⟨(Nat.le_of_ble_eq_true rfl), (Nat.le_of_ble_eq_true rfl)⟩) hP hD hS rfl hl.1 rfl (Nat.le_of_ble_eq_true rfl) dL_law_1273 ⟨by show _ + _ ≤ 600390; omega, by show _ + _ ≤ 7289640; omega⟩ (fun H locs hP hD hS => ?_)
  refine z_bipush hx hb dL_law_1276 (by decide +kernel) ?_
  refine w_ne_same K (a := 7) (b2 := 7) (rfl) dL_law_1278 (tgt := 1507) rfl ?_
  refine lv_aload hx hb dL_law_1281 (lv_at hl 0 rfl) ?_
  refine z_iconst hx hb dL_law_1283 ?_
  refine z_bipush hx hb dL_law_1284 (by decide +kernel) ?_
  obtain ⟨e51, z51⟩ := zc_fine z50 8 3 9 0 (zf_9s ka) (zf_9s_c ka)
  refine wy_V (As := [.int (iI 3), .int (iI 9)]) (rest := []) K (kX8_stain l K.hst D F cI cC T (cM (cM (cM N47 4 3 0 0) 3 3 0 0) 4 3 0 0) 3 9 (by decide) (by decide) z50.1.1 z50.1.2.1 z50.1.2.2.2.1 0 9 (cM (cM (cM (cM N47 4 3 0 0) 3 3 0 0) 4 3 0 0) 8 3 9 0) (ch_stain e51)) (cwV 2 K.hts gL_law_X8_stain rfl rfl rfl (by decide +kernel) ⟨(Nat.le_of_ble_eq_true rfl), (Nat.le_of_ble_eq_true rfl)⟩) hP hD hS rfl hl.1 rfl (Nat.le_of_ble_eq_true rfl) dL_law_1286 ⟨by show _ + _ ≤ 600390; omega, by show _ + _ ≤ 7289640; omega⟩ (fun H locs hP hD hS => ?_)
  refine z_bipush hx hb dL_law_1289 (by decide +kernel) ?_
  refine w_ne_same K (a := 9) (b2 := 9) (rfl) dL_law_1291 (tgt := 1507) rfl ?_
  refine lv_aload hx hb dL_law_1294 (lv_at hl 0 rfl) ?_
  refine z_bipush hx hb dL_law_1296 (by decide +kernel) ?_
  refine z_iconst hx hb dL_law_1298 ?_
  refine z_iconst hx hb dL_law_1299 ?_
  refine z_iconst hx hb dL_law_1300 ?_
  obtain ⟨e52, z52, h18, h19⟩ := zc_no z51 8 3 1 0 (zf_10s ka) (by decide)
  refine wy_SW (As := [.ref (F 0), .int (iI 6), .int (iI 3), .int (iI 1), .int (iI 0)]) (rest := []) K (kA_6 l K.hst D F cI cC T (cM (cM (cM (cM N47 4 3 0 0) 3 3 0 0) 4 3 0 0) 8 3 9 0) 3 1 0 (by decide) (by decide) z51.1.1 z51.1.2.1 z51.1.2.2.2.1) (vx_cwSW 5 K.hts gL_law_L_act rfl rfl rfl (by decide +kernel) ⟨(Nat.le_of_ble_eq_true rfl), (Nat.le_of_ble_eq_true rfl)⟩) (ZL_bl F cI cC T) (lz_L K (w2_y hD) hS) hP hD hS rfl hl.1 rfl (Nat.le_of_ble_eq_true rfl) dL_law_1301 ⟨by show _ + _ ≤ 600390; omega, by show _ + _ ≤ 7289640; omega⟩ (fun H locs hP hD hS => ?_)
  rw [act_no e52 (fX8_stain (cM (cM (cM (cM N47 4 3 0 0) 3 3 0 0) 4 3 0 0) 8 3 9 0) 3 1) rfl]
  have hr18 : 0 ≤ cM (cM (cM (cM (cM N47 4 3 0 0) 3 3 0 0) 4 3 0 0) 8 3 9 0) 8 3 1 0 18 0 ∧ cM (cM (cM (cM (cM N47 4 3 0 0) 3 3 0 0) 4 3 0 0) 8 3 9 0) 8 3 1 0 18 0 ≤ 1000 := by rw [h18]; decide
  have hr19 : 0 ≤ cM (cM (cM (cM (cM N47 4 3 0 0) 3 3 0 0) 4 3 0 0) 8 3 9 0) 8 3 1 0 19 0 ∧ cM (cM (cM (cM (cM N47 4 3 0 0) 3 3 0 0) 4 3 0 0) 8 3 9 0) 8 3 1 0 19 0 ≤ 1000 := by rw [h19]; decide
  refine z_bipush hx hb dL_law_1304 (by decide +kernel) ?_
  refine w_ne_same K (a := (-2)) (b2 := (-2)) (rfl) dL_law_1306 (tgt := 1507) rfl ?_
  refine lv_aload hx hb dL_law_1309 (lv_at hl 0 rfl) ?_
  refine z_iconst hx hb dL_law_1311 ?_
  refine z_iconst hx hb dL_law_1312 ?_
  refine wy_V (As := [.int (iI 0), .int (iI 1)]) (rest := []) K (kX8_refusal l K.hst D F cI cC T (cM (cM (cM (cM (cM N47 4 3 0 0) 3 3 0 0) 4 3 0 0) 8 3 9 0) 8 3 1 0) 0 1 (by decide) (by decide) hr18 hr19 0 9 ((ref_ft h18 (by decide)).trans (by rfl))) (cwV 2 K.hts gL_law_X8_refusal rfl rfl rfl (by decide +kernel) ⟨(Nat.le_of_ble_eq_true rfl), (Nat.le_of_ble_eq_true rfl)⟩) hP hD hS rfl hl.1 rfl (Nat.le_of_ble_eq_true rfl) dL_law_1313 ⟨by show _ + _ ≤ 600390; omega, by show _ + _ ≤ 7289640; omega⟩ (fun H locs hP hD hS => ?_)
  refine z_bipush hx hb dL_law_1316 (by decide +kernel) ?_
  refine w_ne_same K (a := 9) (b2 := 9) (rfl) dL_law_1318 (tgt := 1507) rfl ?_
  refine lv_aload hx hb dL_law_1321 (lv_at hl 0 rfl) ?_
  refine z_iconst hx hb dL_law_1323 ?_
  obtain ⟨e53, z53⟩ := zc_fine z52 4 3 0 0 (zf_10w ka) (zf_10w_c ka)
  refine wy_V (As := [.int (iI 3)]) (rest := []) K (kX8_wash l K.hst D F cI cC T (cM (cM (cM (cM (cM N47 4 3 0 0) 3 3 0 0) 4 3 0 0) 8 3 9 0) 8 3 1 0) 3 (by decide) z52.1.1 z52.1.2.1 z52.1.2.2.2.1 0 9 (cM (cM (cM (cM (cM (cM N47 4 3 0 0) 3 3 0 0) 4 3 0 0) 8 3 9 0) 8 3 1 0) 4 3 0 0) (ch_wash e53)) (cwV 1 K.hts gL_law_X8_wash rfl rfl rfl (by decide +kernel) ⟨(Nat.le_of_ble_eq_true rfl), (Nat.le_of_ble_eq_true rfl)⟩) hP hD hS rfl hl.1 rfl (Nat.le_of_ble_eq_true rfl) dL_law_1324 ⟨by show _ + _ ≤ 600390; omega, by show _ + _ ≤ 7289640; omega⟩ (fun H locs hP hD hS => ?_)
  refine z_bipush hx hb dL_law_1327 (by decide +kernel) ?_
  refine w_ne_same K (a := 9) (b2 := 9) (rfl) dL_law_1329 (tgt := 1507) rfl ?_
  refine lv_aload hx hb dL_law_1332 (lv_at hl 0 rfl) ?_
  refine z_iconst hx hb dL_law_1334 ?_
  refine z_iconst hx hb dL_law_1335 ?_
  refine wy_V (As := [.int (iI 3), .int (iI 1)]) (rest := []) K (kX8_napkinOf l K.hst D F cI cC T (cM (cM (cM (cM (cM (cM N47 4 3 0 0) 3 3 0 0) 4 3 0 0) 8 3 9 0) 8 3 1 0) 4 3 0 0) 3 1 (by decide) (by decide) z53.1.1 0 0 (zq_napkinOf z53 3 1 (zf_11a ka))) (cwV 2 K.hts gL_law_X8_napkinOf rfl rfl rfl (by decide +kernel) ⟨(Nat.le_of_ble_eq_true rfl), (Nat.le_of_ble_eq_true rfl)⟩) hP hD hS rfl hl.1 rfl (Nat.le_of_ble_eq_true rfl) dL_law_1336 ⟨by show _ + _ ≤ 600390; omega, by show _ + _ ≤ 7289640; omega⟩ (fun H locs hP hD hS => ?_)
  refine z_if_ne hx hb dL_law_1339 (tgt := 1507) rfl (by decide) (fun hbr => absurd rfl hbr) (fun hbr => ?_)
  refine lv_aload hx hb dL_law_1342 (lv_at hl 0 rfl) ?_
  refine z_iconst hx hb dL_law_1344 ?_
  refine z_iconst hx hb dL_law_1345 ?_
  refine wy_V (As := [.int (iI 3), .int (iI 2)]) (rest := []) K (kX8_napkinOf l K.hst D F cI cC T (cM (cM (cM (cM (cM (cM N47 4 3 0 0) 3 3 0 0) 4 3 0 0) 8 3 9 0) 8 3 1 0) 4 3 0 0) 3 2 (by decide) (by decide) z53.1.1 0 2 (zq_napkinOf z53 3 2 (zf_11b ka))) (cwV 2 K.hts gL_law_X8_napkinOf rfl rfl rfl (by decide +kernel) ⟨(Nat.le_of_ble_eq_true rfl), (Nat.le_of_ble_eq_true rfl)⟩) hP hD hS rfl hl.1 rfl (Nat.le_of_ble_eq_true rfl) dL_law_1346 ⟨by show _ + _ ≤ 600390; omega, by show _ + _ ≤ 7289640; omega⟩ (fun H locs hP hD hS => ?_)
  refine z_iconst hx hb dL_law_1349 ?_
  refine w_ne_same K (a := 2) (b2 := 2) (rfl) dL_law_1350 (tgt := 1507) rfl ?_
  refine lv_aload hx hb dL_law_1353 (lv_at hl 0 rfl) ?_
  refine z_bipush hx hb dL_law_1355 (by decide +kernel) ?_
  obtain ⟨N54, e54, z54, -⟩ := zq_account z53 (w := 9) (by decide) (zf_11c ka).2
  refine wy_V (As := [.int (iI 9)]) (rest := []) K (kX8_account l K.hst D F cI cC T (cM (cM (cM (cM (cM (cM N47 4 3 0 0) 3 3 0 0) 4 3 0 0) 8 3 9 0) 8 3 1 0) 4 3 0 0) 9 (by decide) z53.1.1 z53.1.2.1 z53.1.2.2.1 0 9 N54 e54) (cwV 1 K.hts gL_law_X8_account rfl rfl rfl (by decide +kernel) ⟨(Nat.le_of_ble_eq_true rfl), (Nat.le_of_ble_eq_true rfl)⟩) hP hD hS rfl hl.1 rfl (Nat.le_of_ble_eq_true rfl) dL_law_1357 ⟨by show _ + _ ≤ 600390; omega, by show _ + _ ≤ 7289640; omega⟩ (fun H locs hP hD hS => ?_)
  refine z_bipush hx hb dL_law_1360 (by decide +kernel) ?_
  refine w_ne_same K (a := 9) (b2 := 9) (rfl) dL_law_1362 (tgt := 1507) rfl ?_
  refine lv_aload hx hb dL_law_1365 (lv_at hl 0 rfl) ?_
  refine z_iconst hx hb dL_law_1367 ?_
  obtain ⟨e55, z55⟩ := zc_fine z54 2 1 0 0 (zf_11u ka) (zf_11u_c ka)
  refine wy_V (As := [.int (iI 1)]) (rest := []) K (kX8_unfold l K.hst D F cI cC T N54 1 (by decide) z54.1.1 z54.1.2.1 z54.1.2.2.2.1 0 2 (cM N54 2 1 0 0) (ch_unfold e55)) (cwV 1 K.hts gL_law_X8_unfold rfl rfl rfl (by decide +kernel) ⟨(Nat.le_of_ble_eq_true rfl), (Nat.le_of_ble_eq_true rfl)⟩) hP hD hS rfl hl.1 rfl (Nat.le_of_ble_eq_true rfl) dL_law_1368 ⟨by show _ + _ ≤ 600390; omega, by show _ + _ ≤ 7289640; omega⟩ (fun H locs hP hD hS => ?_)
  refine z_iconst hx hb dL_law_1371 ?_
  refine w_ne_same K (a := 2) (b2 := 2) (rfl) dL_law_1372 (tgt := 1507) rfl ?_
  refine lv_aload hx hb dL_law_1375 (lv_at hl 0 rfl) ?_
  refine z_iconst hx hb dL_law_1377 ?_
  obtain ⟨N56, e56, z56, -⟩ := zq_wrong z55 1 (zf_12w ka)
  refine wy_V (As := [.int (iI 1)]) (rest := []) K (kX8_wrong l K.hst D F cI cC T (cM N54 2 1 0 0) 1 (by decide) z55.1.1 z55.1.2.1 0 2 N56 e56) (cwV 1 K.hts gL_law_X8_wrong rfl rfl rfl (by decide +kernel) ⟨(Nat.le_of_ble_eq_true rfl), (Nat.le_of_ble_eq_true rfl)⟩) hP hD hS rfl hl.1 rfl (Nat.le_of_ble_eq_true rfl) dL_law_1378 ⟨by show _ + _ ≤ 600390; omega, by show _ + _ ≤ 7289640; omega⟩ (fun H locs hP hD hS => ?_)
  refine z_iconst hx hb dL_law_1381 ?_
  refine w_ne_same K (a := 2) (b2 := 2) (rfl) dL_law_1382 (tgt := 1507) rfl ?_
  refine lv_aload hx hb dL_law_1385 (lv_at hl 0 rfl) ?_
  refine z_iconst hx hb dL_law_1387 ?_
  obtain ⟨N57, e57, z57, -⟩ := zq_next z56 1 (zf_12n ka)
  refine wy_V (As := [.int (iI 1)]) (rest := []) K (kX8_next l K.hst D F cI cC T N56 1 (by decide) z56.1.1 z56.1.2.1 0 6 N57 e57) (cwV 1 K.hts gL_law_X8_next rfl rfl rfl (by decide +kernel) ⟨(Nat.le_of_ble_eq_true rfl), (Nat.le_of_ble_eq_true rfl)⟩) hP hD hS rfl hl.1 rfl (Nat.le_of_ble_eq_true rfl) dL_law_1388 ⟨by show _ + _ ≤ 600390; omega, by show _ + _ ≤ 7289640; omega⟩ (fun H locs hP hD hS => ?_)
  refine z_bipush hx hb dL_law_1391 (by decide +kernel) ?_
  refine w_ne_same K (a := 6) (b2 := 6) (rfl) dL_law_1393 (tgt := 1507) rfl ?_
  refine lv_aload hx hb dL_law_1396 (lv_at hl 0 rfl) ?_
  refine lv_aload hx hb dL_law_1398 (lv_at hl 0 rfl) ?_
  refine z_iconst hx hb dL_law_1400 ?_
  obtain ⟨N58, e58, z58, -, -, hw58⟩ := zq_show z57 1 (by decide) (zf_12s ka)
  refine wy_V (As := [.int (iI 1)]) (rest := [.ref (F 0)]) K (kX8_show l K.hst D F cI cC T N57 1 (by decide) z57.1.1 z57.1.2.2.2.2 0 7 N58 e58) (cwV 1 K.hts gL_law_X8_show rfl rfl rfl (by decide +kernel) ⟨(Nat.le_of_ble_eq_true rfl), (Nat.le_of_ble_eq_true rfl)⟩) hP hD hS rfl hl.1 rfl (Nat.le_of_ble_eq_true rfl) dL_law_1401 ⟨by show _ + _ ≤ 600390; omega, by show _ + _ ≤ 7289640; omega⟩ (fun H locs hP hD hS => ?_)
  refine w_ldcw K (K.str 25 (by decide)).1 dL_law_1404 ?_
  have hl58 : ∀ i : Int, 0 ≤ i → i < (7 : Nat) → fX8_written N58 i = (0, zY3 (ka.val : Int) i) := fun i p q => (hw58 i).trans (wr_x (zf_12s_w ka) i p q)
  refine wy_S (As := [.ref (F 0), .int (iI 7), .ref (S 25)]) (rest := []) K (kL_isLine l K.hst D F cI cC T N58 (S 25) (Tt 25) 7 (zY3 (ka.val : Int)) (by decide) (cA_e (l := sCs 25) (sCA 25 (by decide))) z58.1.2.2.2.2 hl58) (va_cwS 3 K.hts gL_law_L_isLine rfl rfl rfl (by decide +kernel) ⟨(Nat.le_of_ble_eq_true rfl), (Nat.le_of_ble_eq_true rfl)⟩) (ZS_bl F cI cC T (S 25) (Tt 25) 7 (zY3 (ka.val : Int))) (zs_y K hD hS (q := (S 25)) (t := (Tt 25)) (n := 7) (g := (zY3 (ka.val : Int))) (lit_y K hD hS (K.str 25 (by decide)).2)) hP hD hS rfl hl.1 rfl (Nat.le_of_ble_eq_true rfl) dL_law_1407 ⟨by show _ + _ ≤ 600390; omega, by show _ + _ ≤ 7289640; omega⟩ (fun H locs hP hD hS => ?_)
  refine z_if_eq hx hb dL_law_1410 (tgt := 1507) rfl (by decide) (fun hbr => absurd hbr (by decide)) (fun hbr => ?_)
  refine lv_aload hx hb dL_law_1413 (lv_at hl 0 rfl) ?_
  refine z_iconst hx hb dL_law_1415 ?_
  refine z_iconst hx hb dL_law_1416 ?_
  obtain ⟨e59, z59⟩ := zc_fine z58 1 1 1 0 (zf_12f ka) (zf_12f_c ka)
  refine wy_V (As := [.int (iI 1), .int (iI 1)]) (rest := []) K (kX8_fold l K.hst D F cI cC T N58 1 1 (by decide) (by decide) z58.1.1 z58.1.2.1 z58.1.2.2.2.1 0 4 (cM N58 1 1 1 0) (ch_fold e59)) (cwV 2 K.hts gL_law_X8_fold rfl rfl rfl (by decide +kernel) ⟨(Nat.le_of_ble_eq_true rfl), (Nat.le_of_ble_eq_true rfl)⟩) hP hD hS rfl hl.1 rfl (Nat.le_of_ble_eq_true rfl) dL_law_1417 ⟨by show _ + _ ≤ 600390; omega, by show _ + _ ≤ 7289640; omega⟩ (fun H locs hP hD hS => ?_)
  refine z_iconst hx hb dL_law_1420 ?_
  refine w_ne_same K (a := 4) (b2 := 4) (rfl) dL_law_1421 (tgt := 1507) rfl ?_
  refine lv_aload hx hb dL_law_1424 (lv_at hl 0 rfl) ?_
  refine z_iconst hx hb dL_law_1426 ?_
  refine z_iconst hx hb dL_law_1427 ?_
  obtain ⟨e60, z60⟩ := zc_fine z59 1 1 3 0 (zf_13f ka) (zf_13f_c ka)
  refine wy_V (As := [.int (iI 1), .int (iI 3)]) (rest := []) K (kX8_fold l K.hst D F cI cC T (cM N58 1 1 1 0) 1 3 (by decide) (by decide) z59.1.1 z59.1.2.1 z59.1.2.2.2.1 0 6 (cM (cM N58 1 1 1 0) 1 1 3 0) (ch_fold e60)) (cwV 2 K.hts gL_law_X8_fold rfl rfl rfl (by decide +kernel) ⟨(Nat.le_of_ble_eq_true rfl), (Nat.le_of_ble_eq_true rfl)⟩) hP hD hS rfl hl.1 rfl (Nat.le_of_ble_eq_true rfl) dL_law_1428 ⟨by show _ + _ ≤ 600390; omega, by show _ + _ ≤ 7289640; omega⟩ (fun H locs hP hD hS => ?_)
  refine z_bipush hx hb dL_law_1431 (by decide +kernel) ?_
  refine w_ne_same K (a := 6) (b2 := 6) (rfl) dL_law_1433 (tgt := 1507) rfl ?_
  refine lv_aload hx hb dL_law_1436 (lv_at hl 0 rfl) ?_
  refine z_iconst hx hb dL_law_1438 ?_
  refine z_iconst hx hb dL_law_1439 ?_
  obtain ⟨e61, z61⟩ := zc_fine z60 1 1 4 0 (zf_14f ka) (zf_14f_c ka)
  refine wy_V (As := [.int (iI 1), .int (iI 4)]) (rest := []) K (kX8_fold l K.hst D F cI cC T (cM (cM N58 1 1 1 0) 1 1 3 0) 1 4 (by decide) (by decide) z60.1.1 z60.1.2.1 z60.1.2.2.2.1 0 8 (cM (cM (cM N58 1 1 1 0) 1 1 3 0) 1 1 4 0) (ch_fold e61)) (cwV 2 K.hts gL_law_X8_fold rfl rfl rfl (by decide +kernel) ⟨(Nat.le_of_ble_eq_true rfl), (Nat.le_of_ble_eq_true rfl)⟩) hP hD hS rfl hl.1 rfl (Nat.le_of_ble_eq_true rfl) dL_law_1440 ⟨by show _ + _ ≤ 600390; omega, by show _ + _ ≤ 7289640; omega⟩ (fun H locs hP hD hS => ?_)
  refine z_bipush hx hb dL_law_1443 (by decide +kernel) ?_
  refine w_ne_same K (a := 8) (b2 := 8) (rfl) dL_law_1445 (tgt := 1507) rfl ?_
  refine lv_aload hx hb dL_law_1448 (lv_at hl 0 rfl) ?_
  refine z_iconst hx hb dL_law_1450 ?_
  refine z_iconst hx hb dL_law_1451 ?_
  obtain ⟨e62, z62⟩ := zc_fine z61 1 1 1 0 (zf_15f ka) (zf_15f_c ka)
  refine wy_V (As := [.int (iI 1), .int (iI 1)]) (rest := []) K (kX8_fold l K.hst D F cI cC T (cM (cM (cM N58 1 1 1 0) 1 1 3 0) 1 1 4 0) 1 1 (by decide) (by decide) z61.1.1 z61.1.2.1 z61.1.2.2.2.1 0 11 (cM (cM (cM (cM N58 1 1 1 0) 1 1 3 0) 1 1 4 0) 1 1 1 0) (ch_fold e62)) (cwV 2 K.hts gL_law_X8_fold rfl rfl rfl (by decide +kernel) ⟨(Nat.le_of_ble_eq_true rfl), (Nat.le_of_ble_eq_true rfl)⟩) hP hD hS rfl hl.1 rfl (Nat.le_of_ble_eq_true rfl) dL_law_1452 ⟨by show _ + _ ≤ 600390; omega, by show _ + _ ≤ 7289640; omega⟩ (fun H locs hP hD hS => ?_)
  refine z_bipush hx hb dL_law_1455 (by decide +kernel) ?_
  refine w_ne_same K (a := 11) (b2 := 11) (rfl) dL_law_1457 (tgt := 1507) rfl ?_
  refine lv_aload hx hb dL_law_1460 (lv_at hl 0 rfl) ?_
  refine z_iconst hx hb dL_law_1462 ?_
  refine z_iconst hx hb dL_law_1463 ?_
  refine z_iconst hx hb dL_law_1464 ?_
  refine z_iconst hx hb dL_law_1465 ?_
  obtain ⟨e63, z63, h18, h19⟩ := zc_no z62 1 1 3 0 (zf_16f ka) (by decide)
  refine wy_SW (As := [.ref (F 0), .int (iI 1), .int (iI 1), .int (iI 3), .int (iI 0)]) (rest := []) K (kA_1 l K.hst D F cI cC T (cM (cM (cM (cM N58 1 1 1 0) 1 1 3 0) 1 1 4 0) 1 1 1 0) 1 3 0 (by decide) (by decide) z62.1.1 z62.1.2.1 z62.1.2.2.2.1) (vx_cwSW 5 K.hts gL_law_L_act rfl rfl rfl (by decide +kernel) ⟨(Nat.le_of_ble_eq_true rfl), (Nat.le_of_ble_eq_true rfl)⟩) (ZL_bl F cI cC T) (lz_L K (w2_y hD) hS) hP hD hS rfl hl.1 rfl (Nat.le_of_ble_eq_true rfl) dL_law_1466 ⟨by show _ + _ ≤ 600390; omega, by show _ + _ ≤ 7289640; omega⟩ (fun H locs hP hD hS => ?_)
  rw [act_no e63 (fX8_fold (cM (cM (cM (cM N58 1 1 1 0) 1 1 3 0) 1 1 4 0) 1 1 1 0) 1 3) rfl]
  have hr18 : 0 ≤ cM (cM (cM (cM (cM N58 1 1 1 0) 1 1 3 0) 1 1 4 0) 1 1 1 0) 1 1 3 0 18 0 ∧ cM (cM (cM (cM (cM N58 1 1 1 0) 1 1 3 0) 1 1 4 0) 1 1 1 0) 1 1 3 0 18 0 ≤ 1000 := by rw [h18]; decide
  have hr19 : 0 ≤ cM (cM (cM (cM (cM N58 1 1 1 0) 1 1 3 0) 1 1 4 0) 1 1 1 0) 1 1 3 0 19 0 ∧ cM (cM (cM (cM (cM N58 1 1 1 0) 1 1 3 0) 1 1 4 0) 1 1 1 0) 1 1 3 0 19 0 ≤ 1000 := by rw [h19]; decide
  refine z_bipush hx hb dL_law_1469 (by decide +kernel) ?_
  refine w_ne_same K (a := (-2)) (b2 := (-2)) (rfl) dL_law_1471 (tgt := 1507) rfl ?_
  refine lv_aload hx hb dL_law_1474 (lv_at hl 0 rfl) ?_
  refine z_iconst hx hb dL_law_1476 ?_
  refine z_iconst hx hb dL_law_1477 ?_
  refine wy_V (As := [.int (iI 0), .int (iI 0)]) (rest := []) K (kX8_refusal l K.hst D F cI cC T (cM (cM (cM (cM (cM N58 1 1 1 0) 1 1 3 0) 1 1 4 0) 1 1 1 0) 1 1 3 0) 0 0 (by decide) (by decide) hr18 hr19 0 3 ((ref_ff h18 (by decide)).trans (by rfl))) (cwV 2 K.hts gL_law_X8_refusal rfl rfl rfl (by decide +kernel) ⟨(Nat.le_of_ble_eq_true rfl), (Nat.le_of_ble_eq_true rfl)⟩) hP hD hS rfl hl.1 rfl (Nat.le_of_ble_eq_true rfl) dL_law_1478 ⟨by show _ + _ ≤ 600390; omega, by show _ + _ ≤ 7289640; omega⟩ (fun H locs hP hD hS => ?_)
  refine z_iconst hx hb dL_law_1481 ?_
  refine w_ne_same K (a := 3) (b2 := 3) (rfl) dL_law_1482 (tgt := 1507) rfl ?_
  refine lv_aload hx hb dL_law_1485 (lv_at hl 0 rfl) ?_
  refine z_iconst hx hb dL_law_1487 ?_
  refine z_iconst hx hb dL_law_1488 ?_
  refine wy_V (As := [.int (iI 0), .int (iI 1)]) (rest := []) K (kX8_refusal l K.hst D F cI cC T (cM (cM (cM (cM (cM N58 1 1 1 0) 1 1 3 0) 1 1 4 0) 1 1 1 0) 1 1 3 0) 0 1 (by decide) (by decide) hr18 hr19 0 11 ((ref_ft h18 (by decide)).trans (by rfl))) (cwV 2 K.hts gL_law_X8_refusal rfl rfl rfl (by decide +kernel) ⟨(Nat.le_of_ble_eq_true rfl), (Nat.le_of_ble_eq_true rfl)⟩) hP hD hS rfl hl.1 rfl (Nat.le_of_ble_eq_true rfl) dL_law_1489 ⟨by show _ + _ ≤ 600390; omega, by show _ + _ ≤ 7289640; omega⟩ (fun H locs hP hD hS => ?_)
  refine z_bipush hx hb dL_law_1492 (by decide +kernel) ?_
  refine w_ne_same K (a := 11) (b2 := 11) (rfl) dL_law_1494 (tgt := 1507) rfl ?_
  refine lv_aload hx hb dL_law_1497 (lv_at hl 0 rfl) ?_
  refine z_iconst hx hb dL_law_1499 ?_
  refine wy_V (As := [.int (iI 0)]) (rest := []) K (kX8_worn l K.hst D F cI cC T (cM (cM (cM (cM (cM N58 1 1 1 0) 1 1 3 0) 1 1 4 0) 1 1 1 0) 1 1 3 0) 0 (by decide) z63.1.1 0 1 (zq_worn z63 0 (zf_16w ka))) (cwV 1 K.hts gL_law_X8_worn rfl rfl rfl (by decide +kernel) ⟨(Nat.le_of_ble_eq_true rfl), (Nat.le_of_ble_eq_true rfl)⟩) hP hD hS rfl hl.1 rfl (Nat.le_of_ble_eq_true rfl) dL_law_1500 ⟨by show _ + _ ≤ 600390; omega, by show _ + _ ≤ 7289640; omega⟩ (fun H locs hP hD hS => ?_)
  refine z_iconst hx hb dL_law_1503 ?_
  refine w_eq_same K (a := 1) (b2 := 1) (rfl) dL_law_1504 (tgt := 1509) rfl ?_
  exact W.widen (by omega) (by omega) (next _ H locs ls z63 hP hD hS hl)
end
