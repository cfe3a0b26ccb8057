/-! THE LAW, walked: the third object, its second text (written by mk14h.py). -/
set_option maxRecDepth 100000 in
theorem bX2_k0 : ∀ t : Fin 4, 0 ≤ ((fun _ _ => 0) : Mem) 0 0 ∧ ((fun _ _ => 0) : Mem) 0 0 + ((sCs 17).length : Nat) ≤ (16 : Nat) := by decide +kernel
set_option maxRecDepth 100000 in
theorem bX2_k1 : ∀ t : Fin 4, (0 ≤ (bb (t.val : Int)) ∧ (bb (t.val : Int)) ≤ 9) ∧ 0 ≤ (fB_app ((fun _ _ => 0) : Mem) (sCs 17).length (gT (sCs 17))) 0 0 ∧ (fB_app ((fun _ _ => 0) : Mem) (sCs 17).length (gT (sCs 17))) 0 0 + 1 ≤ (16 : Nat) := by decide +kernel
set_option maxRecDepth 100000 in
theorem bX2_k2 : ∀ t : Fin 4, (0 ≤ (fB_int (fB_app ((fun _ _ => 0) : Mem) (sCs 17).length (gT (sCs 17))) (bb (t.val : Int))) 0 0 ∧ (fB_int (fB_app ((fun _ _ => 0) : Mem) (sCs 17).length (gT (sCs 17))) (bb (t.val : Int))) 0 0 ≤ (16 : Nat)) ∧ (fB_int (fB_app ((fun _ _ => 0) : Mem) (sCs 17).length (gT (sCs 17))) (bb (t.val : Int))) 0 0 + ((sCs 24).length : Nat) = (49 : Nat) ∧ (∀ j : Fin 16, 0 ≤ (fB_int (fB_app ((fun _ _ => 0) : Mem) (sCs 17).length (gT (sCs 17))) (bb (t.val : Int))) 1 (j.val : Int) ∧ (fB_int (fB_app ((fun _ _ => 0) : Mem) (sCs 17).length (gT (sCs 17))) (bb (t.val : Int))) 1 (j.val : Int) < 128) := by decide +kernel
set_option maxRecDepth 100000 in
theorem bX2_t : ∀ t : Fin 4, (fB_app (mrp (fB_int (fB_app ((fun _ _ => 0) : Mem) (sCs 17).length (gT (sCs 17))) (bb (t.val : Int))) (cpI ((fB_int (fB_app ((fun _ _ => 0) : Mem) (sCs 17).length (gT (sCs 17))) (bb (t.val : Int))) 1) (fun _ => 0) 0 0 16)) (sCs 24).length (gT (sCs 24))) 0 0 = (49 : Nat) ∧ (∀ j : Fin 49, 0 ≤ (fB_app (mrp (fB_int (fB_app ((fun _ _ => 0) : Mem) (sCs 17).length (gT (sCs 17))) (bb (t.val : Int))) (cpI ((fB_int (fB_app ((fun _ _ => 0) : Mem) (sCs 17).length (gT (sCs 17))) (bb (t.val : Int))) 1) (fun _ => 0) 0 0 16)) (sCs 24).length (gT (sCs 24))) 1 (j.val : Int) ∧ (fB_app (mrp (fB_int (fB_app ((fun _ _ => 0) : Mem) (sCs 17).length (gT (sCs 17))) (bb (t.val : Int))) (cpI ((fB_int (fB_app ((fun _ _ => 0) : Mem) (sCs 17).length (gT (sCs 17))) (bb (t.val : Int))) 1) (fun _ => 0) 0 0 16)) (sCs 24).length (gT (sCs 24))) 1 (j.val : Int) < 128) ∧ (∀ j : Fin 49, (fB_app (mrp (fB_int (fB_app ((fun _ _ => 0) : Mem) (sCs 17).length (gT (sCs 17))) (bb (t.val : Int))) (cpI ((fB_int (fB_app ((fun _ _ => 0) : Mem) (sCs 17).length (gT (sCs 17))) (bb (t.val : Int))) 1) (fun _ => 0) 0 0 16)) (sCs 24).length (gT (sCs 24))) 1 (j.val : Int) = (zX2 (t.val : Int)) (j.val : Int)) ∧ (∀ j : Fin 49, 0 ≤ (zX2 (t.val : Int)) (j.val : Int) ∧ (zX2 (t.val : Int)) (j.val : Int) < 128) := by decide +kernel
section
variable {p : Program} {l : Launch} {e : Env} {s : State} {m : MethodId} {args : Array Value} {below : List Frame} {meth : Method} {c : Code} {H : Heap} {locs : List Loc} {cells slots : Nat} {Q : State → Prop}
variable {ls : Array Slot} {D : va_G} {cI cC cB : ClassId} {T S Tt : Nat → Nat} {tO b L : Nat} {xs : Nat → Int32} {E F : Nat → Nat} {B : Mem}
set_option maxRecDepth 100000 in
set_option maxHeartbeats 4000000 in
theorem sz3 (K : LC p l s m args c D cI cC cB T b L xs S Tt tO) {ka : Fin 4} {X Z : Mem} (zz : ZI (zC2 (ka.val : Int)) Z) (hP : va_P D vwCl (W2 E F cI cC X Z) H) (hD : va_D (lA s) (W2 E F cI cC X Z)) (hS : va_S (lA s) s.heap H locs) (hl : lv_has ls 12 [(11, .ref (F 0)), (10, .int (iI (bb (ka.val : Int)))), (9, .int (iI (ka.val : Int))), (4, .int (iI (fL_state B).1)), (3, .int (iI (B 0 77))), (1, .ref (E 0))]) (hc : cells + 1200 ≤ 600390) (hs : slots + 6 * 1200 ≤ 7289640)
    (next : ∀ (Z2 : Mem) (H : Heap) (locs : List Loc) (ls : Array Slot), ZI (zC7 (ka.val : Int)) Z2 → va_P D vwCl (W2 E F cI cC X Z2) H → va_D (lA s) (W2 E F cI cC X Z2) → va_S (lA s) s.heap H locs → lv_has ls 12 [(11, .ref (F 0)), (10, .int (iI (bb (ka.val : Int)))), (9, .int (iI (ka.val : Int))), (4, .int (iI (fL_state B).1)), (3, .int (iI (B 0 77))), (1, .ref (E 0))] → W p l e room_1 s m args below meth c H locs (cells + 1200) (slots + 6 * 1200) Q (F0 m 1174 ls [])) : W p l e room_1 s m args below meth c H locs cells slots Q (F0 m 934 ls []) := by
  have hx := K.hx
  have hb := K.hb
  refine lv_aload hx hb dL_law_934 (lv_at hl 0 rfl) ?_
  refine w_sbnew (rest := [.ref (F 0)]) K hP hD hS hl.1 (Nat.le_of_ble_eq_true rfl) dL_law_936 dL_law_939 dL_law_940 ⟨by show _ + _ ≤ 600390; omega, by show _ + _ ≤ 7289640; omega⟩ (fun h9 a9 H locs hP hD hS => ?_)
  refine w_ldc K (K.str 17 (by decide)).1 dL_law_943 ?_
  refine w_app (rest := [.ref (F 0)]) K (K.str 17 (by decide)).2 (sG (by decide)) (bX2_k0 ka) (by decide) hP hD hS hl.1 (Nat.le_of_ble_eq_true rfl) dL_law_945 ⟨by omega, by omega⟩ (fun H locs hP hD hS => ?_)
  refine lv_iload hx hb dL_law_948 (lv_at hl 1 rfl) ?_
  refine w_int (rest := [.ref (F 0)]) K (bX2_k1 ka).1 (bX2_k1 ka).2 (by decide) hP hD hS hl.1 (Nat.le_of_ble_eq_true rfl) dL_law_950 ⟨by omega, by omega⟩ (fun H locs hP hD hS => ?_)
  refine w_ldcw K (K.str 24 (by decide)).1 dL_law_953 ?_
  refine w_appG (rest := [.ref (F 0)]) (k := 49) K (K.str 24 (by decide)).2 (sG (by decide)) (bX2_k2 ka).1 (bX2_k2 ka).2.1 (by decide) (gen_r (bX2_k2 ka).2.2) hP hD hS hl.1 (Nat.le_of_ble_eq_true rfl) dL_law_956 ⟨by show _ + _ ≤ 600390; omega, by show _ + _ ≤ 7289640; omega⟩ (fun a9 H locs hP hD hS => ?_)
  refine w_tos (rest := [.ref (F 0)]) (n := 49) K (bX2_t ka).1 (by decide) (by decide) (gen_r (bX2_t ka).2.1) hP hD hS hl.1 (Nat.le_of_ble_eq_true rfl) dL_law_959 ⟨by show _ + _ ≤ 600390; omega, by show _ + _ ≤ 7289640; omega⟩ (fun u9 v9 τ H locs hτ hfz hP hD hS => ?_)
  have hτg : ∀ j : Int, 0 ≤ j → j < (49 : Nat) → τ j = (zX2 (ka.val : Int)) j := fun j p q => (hτ j p q).trans (gen_x (bX2_t ka).2.2.1 j p q)
  have hgr : ∀ j : Int, 0 ≤ j → j < (49 : Nat) → 0 ≤ (zX2 (ka.val : Int)) j ∧ (zX2 (ka.val : Int)) j < 128 := gen_r (bX2_t ka).2.2.2
  have hτr : ∀ j : Int, 0 ≤ j → j < (49 : Nat) → 0 ≤ τ j ∧ τ j < 256 := fun j p q => by rw [hτg j p q]; have := hgr j p q; exact ⟨this.1, by omega⟩
  have hgr2 : ∀ j : Int, 0 ≤ j → j < (49 : Nat) → 0 ≤ (zX2 (ka.val : Int)) j ∧ (zX2 (ka.val : Int)) j < 256 := fun j p q => by have := hgr j p q; exact ⟨this.1, by omega⟩
  refine wy_S (As := [.ref (F 0), .ref u9]) (rest := []) K (kL_put l K.hst D F cI cC T Z u9 v9 49 τ (by decide) hτr zz.1.2.2.1 (by rw [zz.2.1]; decide)) (va_cwS 2 K.hts gL_law_L_put rfl rfl rfl (by decide +kernel) ⟨(Nat.le_of_ble_eq_true rfl), (Nat.le_of_ble_eq_true rfl)⟩) (ZS_bl F cI cC T u9 v9 49 τ) (zs_y K hD hS (fun U hU hW => (hfz U hU hW).2)) hP hD hS rfl hl.1 rfl (Nat.le_of_ble_eq_true rfl) dL_law_962 ⟨by show _ + _ ≤ 600390; omega, by show _ + _ ≤ 7289640; omega⟩ (fun H locs hP hD hS => ?_)
  rw [put_x hτg Z] at hP hD
  obtain ⟨oP25, N25, e25, z25⟩ := zq_read zz 49 (zX2 (ka.val : Int)) (by decide) hgr2 (zf_r2 ka) (zf_r2_c ka)
  refine lv_aload hx hb dL_law_965 (lv_at hl 0 rfl) ?_
  refine wy_V (As := []) (rest := []) K (kX8_read l K.hst D F cI cC T (fL_put Z 49 (zX2 (ka.val : Int)))  oP25.1 oP25.2.1 oP25.2.2.1 oP25.2.2.2.1 0 7 N25 e25) (cwV 0 K.hts gL_law_X8_read rfl rfl rfl (by decide +kernel) ⟨(Nat.le_of_ble_eq_true rfl), (Nat.le_of_ble_eq_true rfl)⟩) hP hD hS rfl hl.1 rfl (Nat.le_of_ble_eq_true rfl) dL_law_967 ⟨by show _ + _ ≤ 600390; omega, by show _ + _ ≤ 7289640; omega⟩ (fun H locs hP hD hS => ?_)
  refine z_bipush hx hb dL_law_970 (by decide +kernel) ?_
  refine w_ne_same K (a := 7) (b2 := 7) (rfl) dL_law_972 (tgt := 1172) rfl ?_
  refine lv_aload hx hb dL_law_975 (lv_at hl 0 rfl) ?_
  refine z_iconst hx hb dL_law_977 ?_
  obtain ⟨N26, e26, z26, -⟩ := zq_wrong z25 1 (zf_3w ka)
  refine wy_V (As := [.int (iI 1)]) (rest := []) K (kX8_wrong l K.hst D F cI cC T N25 1 (by decide) z25.1.1 z25.1.2.1 0 2 N26 e26) (cwV 1 K.hts gL_law_X8_wrong rfl rfl rfl (by decide +kernel) ⟨(Nat.le_of_ble_eq_true rfl), (Nat.le_of_ble_eq_true rfl)⟩) hP hD hS rfl hl.1 rfl (Nat.le_of_ble_eq_true rfl) dL_law_978 ⟨by show _ + _ ≤ 600390; omega, by show _ + _ ≤ 7289640; omega⟩ (fun H locs hP hD hS => ?_)
  refine z_iconst hx hb dL_law_981 ?_
  refine w_ne_same K (a := 2) (b2 := 2) (rfl) dL_law_982 (tgt := 1172) rfl ?_
  refine lv_aload hx hb dL_law_985 (lv_at hl 0 rfl) ?_
  refine z_iconst hx hb dL_law_987 ?_
  obtain ⟨N27, e27, z27, -⟩ := zq_wrongAgain z26 1 (zf_3v ka)
  refine wy_V (As := [.int (iI 1)]) (rest := []) K (kX8_wrongAgain l K.hst D F cI cC T N26 1 (by decide) z26.1.1 z26.1.2.1 0 2 N27 e27) (cwV 1 K.hts gL_law_X8_wrongAgain rfl rfl rfl (by decide +kernel) ⟨(Nat.le_of_ble_eq_true rfl), (Nat.le_of_ble_eq_true rfl)⟩) hP hD hS rfl hl.1 rfl (Nat.le_of_ble_eq_true rfl) dL_law_988 ⟨by show _ + _ ≤ 600390; omega, by show _ + _ ≤ 7289640; omega⟩ (fun H locs hP hD hS => ?_)
  refine z_iconst hx hb dL_law_991 ?_
  refine w_ne_same K (a := 2) (b2 := 2) (rfl) dL_law_992 (tgt := 1172) rfl ?_
  refine lv_aload hx hb dL_law_995 (lv_at hl 0 rfl) ?_
  refine z_iconst hx hb dL_law_997 ?_
  obtain ⟨N28, e28, z28, -⟩ := zq_isRight z27 1 (zf_3r ka)
  refine wy_V (As := [.int (iI 1)]) (rest := []) K (kX8_isRight l K.hst D F cI cC T N27 1 (by decide) z27.1.1 z27.1.2.1 0 0 N28 e28) (cwV 1 K.hts gL_law_X8_isRight rfl rfl rfl (by decide +kernel) ⟨(Nat.le_of_ble_eq_true rfl), (Nat.le_of_ble_eq_true rfl)⟩) hP hD hS rfl hl.1 rfl (Nat.le_of_ble_eq_true rfl) dL_law_998 ⟨by show _ + _ ≤ 600390; omega, by show _ + _ ≤ 7289640; omega⟩ (fun H locs hP hD hS => ?_)
  refine z_if_ne hx hb dL_law_1001 (tgt := 1172) rfl (by decide) (fun hbr => absurd rfl hbr) (fun hbr => ?_)
  refine lv_aload hx hb dL_law_1004 (lv_at hl 0 rfl) ?_
  refine z_iconst hx hb dL_law_1006 ?_
  obtain ⟨N29, e29, z29, -⟩ := zq_next z28 1 (zf_3n ka)
  refine wy_V (As := [.int (iI 1)]) (rest := []) K (kX8_next l K.hst D F cI cC T N28 1 (by decide) z28.1.1 z28.1.2.1 0 0 N29 e29) (cwV 1 K.hts gL_law_X8_next rfl rfl rfl (by decide +kernel) ⟨(Nat.le_of_ble_eq_true rfl), (Nat.le_of_ble_eq_true rfl)⟩) hP hD hS rfl hl.1 rfl (Nat.le_of_ble_eq_true rfl) dL_law_1007 ⟨by show _ + _ ≤ 600390; omega, by show _ + _ ≤ 7289640; omega⟩ (fun H locs hP hD hS => ?_)
  refine z_if_ne hx hb dL_law_1010 (tgt := 1172) rfl (by decide) (fun hbr => absurd rfl hbr) (fun hbr => ?_)
  refine lv_aload hx hb dL_law_1013 (lv_at hl 0 rfl) ?_
  refine z_iconst hx hb dL_law_1015 ?_
  obtain ⟨N30, e30, z30, -⟩ := zq_fewest z29 1 (zf_3f ka)
  refine wy_V (As := [.int (iI 1)]) (rest := []) K (kX8_fewest l K.hst D F cI cC T N29 1 (by decide) z29.1.1 z29.1.2.1 0 1 N30 e30) (cwV 1 K.hts gL_law_X8_fewest rfl rfl rfl (by decide +kernel) ⟨(Nat.le_of_ble_eq_true rfl), (Nat.le_of_ble_eq_true rfl)⟩) hP hD hS rfl hl.1 rfl (Nat.le_of_ble_eq_true rfl) dL_law_1016 ⟨by show _ + _ ≤ 600390; omega, by show _ + _ ≤ 7289640; omega⟩ (fun H locs hP hD hS => ?_)
  refine z_iconst hx hb dL_law_1019 ?_
  refine w_ne_same K (a := 1) (b2 := 1) (rfl) dL_law_1020 (tgt := 1172) rfl ?_
  refine lv_aload hx hb dL_law_1023 (lv_at hl 0 rfl) ?_
  refine z_iconst hx hb dL_law_1025 ?_
  obtain ⟨N31, e31, z31, -, -⟩ := zq_fewestAgain z30 1 (zf_3g ka)
  refine wy_V (As := [.int (iI 1)]) (rest := []) K (kX8_fewestAgain l K.hst D F cI cC T N30 1 (by decide) z30.1.1 z30.1.2.1 0 1 N31 e31) (cwV 1 K.hts gL_law_X8_fewestAgain rfl rfl rfl (by decide +kernel) ⟨(Nat.le_of_ble_eq_true rfl), (Nat.le_of_ble_eq_true rfl)⟩) hP hD hS rfl hl.1 rfl (Nat.le_of_ble_eq_true rfl) dL_law_1026 ⟨by show _ + _ ≤ 600390; omega, by show _ + _ ≤ 7289640; omega⟩ (fun H locs hP hD hS => ?_)
  refine z_iconst hx hb dL_law_1029 ?_
  refine w_ne_same K (a := 1) (b2 := 1) (rfl) dL_law_1030 (tgt := 1172) rfl ?_
  refine lv_aload hx hb dL_law_1033 (lv_at hl 0 rfl) ?_
  refine z_iconst hx hb dL_law_1035 ?_
  obtain ⟨e32, z32⟩ := zc_fine z31 5 1 0 0 (zf_3ho ka) (zf_3ho_c ka)
  refine wy_V (As := [.int (iI 1)]) (rest := []) K (kX8_host l K.hst D F cI cC T N31 1 (by decide) z31.1.1 z31.1.2.1 z31.1.2.2.2.1 0 0 (cM N31 5 1 0 0) (ch_host e32)) (cwV 1 K.hts gL_law_X8_host rfl rfl rfl (by decide +kernel) ⟨(Nat.le_of_ble_eq_true rfl), (Nat.le_of_ble_eq_true rfl)⟩) hP hD hS rfl hl.1 rfl (Nat.le_of_ble_eq_true rfl) dL_law_1036 ⟨by show _ + _ ≤ 600390; omega, by show _ + _ ≤ 7289640; omega⟩ (fun H locs hP hD hS => ?_)
  refine z_if_ne hx hb dL_law_1039 (tgt := 1172) rfl (by decide) (fun hbr => absurd rfl hbr) (fun hbr => ?_)
  refine lv_aload hx hb dL_law_1042 (lv_at hl 0 rfl) ?_
  refine z_iconst hx hb dL_law_1044 ?_
  refine z_iconst hx hb dL_law_1045 ?_
  obtain ⟨N33, e33, z33, -⟩ := zq_tableOf z32 1 5 (zf_4a ka)
  refine wy_V (As := [.int (iI 1), .int (iI 5)]) (rest := []) K (kX8_tableOf l K.hst D F cI cC T (cM N31 5 1 0 0) 1 5 (by decide) (by decide) z32.1.1 z32.1.2.1 0 1 N33 e33) (cwV 2 K.hts gL_law_X8_tableOf rfl rfl rfl (by decide +kernel) ⟨(Nat.le_of_ble_eq_true rfl), (Nat.le_of_ble_eq_true rfl)⟩) hP hD hS rfl hl.1 rfl (Nat.le_of_ble_eq_true rfl) dL_law_1046 ⟨by show _ + _ ≤ 600390; omega, by show _ + _ ≤ 7289640; omega⟩ (fun H locs hP hD hS => ?_)
  refine z_iconst hx hb dL_law_1049 ?_
  refine w_ne_same K (a := 1) (b2 := 1) (rfl) dL_law_1050 (tgt := 1172) rfl ?_
  refine lv_aload hx hb dL_law_1053 (lv_at hl 0 rfl) ?_
  refine z_iconst hx hb dL_law_1055 ?_
  refine z_iconst hx hb dL_law_1056 ?_
  obtain ⟨N34, e34, z34, -⟩ := zq_tableOf z33 1 4 (zf_4b ka)
  refine wy_V (As := [.int (iI 1), .int (iI 4)]) (rest := []) K (kX8_tableOf l K.hst D F cI cC T N33 1 4 (by decide) (by decide) z33.1.1 z33.1.2.1 0 2 N34 e34) (cwV 2 K.hts gL_law_X8_tableOf rfl rfl rfl (by decide +kernel) ⟨(Nat.le_of_ble_eq_true rfl), (Nat.le_of_ble_eq_true rfl)⟩) hP hD hS rfl hl.1 rfl (Nat.le_of_ble_eq_true rfl) dL_law_1057 ⟨by show _ + _ ≤ 600390; omega, by show _ + _ ≤ 7289640; omega⟩ (fun H locs hP hD hS => ?_)
  refine z_iconst hx hb dL_law_1060 ?_
  refine w_ne_same K (a := 2) (b2 := 2) (rfl) dL_law_1061 (tgt := 1172) rfl ?_
  refine lv_aload hx hb dL_law_1064 (lv_at hl 0 rfl) ?_
  refine z_iconst hx hb dL_law_1066 ?_
  refine z_iconst hx hb dL_law_1067 ?_
  refine z_iconst hx hb dL_law_1068 ?_
  obtain ⟨e35, z35⟩ := zc_fine z34 7 1 2 0 (zf_4m ka) (zf_4m_c ka)
  refine wy_V (As := [.int (iI 1), .int (iI 2), .int (iI 0)]) (rest := []) K (kX8_move l K.hst D F cI cC T N34 1 2 0 (by decide) (by decide) (by decide) z34.1.1 z34.1.2.1 z34.1.2.2.2.1 0 2 (cM N34 7 1 2 0) (ch_move e35)) (cwV 3 K.hts gL_law_X8_move rfl rfl rfl (by decide +kernel) ⟨(Nat.le_of_ble_eq_true rfl), (Nat.le_of_ble_eq_true rfl)⟩) hP hD hS rfl hl.1 rfl (Nat.le_of_ble_eq_true rfl) dL_law_1069 ⟨by show _ + _ ≤ 600390; omega, by show _ + _ ≤ 7289640; omega⟩ (fun H locs hP hD hS => ?_)
  refine z_iconst hx hb dL_law_1072 ?_
  refine w_ne_same K (a := 2) (b2 := 2) (rfl) dL_law_1073 (tgt := 1172) rfl ?_
  refine lv_aload hx hb dL_law_1076 (lv_at hl 0 rfl) ?_
  refine z_iconst hx hb dL_law_1078 ?_
  refine z_iconst hx hb dL_law_1079 ?_
  refine z_iconst hx hb dL_law_1080 ?_
  obtain ⟨N36, e36, z36, -⟩ := zq_phraseOf z35 1 0 0 (zf_5a ka)
  refine wy_V (As := [.int (iI 1), .int (iI 0), .int (iI 0)]) (rest := []) K (kX8_phraseOf l K.hst D F cI cC T (cM N34 7 1 2 0) 1 0 0 (by decide) (by decide) (by decide) z35.1.1 z35.1.2.1 0 2 N36 e36) (cwV 3 K.hts gL_law_X8_phraseOf rfl rfl rfl (by decide +kernel) ⟨(Nat.le_of_ble_eq_true rfl), (Nat.le_of_ble_eq_true rfl)⟩) hP hD hS rfl hl.1 rfl (Nat.le_of_ble_eq_true rfl) dL_law_1081 ⟨by show _ + _ ≤ 600390; omega, by show _ + _ ≤ 7289640; omega⟩ (fun H locs hP hD hS => ?_)
  refine z_iconst hx hb dL_law_1084 ?_
  refine w_ne_same K (a := 2) (b2 := 2) (rfl) dL_law_1085 (tgt := 1172) rfl ?_
  refine lv_aload hx hb dL_law_1088 (lv_at hl 0 rfl) ?_
  refine z_iconst hx hb dL_law_1090 ?_
  refine z_iconst hx hb dL_law_1091 ?_
  refine z_iconst hx hb dL_law_1092 ?_
  obtain ⟨N37, e37, z37, -⟩ := zq_phraseOf z36 1 0 3 (zf_5b ka)
  refine wy_V (As := [.int (iI 1), .int (iI 0), .int (iI 3)]) (rest := []) K (kX8_phraseOf l K.hst D F cI cC T N36 1 0 3 (by decide) (by decide) (by decide) z36.1.1 z36.1.2.1 0 1 N37 e37) (cwV 3 K.hts gL_law_X8_phraseOf rfl rfl rfl (by decide +kernel) ⟨(Nat.le_of_ble_eq_true rfl), (Nat.le_of_ble_eq_true rfl)⟩) hP hD hS rfl hl.1 rfl (Nat.le_of_ble_eq_true rfl) dL_law_1093 ⟨by show _ + _ ≤ 600390; omega, by show _ + _ ≤ 7289640; omega⟩ (fun H locs hP hD hS => ?_)
  refine z_iconst hx hb dL_law_1096 ?_
  refine w_ne_same K (a := 1) (b2 := 1) (rfl) dL_law_1097 (tgt := 1172) rfl ?_
  refine lv_aload hx hb dL_law_1100 (lv_at hl 0 rfl) ?_
  refine z_iconst hx hb dL_law_1102 ?_
  refine z_iconst hx hb dL_law_1103 ?_
  obtain ⟨e38, z38⟩ := zc_fine z37 6 4 1 0 (zf_5l ka) (zf_5l_c ka)
  refine wy_V (As := [.int (iI 4), .int (iI 1)]) (rest := []) K (kX8_lay l K.hst D F cI cC T N37 4 1 (by decide) (by decide) z37.1.1 z37.1.2.1 z37.1.2.2.2.1 0 3 (cM N37 6 4 1 0) (ch_lay e38)) (cwV 2 K.hts gL_law_X8_lay rfl rfl rfl (by decide +kernel) ⟨(Nat.le_of_ble_eq_true rfl), (Nat.le_of_ble_eq_true rfl)⟩) hP hD hS rfl hl.1 rfl (Nat.le_of_ble_eq_true rfl) dL_law_1104 ⟨by show _ + _ ≤ 600390; omega, by show _ + _ ≤ 7289640; omega⟩ (fun H locs hP hD hS => ?_)
  refine z_iconst hx hb dL_law_1107 ?_
  refine w_ne_same K (a := 3) (b2 := 3) (rfl) dL_law_1108 (tgt := 1172) rfl ?_
  refine lv_aload hx hb dL_law_1111 (lv_at hl 0 rfl) ?_
  refine z_iconst hx hb dL_law_1113 ?_
  obtain ⟨N39, e39, z39, -⟩ := zq_wrong z38 1 (zf_6w ka)
  refine wy_V (As := [.int (iI 1)]) (rest := []) K (kX8_wrong l K.hst D F cI cC T (cM N37 6 4 1 0) 1 (by decide) z38.1.1 z38.1.2.1 0 4 N39 e39) (cwV 1 K.hts gL_law_X8_wrong rfl rfl rfl (by decide +kernel) ⟨(Nat.le_of_ble_eq_true rfl), (Nat.le_of_ble_eq_true rfl)⟩) hP hD hS rfl hl.1 rfl (Nat.le_of_ble_eq_true rfl) dL_law_1114 ⟨by show _ + _ ≤ 600390; omega, by show _ + _ ≤ 7289640; omega⟩ (fun H locs hP hD hS => ?_)
  refine z_iconst hx hb dL_law_1117 ?_
  refine w_ne_same K (a := 4) (b2 := 4) (rfl) dL_law_1118 (tgt := 1172) rfl ?_
  refine lv_aload hx hb dL_law_1121 (lv_at hl 0 rfl) ?_
  refine z_iconst hx hb dL_law_1123 ?_
  obtain ⟨N40, e40, z40, -⟩ := zq_next z39 1 (zf_6n ka)
  refine wy_V (As := [.int (iI 1)]) (rest := []) K (kX8_next l K.hst D F cI cC T N39 1 (by decide) z39.1.1 z39.1.2.1 0 2 N40 e40) (cwV 1 K.hts gL_law_X8_next rfl rfl rfl (by decide +kernel) ⟨(Nat.le_of_ble_eq_true rfl), (Nat.le_of_ble_eq_true rfl)⟩) hP hD hS rfl hl.1 rfl (Nat.le_of_ble_eq_true rfl) dL_law_1124 ⟨by show _ + _ ≤ 600390; omega, by show _ + _ ≤ 7289640; omega⟩ (fun H locs hP hD hS => ?_)
  refine z_iconst hx hb dL_law_1127 ?_
  refine w_ne_same K (a := 2) (b2 := 2) (rfl) dL_law_1128 (tgt := 1172) rfl ?_
  refine lv_aload hx hb dL_law_1131 (lv_at hl 0 rfl) ?_
  refine z_iconst hx hb dL_law_1133 ?_
  obtain ⟨N41, e41, z41, -⟩ := zq_fewest z40 1 (zf_6f ka)
  refine wy_V (As := [.int (iI 1)]) (rest := []) K (kX8_fewest l K.hst D F cI cC T N40 1 (by decide) z40.1.1 z40.1.2.1 0 1 N41 e41) (cwV 1 K.hts gL_law_X8_fewest rfl rfl rfl (by decide +kernel) ⟨(Nat.le_of_ble_eq_true rfl), (Nat.le_of_ble_eq_true rfl)⟩) hP hD hS rfl hl.1 rfl (Nat.le_of_ble_eq_true rfl) dL_law_1134 ⟨by show _ + _ ≤ 600390; omega, by show _ + _ ≤ 7289640; omega⟩ (fun H locs hP hD hS => ?_)
  refine z_iconst hx hb dL_law_1137 ?_
  refine w_ne_same K (a := 1) (b2 := 1) (rfl) dL_law_1138 (tgt := 1172) rfl ?_
  refine lv_aload hx hb dL_law_1141 (lv_at hl 0 rfl) ?_
  refine z_iconst hx hb dL_law_1143 ?_
  refine z_iconst hx hb dL_law_1144 ?_
  obtain ⟨e42, z42⟩ := zc_fine z41 6 3 1 0 (zf_6l ka) (zf_6l_c ka)
  refine wy_V (As := [.int (iI 3), .int (iI 1)]) (rest := []) K (kX8_lay l K.hst D F cI cC T N41 3 1 (by decide) (by decide) z41.1.1 z41.1.2.1 z41.1.2.2.2.1 0 4 (cM N41 6 3 1 0) (ch_lay e42)) (cwV 2 K.hts gL_law_X8_lay rfl rfl rfl (by decide +kernel) ⟨(Nat.le_of_ble_eq_true rfl), (Nat.le_of_ble_eq_true rfl)⟩) hP hD hS rfl hl.1 rfl (Nat.le_of_ble_eq_true rfl) dL_law_1145 ⟨by show _ + _ ≤ 600390; omega, by show _ + _ ≤ 7289640; omega⟩ (fun H locs hP hD hS => ?_)
  refine z_iconst hx hb dL_law_1148 ?_
  refine w_ne_same K (a := 4) (b2 := 4) (rfl) dL_law_1149 (tgt := 1172) rfl ?_
  refine lv_aload hx hb dL_law_1152 (lv_at hl 0 rfl) ?_
  refine z_iconst hx hb dL_law_1154 ?_
  obtain ⟨N43, e43, z43, -⟩ := zq_wrong z42 1 (zf_7w ka)
  refine wy_V (As := [.int (iI 1)]) (rest := []) K (kX8_wrong l K.hst D F cI cC T (cM N41 6 3 1 0) 1 (by decide) z42.1.1 z42.1.2.1 0 4 N43 e43) (cwV 1 K.hts gL_law_X8_wrong rfl rfl rfl (by decide +kernel) ⟨(Nat.le_of_ble_eq_true rfl), (Nat.le_of_ble_eq_true rfl)⟩) hP hD hS rfl hl.1 rfl (Nat.le_of_ble_eq_true rfl) dL_law_1155 ⟨by show _ + _ ≤ 600390; omega, by show _ + _ ≤ 7289640; omega⟩ (fun H locs hP hD hS => ?_)
  refine z_iconst hx hb dL_law_1158 ?_
  refine w_ne_same K (a := 4) (b2 := 4) (rfl) dL_law_1159 (tgt := 1172) rfl ?_
  refine lv_aload hx hb dL_law_1162 (lv_at hl 0 rfl) ?_
  refine z_iconst hx hb dL_law_1164 ?_
  obtain ⟨N44, e44, z44, -⟩ := zq_fewest z43 1 (zf_7f ka)
  refine wy_V (As := [.int (iI 1)]) (rest := []) K (kX8_fewest l K.hst D F cI cC T N43 1 (by decide) z43.1.1 z43.1.2.1 0 1 N44 e44) (cwV 1 K.hts gL_law_X8_fewest rfl rfl rfl (by decide +kernel) ⟨(Nat.le_of_ble_eq_true rfl), (Nat.le_of_ble_eq_true rfl)⟩) hP hD hS rfl hl.1 rfl (Nat.le_of_ble_eq_true rfl) dL_law_1165 ⟨by show _ + _ ≤ 600390; omega, by show _ + _ ≤ 7289640; omega⟩ (fun H locs hP hD hS => ?_)
  refine z_iconst hx hb dL_law_1168 ?_
  refine w_eq_same K (a := 1) (b2 := 1) (rfl) dL_law_1169 (tgt := 1174) rfl ?_
  exact W.widen (by omega) (by omega) (next _ H locs ls z44 hP hD hS hl)
end
