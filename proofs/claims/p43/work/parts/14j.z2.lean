/-! THE LAW, walked: the third object, its first text (written by mk14h.py). -/
theorem wr_x {f : Int → Int × Int} {g : Int → Int} {n : Nat} (h : ∀ i : Fin n, f (i.val : Int) = (0, g (i.val : Int))) : ∀ i : Int, 0 ≤ i → i < n → f i = (0, g i) := fun i a b => by
  obtain ⟨k, rfl⟩ := Int.eq_ofNat_of_zero_le a
  exact h ⟨k, by omega⟩
set_option maxRecDepth 100000 in
theorem bX1_k0 : ∀ t : Fin 4, 0 ≤ ((fun _ _ => 0) : Mem) 0 0 ∧ ((fun _ _ => 0) : Mem) 0 0 + ((sCs 17).length : Nat) ≤ (16 : Nat) := by decide +kernel
set_option maxRecDepth 100000 in
theorem bX1_k1 : ∀ t : Fin 4, (0 ≤ (t.val : Int) ∧ (t.val : Int) ≤ 9) ∧ 0 ≤ (fB_app ((fun _ _ => 0) : Mem) (sCs 17).length (gT (sCs 17))) 0 0 ∧ (fB_app ((fun _ _ => 0) : Mem) (sCs 17).length (gT (sCs 17))) 0 0 + 1 ≤ (16 : Nat) := by decide +kernel
set_option maxRecDepth 100000 in
theorem bX1_k2 : ∀ t : Fin 4, 0 ≤ (fB_int (fB_app ((fun _ _ => 0) : Mem) (sCs 17).length (gT (sCs 17))) (t.val : Int)) 0 0 ∧ (fB_int (fB_app ((fun _ _ => 0) : Mem) (sCs 17).length (gT (sCs 17))) (t.val : Int)) 0 0 + ((sCs 18).length : Nat) ≤ (16 : Nat) := by decide +kernel
set_option maxRecDepth 100000 in
theorem bX1_k3 : ∀ t : Fin 4, (0 ≤ (bb (t.val : Int)) ∧ (bb (t.val : Int)) ≤ 9) ∧ 0 ≤ (fB_app (fB_int (fB_app ((fun _ _ => 0) : Mem) (sCs 17).length (gT (sCs 17))) (t.val : Int)) (sCs 18).length (gT (sCs 18))) 0 0 ∧ (fB_app (fB_int (fB_app ((fun _ _ => 0) : Mem) (sCs 17).length (gT (sCs 17))) (t.val : Int)) (sCs 18).length (gT (sCs 18))) 0 0 + 1 ≤ (16 : Nat) := by decide +kernel
set_option maxRecDepth 100000 in
theorem bX1_k4 : ∀ t : Fin 4, (0 ≤ (fB_int (fB_app (fB_int (fB_app ((fun _ _ => 0) : Mem) (sCs 17).length (gT (sCs 17))) (t.val : Int)) (sCs 18).length (gT (sCs 18))) (bb (t.val : Int))) 0 0 ∧ (fB_int (fB_app (fB_int (fB_app ((fun _ _ => 0) : Mem) (sCs 17).length (gT (sCs 17))) (t.val : Int)) (sCs 18).length (gT (sCs 18))) (bb (t.val : Int))) 0 0 ≤ (16 : Nat)) ∧ (fB_int (fB_app (fB_int (fB_app ((fun _ _ => 0) : Mem) (sCs 17).length (gT (sCs 17))) (t.val : Int)) (sCs 18).length (gT (sCs 18))) (bb (t.val : Int))) 0 0 + ((sCs 19).length : Nat) = (53 : Nat) ∧ (∀ j : Fin 16, 0 ≤ (fB_int (fB_app (fB_int (fB_app ((fun _ _ => 0) : Mem) (sCs 17).length (gT (sCs 17))) (t.val : Int)) (sCs 18).length (gT (sCs 18))) (bb (t.val : Int))) 1 (j.val : Int) ∧ (fB_int (fB_app (fB_int (fB_app ((fun _ _ => 0) : Mem) (sCs 17).length (gT (sCs 17))) (t.val : Int)) (sCs 18).length (gT (sCs 18))) (bb (t.val : Int))) 1 (j.val : Int) < 128) := by decide +kernel
set_option maxRecDepth 100000 in
theorem bX1_t : ∀ t : Fin 4, (fB_app (mrp (fB_int (fB_app (fB_int (fB_app ((fun _ _ => 0) : Mem) (sCs 17).length (gT (sCs 17))) (t.val : Int)) (sCs 18).length (gT (sCs 18))) (bb (t.val : Int))) (cpI ((fB_int (fB_app (fB_int (fB_app ((fun _ _ => 0) : Mem) (sCs 17).length (gT (sCs 17))) (t.val : Int)) (sCs 18).length (gT (sCs 18))) (bb (t.val : Int))) 1) (fun _ => 0) 0 0 16)) (sCs 19).length (gT (sCs 19))) 0 0 = (53 : Nat) ∧ (∀ j : Fin 53, 0 ≤ (fB_app (mrp (fB_int (fB_app (fB_int (fB_app ((fun _ _ => 0) : Mem) (sCs 17).length (gT (sCs 17))) (t.val : Int)) (sCs 18).length (gT (sCs 18))) (bb (t.val : Int))) (cpI ((fB_int (fB_app (fB_int (fB_app ((fun _ _ => 0) : Mem) (sCs 17).length (gT (sCs 17))) (t.val : Int)) (sCs 18).length (gT (sCs 18))) (bb (t.val : Int))) 1) (fun _ => 0) 0 0 16)) (sCs 19).length (gT (sCs 19))) 1 (j.val : Int) ∧ (fB_app (mrp (fB_int (fB_app (fB_int (fB_app ((fun _ _ => 0) : Mem) (sCs 17).length (gT (sCs 17))) (t.val : Int)) (sCs 18).length (gT (sCs 18))) (bb (t.val : Int))) (cpI ((fB_int (fB_app (fB_int (fB_app ((fun _ _ => 0) : Mem) (sCs 17).length (gT (sCs 17))) (t.val : Int)) (sCs 18).length (gT (sCs 18))) (bb (t.val : Int))) 1) (fun _ => 0) 0 0 16)) (sCs 19).length (gT (sCs 19))) 1 (j.val : Int) < 128) ∧ (∀ j : Fin 53, (fB_app (mrp (fB_int (fB_app (fB_int (fB_app ((fun _ _ => 0) : Mem) (sCs 17).length (gT (sCs 17))) (t.val : Int)) (sCs 18).length (gT (sCs 18))) (bb (t.val : Int))) (cpI ((fB_int (fB_app (fB_int (fB_app ((fun _ _ => 0) : Mem) (sCs 17).length (gT (sCs 17))) (t.val : Int)) (sCs 18).length (gT (sCs 18))) (bb (t.val : Int))) 1) (fun _ => 0) 0 0 16)) (sCs 19).length (gT (sCs 19))) 1 (j.val : Int) = (zX1 (t.val : Int)) (j.val : Int)) ∧ (∀ j : Fin 53, 0 ≤ (zX1 (t.val : Int)) (j.val : Int) ∧ (zX1 (t.val : Int)) (j.val : Int) < 128) := by decide +kernel
set_option maxRecDepth 100000 in
theorem bY2_k0 : ∀ t : Fin 4, 0 ≤ ((fun _ _ => 0) : Mem) 0 0 ∧ ((fun _ _ => 0) : Mem) 0 0 + ((sCs 21).length : Nat) ≤ (16 : Nat) := by decide +kernel
set_option maxRecDepth 100000 in
theorem bY2_k1 : ∀ t : Fin 4, (0 ≤ (t.val : Int) ∧ (t.val : Int) ≤ 9) ∧ 0 ≤ (fB_app ((fun _ _ => 0) : Mem) (sCs 21).length (gT (sCs 21))) 0 0 ∧ (fB_app ((fun _ _ => 0) : Mem) (sCs 21).length (gT (sCs 21))) 0 0 + 1 ≤ (16 : Nat) := by decide +kernel
set_option maxRecDepth 100000 in
theorem bY2_k2 : ∀ t : Fin 4, 0 ≤ (fB_int (fB_app ((fun _ _ => 0) : Mem) (sCs 21).length (gT (sCs 21))) (t.val : Int)) 0 0 ∧ (fB_int (fB_app ((fun _ _ => 0) : Mem) (sCs 21).length (gT (sCs 21))) (t.val : Int)) 0 0 + ((sCs 22).length : Nat) ≤ (16 : Nat) := by decide +kernel
set_option maxRecDepth 100000 in
theorem bY2_k3 : ∀ t : Fin 4, (0 ≤ (bb (t.val : Int)) ∧ (bb (t.val : Int)) ≤ 9) ∧ 0 ≤ (fB_app (fB_int (fB_app ((fun _ _ => 0) : Mem) (sCs 21).length (gT (sCs 21))) (t.val : Int)) (sCs 22).length (gT (sCs 22))) 0 0 ∧ (fB_app (fB_int (fB_app ((fun _ _ => 0) : Mem) (sCs 21).length (gT (sCs 21))) (t.val : Int)) (sCs 22).length (gT (sCs 22))) 0 0 + 1 ≤ (16 : Nat) := by decide +kernel
set_option maxRecDepth 100000 in
theorem bY2_k4 : ∀ t : Fin 4, 0 ≤ (fB_int (fB_app (fB_int (fB_app ((fun _ _ => 0) : Mem) (sCs 21).length (gT (sCs 21))) (t.val : Int)) (sCs 22).length (gT (sCs 22))) (bb (t.val : Int))) 0 0 ∧ (fB_int (fB_app (fB_int (fB_app ((fun _ _ => 0) : Mem) (sCs 21).length (gT (sCs 21))) (t.val : Int)) (sCs 22).length (gT (sCs 22))) (bb (t.val : Int))) 0 0 + ((sCs 23).length : Nat) ≤ (16 : Nat) := by decide +kernel
set_option maxRecDepth 100000 in
theorem bY2_t : ∀ t : Fin 4, (fB_app (fB_int (fB_app (fB_int (fB_app ((fun _ _ => 0) : Mem) (sCs 21).length (gT (sCs 21))) (t.val : Int)) (sCs 22).length (gT (sCs 22))) (bb (t.val : Int))) (sCs 23).length (gT (sCs 23))) 0 0 = (6 : Nat) ∧ (∀ j : Fin 16, 0 ≤ (fB_app (fB_int (fB_app (fB_int (fB_app ((fun _ _ => 0) : Mem) (sCs 21).length (gT (sCs 21))) (t.val : Int)) (sCs 22).length (gT (sCs 22))) (bb (t.val : Int))) (sCs 23).length (gT (sCs 23))) 1 (j.val : Int) ∧ (fB_app (fB_int (fB_app (fB_int (fB_app ((fun _ _ => 0) : Mem) (sCs 21).length (gT (sCs 21))) (t.val : Int)) (sCs 22).length (gT (sCs 22))) (bb (t.val : Int))) (sCs 23).length (gT (sCs 23))) 1 (j.val : Int) < 128) ∧ (∀ j : Fin 6, (fB_app (fB_int (fB_app (fB_int (fB_app ((fun _ _ => 0) : Mem) (sCs 21).length (gT (sCs 21))) (t.val : Int)) (sCs 22).length (gT (sCs 22))) (bb (t.val : Int))) (sCs 23).length (gT (sCs 23))) 1 (j.val : Int) = (zY2 (t.val : Int)) (j.val : Int)) ∧ (∀ j : Fin 6, 0 ≤ (zY2 (t.val : Int)) (j.val : Int) ∧ (zY2 (t.val : Int)) (j.val : Int) < 128) := by decide +kernel
section
variable {p : Program} {l : Launch} {e : Env} {s : State} {m : MethodId} {args : Array Value} {below : List Frame} {meth : Method} {c : Code} {H : Heap} {locs : List Loc} {cells slots : Nat} {Q : State → Prop}
variable {ls : Array Slot} {D : va_G} {cI cC cB : ClassId} {T S Tt : Nat → Nat} {tO b L : Nat} {xs : Nat → Int32} {E F : Nat → Nat} {B : Mem}
set_option maxRecDepth 100000 in
set_option maxHeartbeats 4000000 in
theorem sz2 (K : LC p l s m args c D cI cC cB T b L xs S Tt tO) {ka : Fin 4} {X Z : Mem} (zz : ZI (zC0 (ka.val : Int)) Z) (hP : va_P D vwCl (W2 E F cI cC X Z) H) (hD : va_D (lA s) (W2 E F cI cC X Z)) (hS : va_S (lA s) s.heap H locs) (hl : lv_has ls 12 [(11, .ref (F 0)), (10, .int (iI (bb (ka.val : Int)))), (9, .int (iI (ka.val : Int))), (4, .int (iI (fL_state B).1)), (3, .int (iI (B 0 77))), (1, .ref (E 0))]) (hc : cells + 1200 ≤ 600390) (hs : slots + 6 * 1200 ≤ 7289640)
    (next : ∀ (Z2 : Mem) (H : Heap) (locs : List Loc) (ls : Array Slot), ZI (zC2 (ka.val : Int)) Z2 → va_P D vwCl (W2 E F cI cC X Z2) H → va_D (lA s) (W2 E F cI cC X Z2) → va_S (lA s) s.heap H locs → lv_has ls 12 [(11, .ref (F 0)), (10, .int (iI (bb (ka.val : Int)))), (9, .int (iI (ka.val : Int))), (4, .int (iI (fL_state B).1)), (3, .int (iI (B 0 77))), (1, .ref (E 0))] → W p l e room_1 s m args below meth c H locs (cells + 1200) (slots + 6 * 1200) Q (F0 m 934 ls [])) : W p l e room_1 s m args below meth c H locs cells slots Q (F0 m 665 ls []) := by
  have hx := K.hx
  have hb := K.hb
  refine lv_aload hx hb dL_law_665 (lv_at hl 0 rfl) ?_
  refine w_sbnew (rest := [.ref (F 0)]) K hP hD hS hl.1 (Nat.le_of_ble_eq_true rfl) dL_law_667 dL_law_670 dL_law_671 ⟨by show _ + _ ≤ 600390; omega, by show _ + _ ≤ 7289640; omega⟩ (fun h9 a9 H locs hP hD hS => ?_)
  refine w_ldc K (K.str 17 (by decide)).1 dL_law_674 ?_
  refine w_app (rest := [.ref (F 0)]) K (K.str 17 (by decide)).2 (sG (by decide)) (bX1_k0 ka) (by decide) hP hD hS hl.1 (Nat.le_of_ble_eq_true rfl) dL_law_676 ⟨by omega, by omega⟩ (fun H locs hP hD hS => ?_)
  refine lv_iload hx hb dL_law_679 (lv_at hl 2 rfl) ?_
  refine w_int (rest := [.ref (F 0)]) K (bX1_k1 ka).1 (bX1_k1 ka).2 (by decide) hP hD hS hl.1 (Nat.le_of_ble_eq_true rfl) dL_law_681 ⟨by omega, by omega⟩ (fun H locs hP hD hS => ?_)
  refine w_ldc K (K.str 18 (by decide)).1 dL_law_684 ?_
  refine w_app (rest := [.ref (F 0)]) K (K.str 18 (by decide)).2 (sG (by decide)) (bX1_k2 ka) (by decide) hP hD hS hl.1 (Nat.le_of_ble_eq_true rfl) dL_law_686 ⟨by omega, by omega⟩ (fun H locs hP hD hS => ?_)
  refine lv_iload hx hb dL_law_689 (lv_at hl 1 rfl) ?_
  refine w_int (rest := [.ref (F 0)]) K (bX1_k3 ka).1 (bX1_k3 ka).2 (by decide) hP hD hS hl.1 (Nat.le_of_ble_eq_true rfl) dL_law_691 ⟨by omega, by omega⟩ (fun H locs hP hD hS => ?_)
  refine w_ldc K (K.str 19 (by decide)).1 dL_law_694 ?_
  refine w_appG (rest := [.ref (F 0)]) (k := 53) K (K.str 19 (by decide)).2 (sG (by decide)) (bX1_k4 ka).1 (bX1_k4 ka).2.1 (by decide) (gen_r (bX1_k4 ka).2.2) hP hD hS hl.1 (Nat.le_of_ble_eq_true rfl) dL_law_696 ⟨by show _ + _ ≤ 600390; omega, by show _ + _ ≤ 7289640; omega⟩ (fun a9 H locs hP hD hS => ?_)
  refine w_tos (rest := [.ref (F 0)]) (n := 53) K (bX1_t ka).1 (by decide) (by decide) (gen_r (bX1_t ka).2.1) hP hD hS hl.1 (Nat.le_of_ble_eq_true rfl) dL_law_699 ⟨by show _ + _ ≤ 600390; omega, by show _ + _ ≤ 7289640; omega⟩ (fun u9 v9 τ H locs hτ hfz hP hD hS => ?_)
  have hτg : ∀ j : Int, 0 ≤ j → j < (53 : Nat) → τ j = (zX1 (ka.val : Int)) j := fun j p q => (hτ j p q).trans (gen_x (bX1_t ka).2.2.1 j p q)
  have hgr : ∀ j : Int, 0 ≤ j → j < (53 : Nat) → 0 ≤ (zX1 (ka.val : Int)) j ∧ (zX1 (ka.val : Int)) j < 128 := gen_r (bX1_t ka).2.2.2
  have hτr : ∀ j : Int, 0 ≤ j → j < (53 : Nat) → 0 ≤ τ j ∧ τ j < 256 := fun j p q => by rw [hτg j p q]; have := hgr j p q; exact ⟨this.1, by omega⟩
  have hgr2 : ∀ j : Int, 0 ≤ j → j < (53 : Nat) → 0 ≤ (zX1 (ka.val : Int)) j ∧ (zX1 (ka.val : Int)) j < 256 := fun j p q => by have := hgr j p q; exact ⟨this.1, by omega⟩
  refine wy_S (As := [.ref (F 0), .ref u9]) (rest := []) K (kL_put l K.hst D F cI cC T Z u9 v9 53 τ (by decide) hτr zz.1.2.2.1 (by rw [zz.2.1]; decide)) (va_cwS 2 K.hts gL_law_L_put rfl rfl rfl (by decide +kernel) ⟨(Nat.le_of_ble_eq_true rfl), (Nat.le_of_ble_eq_true rfl)⟩) (ZS_bl F cI cC T u9 v9 53 τ) (zs_y K hD hS (fun U hU hW => (hfz U hU hW).2)) hP hD hS rfl hl.1 rfl (Nat.le_of_ble_eq_true rfl) dL_law_702 ⟨by show _ + _ ≤ 600390; omega, by show _ + _ ≤ 7289640; omega⟩ (fun H locs hP hD hS => ?_)
  rw [put_x hτg Z] at hP hD
  obtain ⟨oP8, N8, e8, z8⟩ := zq_read zz 53 (zX1 (ka.val : Int)) (by decide) hgr2 (zf_r1 ka) (zf_r1_c ka)
  refine lv_aload hx hb dL_law_705 (lv_at hl 0 rfl) ?_
  refine wy_V (As := []) (rest := []) K (kX8_read l K.hst D F cI cC T (fL_put Z 53 (zX1 (ka.val : Int)))  oP8.1 oP8.2.1 oP8.2.2.1 oP8.2.2.2.1 0 7 N8 e8) (cwV 0 K.hts gL_law_X8_read rfl rfl rfl (by decide +kernel) ⟨(Nat.le_of_ble_eq_true rfl), (Nat.le_of_ble_eq_true rfl)⟩) hP hD hS rfl hl.1 rfl (Nat.le_of_ble_eq_true rfl) dL_law_707 ⟨by show _ + _ ≤ 600390; omega, by show _ + _ ≤ 7289640; omega⟩ (fun H locs hP hD hS => ?_)
  refine z_bipush hx hb dL_law_710 (by decide +kernel) ?_
  refine w_ne_same K (a := 7) (b2 := 7) (rfl) dL_law_712 (tgt := 932) rfl ?_
  refine lv_aload hx hb dL_law_715 (lv_at hl 0 rfl) ?_
  refine z_iconst hx hb dL_law_717 ?_
  obtain ⟨N9, e9, z9, -⟩ := zq_isRight z8 1 (zf_1r ka)
  refine wy_V (As := [.int (iI 1)]) (rest := []) K (kX8_isRight l K.hst D F cI cC T N8 1 (by decide) z8.1.1 z8.1.2.1 0 1 N9 e9) (cwV 1 K.hts gL_law_X8_isRight rfl rfl rfl (by decide +kernel) ⟨(Nat.le_of_ble_eq_true rfl), (Nat.le_of_ble_eq_true rfl)⟩) hP hD hS rfl hl.1 rfl (Nat.le_of_ble_eq_true rfl) dL_law_718 ⟨by show _ + _ ≤ 600390; omega, by show _ + _ ≤ 7289640; omega⟩ (fun H locs hP hD hS => ?_)
  refine z_if_eq hx hb dL_law_721 (tgt := 932) rfl (by decide) (fun hbr => absurd hbr (by decide)) (fun hbr => ?_)
  refine lv_aload hx hb dL_law_724 (lv_at hl 0 rfl) ?_
  refine z_iconst hx hb dL_law_726 ?_
  obtain ⟨N10, e10, z10, -⟩ := zq_wrongAgain z9 1 (zf_1w ka)
  refine wy_V (As := [.int (iI 1)]) (rest := []) K (kX8_wrongAgain l K.hst D F cI cC T N9 1 (by decide) z9.1.1 z9.1.2.1 0 (-1) N10 e10) (cwV 1 K.hts gL_law_X8_wrongAgain rfl rfl rfl (by decide +kernel) ⟨(Nat.le_of_ble_eq_true rfl), (Nat.le_of_ble_eq_true rfl)⟩) hP hD hS rfl hl.1 rfl (Nat.le_of_ble_eq_true rfl) dL_law_727 ⟨by show _ + _ ≤ 600390; omega, by show _ + _ ≤ 7289640; omega⟩ (fun H locs hP hD hS => ?_)
  refine z_iconst hx hb dL_law_730 ?_
  refine w_ne_same K (a := (-1)) (b2 := (-1)) (rfl) dL_law_731 (tgt := 932) rfl ?_
  refine lv_aload hx hb dL_law_734 (lv_at hl 0 rfl) ?_
  refine z_iconst hx hb dL_law_736 ?_
  obtain ⟨N11, e11, z11, -⟩ := zq_phrases z10 1 (zf_1p ka)
  refine wy_V (As := [.int (iI 1)]) (rest := []) K (kX8_phrases l K.hst D F cI cC T N10 1 (by decide) z10.1.1 z10.1.2.1 0 1 N11 e11) (cwV 1 K.hts gL_law_X8_phrases rfl rfl rfl (by decide +kernel) ⟨(Nat.le_of_ble_eq_true rfl), (Nat.le_of_ble_eq_true rfl)⟩) hP hD hS rfl hl.1 rfl (Nat.le_of_ble_eq_true rfl) dL_law_737 ⟨by show _ + _ ≤ 600390; omega, by show _ + _ ≤ 7289640; omega⟩ (fun H locs hP hD hS => ?_)
  refine z_iconst hx hb dL_law_740 ?_
  refine w_ne_same K (a := 1) (b2 := 1) (rfl) dL_law_741 (tgt := 932) rfl ?_
  refine lv_aload hx hb dL_law_744 (lv_at hl 0 rfl) ?_
  refine z_iconst hx hb dL_law_746 ?_
  refine z_iconst hx hb dL_law_747 ?_
  refine z_iconst hx hb dL_law_748 ?_
  obtain ⟨N12, e12, z12, -⟩ := zq_phraseOf z11 1 0 0 (zf_1a ka)
  refine wy_V (As := [.int (iI 1), .int (iI 0), .int (iI 0)]) (rest := []) K (kX8_phraseOf l K.hst D F cI cC T N11 1 0 0 (by decide) (by decide) (by decide) z11.1.1 z11.1.2.1 0 1 N12 e12) (cwV 3 K.hts gL_law_X8_phraseOf rfl rfl rfl (by decide +kernel) ⟨(Nat.le_of_ble_eq_true rfl), (Nat.le_of_ble_eq_true rfl)⟩) hP hD hS rfl hl.1 rfl (Nat.le_of_ble_eq_true rfl) dL_law_749 ⟨by show _ + _ ≤ 600390; omega, by show _ + _ ≤ 7289640; omega⟩ (fun H locs hP hD hS => ?_)
  refine z_iconst hx hb dL_law_752 ?_
  refine w_ne_same K (a := 1) (b2 := 1) (rfl) dL_law_753 (tgt := 932) rfl ?_
  refine lv_aload hx hb dL_law_756 (lv_at hl 0 rfl) ?_
  refine z_iconst hx hb dL_law_758 ?_
  refine z_iconst hx hb dL_law_759 ?_
  refine z_iconst hx hb dL_law_760 ?_
  obtain ⟨N13, e13, z13, -⟩ := zq_phraseOf z12 1 0 1 (zf_1b ka)
  refine wy_V (As := [.int (iI 1), .int (iI 0), .int (iI 1)]) (rest := []) K (kX8_phraseOf l K.hst D F cI cC T N12 1 0 1 (by decide) (by decide) (by decide) z12.1.1 z12.1.2.1 0 1 N13 e13) (cwV 3 K.hts gL_law_X8_phraseOf rfl rfl rfl (by decide +kernel) ⟨(Nat.le_of_ble_eq_true rfl), (Nat.le_of_ble_eq_true rfl)⟩) hP hD hS rfl hl.1 rfl (Nat.le_of_ble_eq_true rfl) dL_law_761 ⟨by show _ + _ ≤ 600390; omega, by show _ + _ ≤ 7289640; omega⟩ (fun H locs hP hD hS => ?_)
  refine z_iconst hx hb dL_law_764 ?_
  refine w_ne_same K (a := 1) (b2 := 1) (rfl) dL_law_765 (tgt := 932) rfl ?_
  refine lv_aload hx hb dL_law_768 (lv_at hl 0 rfl) ?_
  refine z_iconst hx hb dL_law_770 ?_
  refine z_iconst hx hb dL_law_771 ?_
  refine z_iconst hx hb dL_law_772 ?_
  obtain ⟨N14, e14, z14, -⟩ := zq_phraseOf z13 1 0 2 (zf_1c ka)
  refine wy_V (As := [.int (iI 1), .int (iI 0), .int (iI 2)]) (rest := []) K (kX8_phraseOf l K.hst D F cI cC T N13 1 0 2 (by decide) (by decide) (by decide) z13.1.1 z13.1.2.1 0 (-1) N14 e14) (cwV 3 K.hts gL_law_X8_phraseOf rfl rfl rfl (by decide +kernel) ⟨(Nat.le_of_ble_eq_true rfl), (Nat.le_of_ble_eq_true rfl)⟩) hP hD hS rfl hl.1 rfl (Nat.le_of_ble_eq_true rfl) dL_law_773 ⟨by show _ + _ ≤ 600390; omega, by show _ + _ ≤ 7289640; omega⟩ (fun H locs hP hD hS => ?_)
  refine z_iconst hx hb dL_law_776 ?_
  refine w_ne_same K (a := (-1)) (b2 := (-1)) (rfl) dL_law_777 (tgt := 932) rfl ?_
  refine lv_aload hx hb dL_law_780 (lv_at hl 0 rfl) ?_
  refine z_iconst hx hb dL_law_782 ?_
  refine z_iconst hx hb dL_law_783 ?_
  refine z_iconst hx hb dL_law_784 ?_
  obtain ⟨N15, e15, z15, -⟩ := zq_phraseOf z14 1 0 3 (zf_1d ka)
  refine wy_V (As := [.int (iI 1), .int (iI 0), .int (iI 3)]) (rest := []) K (kX8_phraseOf l K.hst D F cI cC T N14 1 0 3 (by decide) (by decide) (by decide) z14.1.1 z14.1.2.1 0 0 N15 e15) (cwV 3 K.hts gL_law_X8_phraseOf rfl rfl rfl (by decide +kernel) ⟨(Nat.le_of_ble_eq_true rfl), (Nat.le_of_ble_eq_true rfl)⟩) hP hD hS rfl hl.1 rfl (Nat.le_of_ble_eq_true rfl) dL_law_785 ⟨by show _ + _ ≤ 600390; omega, by show _ + _ ≤ 7289640; omega⟩ (fun H locs hP hD hS => ?_)
  refine z_if_ne hx hb dL_law_788 (tgt := 932) rfl (by decide) (fun hbr => absurd rfl hbr) (fun hbr => ?_)
  refine lv_aload hx hb dL_law_791 (lv_at hl 0 rfl) ?_
  refine z_iconst hx hb dL_law_793 ?_
  obtain ⟨N16, e16, z16, -⟩ := zq_next z15 1 (zf_1n ka)
  refine wy_V (As := [.int (iI 1)]) (rest := []) K (kX8_next l K.hst D F cI cC T N15 1 (by decide) z15.1.1 z15.1.2.1 0 24 N16 e16) (cwV 1 K.hts gL_law_X8_next rfl rfl rfl (by decide +kernel) ⟨(Nat.le_of_ble_eq_true rfl), (Nat.le_of_ble_eq_true rfl)⟩) hP hD hS rfl hl.1 rfl (Nat.le_of_ble_eq_true rfl) dL_law_794 ⟨by show _ + _ ≤ 600390; omega, by show _ + _ ≤ 7289640; omega⟩ (fun H locs hP hD hS => ?_)
  refine z_bipush hx hb dL_law_797 (by decide +kernel) ?_
  refine w_ne_same K (a := 24) (b2 := 24) (rfl) dL_law_799 (tgt := 932) rfl ?_
  refine lv_aload hx hb dL_law_802 (lv_at hl 0 rfl) ?_
  refine z_iconst hx hb dL_law_804 ?_
  obtain ⟨N17, e17, z17, -⟩ := zq_doubt z16 1 (zf_1o ka)
  refine wy_V (As := [.int (iI 1)]) (rest := []) K (kX8_doubt l K.hst D F cI cC T N16 1 (by decide) z16.1.1 z16.1.2.1 0 3 N17 e17) (cwV 1 K.hts gL_law_X8_doubt rfl rfl rfl (by decide +kernel) ⟨(Nat.le_of_ble_eq_true rfl), (Nat.le_of_ble_eq_true rfl)⟩) hP hD hS rfl hl.1 rfl (Nat.le_of_ble_eq_true rfl) dL_law_805 ⟨by show _ + _ ≤ 600390; omega, by show _ + _ ≤ 7289640; omega⟩ (fun H locs hP hD hS => ?_)
  refine z_iconst hx hb dL_law_808 ?_
  refine w_ne_same K (a := 3) (b2 := 3) (rfl) dL_law_809 (tgt := 932) rfl ?_
  refine lv_aload hx hb dL_law_812 (lv_at hl 0 rfl) ?_
  refine z_iconst hx hb dL_law_814 ?_
  obtain ⟨N18, e18, z18, -⟩ := zq_sure z17 1 (zf_1s ka)
  refine wy_V (As := [.int (iI 1)]) (rest := []) K (kX8_sure l K.hst D F cI cC T N17 1 (by decide) z17.1.1 z17.1.2.1 0 85 N18 e18) (cwV 1 K.hts gL_law_X8_sure rfl rfl rfl (by decide +kernel) ⟨(Nat.le_of_ble_eq_true rfl), (Nat.le_of_ble_eq_true rfl)⟩) hP hD hS rfl hl.1 rfl (Nat.le_of_ble_eq_true rfl) dL_law_815 ⟨by show _ + _ ≤ 600390; omega, by show _ + _ ≤ 7289640; omega⟩ (fun H locs hP hD hS => ?_)
  refine z_bipush hx hb dL_law_818 (by decide +kernel) ?_
  refine w_ne_same K (a := 85) (b2 := 85) (rfl) dL_law_820 (tgt := 932) rfl ?_
  refine lv_aload hx hb dL_law_823 (lv_at hl 0 rfl) ?_
  refine z_iconst hx hb dL_law_825 ?_
  obtain ⟨N19, e19, z19, -⟩ := zq_fewest z18 1 (zf_1f ka)
  refine wy_V (As := [.int (iI 1)]) (rest := []) K (kX8_fewest l K.hst D F cI cC T N18 1 (by decide) z18.1.1 z18.1.2.1 0 0 N19 e19) (cwV 1 K.hts gL_law_X8_fewest rfl rfl rfl (by decide +kernel) ⟨(Nat.le_of_ble_eq_true rfl), (Nat.le_of_ble_eq_true rfl)⟩) hP hD hS rfl hl.1 rfl (Nat.le_of_ble_eq_true rfl) dL_law_826 ⟨by show _ + _ ≤ 600390; omega, by show _ + _ ≤ 7289640; omega⟩ (fun H locs hP hD hS => ?_)
  refine z_if_ne hx hb dL_law_829 (tgt := 932) rfl (by decide) (fun hbr => absurd rfl hbr) (fun hbr => ?_)
  refine lv_aload hx hb dL_law_832 (lv_at hl 0 rfl) ?_
  refine lv_aload hx hb dL_law_834 (lv_at hl 0 rfl) ?_
  refine z_iconst hx hb dL_law_836 ?_
  obtain ⟨N20, e20, z20, -, -, hw20⟩ := zq_show z19 1 (by decide) (zf_1sh ka)
  refine wy_V (As := [.int (iI 1)]) (rest := [.ref (F 0)]) K (kX8_show l K.hst D F cI cC T N19 1 (by decide) z19.1.1 z19.1.2.2.2.2 0 5 N20 e20) (cwV 1 K.hts gL_law_X8_show rfl rfl rfl (by decide +kernel) ⟨(Nat.le_of_ble_eq_true rfl), (Nat.le_of_ble_eq_true rfl)⟩) hP hD hS rfl hl.1 rfl (Nat.le_of_ble_eq_true rfl) dL_law_837 ⟨by show _ + _ ≤ 600390; omega, by show _ + _ ≤ 7289640; omega⟩ (fun H locs hP hD hS => ?_)
  refine w_ldcw K (K.str 20 (by decide)).1 dL_law_840 ?_
  have hl20 : ∀ i : Int, 0 ≤ i → i < (5 : Nat) → fX8_written N20 i = (0, zY1 (ka.val : Int) i) := fun i p q => (hw20 i).trans (wr_x (zf_1sh_w ka) i p q)
  refine wy_S (As := [.ref (F 0), .int (iI 5), .ref (S 20)]) (rest := []) K (kL_isLine l K.hst D F cI cC T N20 (S 20) (Tt 20) 5 (zY1 (ka.val : Int)) (by decide) (cA_e (l := sCs 20) (sCA 20 (by decide))) z20.1.2.2.2.2 hl20) (va_cwS 3 K.hts gL_law_L_isLine rfl rfl rfl (by decide +kernel) ⟨(Nat.le_of_ble_eq_true rfl), (Nat.le_of_ble_eq_true rfl)⟩) (ZS_bl F cI cC T (S 20) (Tt 20) 5 (zY1 (ka.val : Int))) (zs_y K hD hS (q := (S 20)) (t := (Tt 20)) (n := 5) (g := (zY1 (ka.val : Int))) (lit_y K hD hS (K.str 20 (by decide)).2)) hP hD hS rfl hl.1 rfl (Nat.le_of_ble_eq_true rfl) dL_law_843 ⟨by show _ + _ ≤ 600390; omega, by show _ + _ ≤ 7289640; omega⟩ (fun H locs hP hD hS => ?_)
  refine z_if_eq hx hb dL_law_846 (tgt := 932) rfl (by decide) (fun hbr => absurd hbr (by decide)) (fun hbr => ?_)
  refine lv_aload hx hb dL_law_849 (lv_at hl 0 rfl) ?_
  refine lv_aload hx hb dL_law_851 (lv_at hl 0 rfl) ?_
  refine z_iconst hx hb dL_law_853 ?_
  obtain ⟨N21, e21, z21, -, -, hw21⟩ := zq_tell z20 1 (by decide) (zf_1te ka)
  refine wy_V (As := [.int (iI 1)]) (rest := [.ref (F 0)]) K (kX8_tell l K.hst D F cI cC T N20 1 (by decide) z20.1.1 z20.1.2.1 z20.1.2.2.2.2 0 6 N21 e21) (cwV 1 K.hts gL_law_X8_tell rfl rfl rfl (by decide +kernel) ⟨(Nat.le_of_ble_eq_true rfl), (Nat.le_of_ble_eq_true rfl)⟩) hP hD hS rfl hl.1 rfl (Nat.le_of_ble_eq_true rfl) dL_law_854 ⟨by show _ + _ ≤ 600390; omega, by show _ + _ ≤ 7289640; omega⟩ (fun H locs hP hD hS => ?_)
  refine w_sbnew (rest := [.int (iI 6), .ref (F 0)]) K hP hD hS hl.1 (Nat.le_of_ble_eq_true rfl) dL_law_857 dL_law_860 dL_law_861 ⟨by show _ + _ ≤ 600390; omega, by show _ + _ ≤ 7289640; omega⟩ (fun h9 a9 H locs hP hD hS => ?_)
  refine w_ldcw K (K.str 21 (by decide)).1 dL_law_864 ?_
  refine w_app (rest := [.int (iI 6), .ref (F 0)]) K (K.str 21 (by decide)).2 (sG (by decide)) (bY2_k0 ka) (by decide) hP hD hS hl.1 (Nat.le_of_ble_eq_true rfl) dL_law_867 ⟨by omega, by omega⟩ (fun H locs hP hD hS => ?_)
  refine lv_iload hx hb dL_law_870 (lv_at hl 2 rfl) ?_
  refine w_int (rest := [.int (iI 6), .ref (F 0)]) K (bY2_k1 ka).1 (bY2_k1 ka).2 (by decide) hP hD hS hl.1 (Nat.le_of_ble_eq_true rfl) dL_law_872 ⟨by omega, by omega⟩ (fun H locs hP hD hS => ?_)
  refine w_ldcw K (K.str 22 (by decide)).1 dL_law_875 ?_
  refine w_app (rest := [.int (iI 6), .ref (F 0)]) K (K.str 22 (by decide)).2 (sG (by decide)) (bY2_k2 ka) (by decide) hP hD hS hl.1 (Nat.le_of_ble_eq_true rfl) dL_law_878 ⟨by omega, by omega⟩ (fun H locs hP hD hS => ?_)
  refine lv_iload hx hb dL_law_881 (lv_at hl 1 rfl) ?_
  refine w_int (rest := [.int (iI 6), .ref (F 0)]) K (bY2_k3 ka).1 (bY2_k3 ka).2 (by decide) hP hD hS hl.1 (Nat.le_of_ble_eq_true rfl) dL_law_883 ⟨by omega, by omega⟩ (fun H locs hP hD hS => ?_)
  refine w_ldcw K (K.str 23 (by decide)).1 dL_law_886 ?_
  refine w_app (rest := [.int (iI 6), .ref (F 0)]) K (K.str 23 (by decide)).2 (sG (by decide)) (bY2_k4 ka) (by decide) hP hD hS hl.1 (Nat.le_of_ble_eq_true rfl) dL_law_889 ⟨by omega, by omega⟩ (fun H locs hP hD hS => ?_)
  refine w_tos (rest := [.int (iI 6), .ref (F 0)]) (n := 6) K (bY2_t ka).1 (by decide) (by decide) (gen_r (bY2_t ka).2.1) hP hD hS hl.1 (Nat.le_of_ble_eq_true rfl) dL_law_892 ⟨by show _ + _ ≤ 600390; omega, by show _ + _ ≤ 7289640; omega⟩ (fun u9 v9 τ H locs hτ hfz hP hD hS => ?_)
  have hτg : ∀ j : Int, 0 ≤ j → j < (6 : Nat) → τ j = (zY2 (ka.val : Int)) j := fun j p q => (hτ j p q).trans (gen_x (bY2_t ka).2.2.1 j p q)
  have hgr : ∀ j : Int, 0 ≤ j → j < (6 : Nat) → 0 ≤ (zY2 (ka.val : Int)) j ∧ (zY2 (ka.val : Int)) j < 128 := gen_r (bY2_t ka).2.2.2
  have hτr : ∀ j : Int, 0 ≤ j → j < (6 : Nat) → 0 ≤ τ j ∧ τ j < 256 := fun j p q => by rw [hτg j p q]; have := hgr j p q; exact ⟨this.1, by omega⟩
  have hgr2 : ∀ j : Int, 0 ≤ j → j < (6 : Nat) → 0 ≤ (zY2 (ka.val : Int)) j ∧ (zY2 (ka.val : Int)) j < 256 := fun j p q => by have := hgr j p q; exact ⟨this.1, by omega⟩
  have hl21 : ∀ i : Int, 0 ≤ i → i < (6 : Nat) → fX8_written N21 i = (0, τ i) := fun i p q => by rw [hτg i p q]; exact (hw21 i).trans (wr_x (zf_1te_w ka) i p q)
  refine wy_S (As := [.ref (F 0), .int (iI 6), .ref u9]) (rest := []) K (kL_isLine l K.hst D F cI cC T N21 u9 v9 6 τ (by decide) hτr z21.1.2.2.2.2 hl21) (va_cwS 3 K.hts gL_law_L_isLine rfl rfl rfl (by decide +kernel) ⟨(Nat.le_of_ble_eq_true rfl), (Nat.le_of_ble_eq_true rfl)⟩) (ZS_bl F cI cC T u9 v9 6 τ) (zs_y K hD hS (fun U hU hW => (hfz U hU hW).2)) hP hD hS rfl hl.1 rfl (Nat.le_of_ble_eq_true rfl) dL_law_895 ⟨by show _ + _ ≤ 600390; omega, by show _ + _ ≤ 7289640; omega⟩ (fun H locs hP hD hS => ?_)
  refine z_if_eq hx hb dL_law_898 (tgt := 932) rfl (by decide) (fun hbr => absurd hbr (by decide)) (fun hbr => ?_)
  refine lv_aload hx hb dL_law_901 (lv_at hl 0 rfl) ?_
  refine z_iconst hx hb dL_law_903 ?_
  obtain ⟨e22, z22⟩ := zc_fine z21 5 1 0 0 (zf_1ho ka) (zf_1ho_c ka)
  refine wy_V (As := [.int (iI 1)]) (rest := []) K (kX8_host l K.hst D F cI cC T N21 1 (by decide) z21.1.1 z21.1.2.1 z21.1.2.2.2.1 0 1 (cM N21 5 1 0 0) (ch_host e22)) (cwV 1 K.hts gL_law_X8_host rfl rfl rfl (by decide +kernel) ⟨(Nat.le_of_ble_eq_true rfl), (Nat.le_of_ble_eq_true rfl)⟩) hP hD hS rfl hl.1 rfl (Nat.le_of_ble_eq_true rfl) dL_law_904 ⟨by show _ + _ ≤ 600390; omega, by show _ + _ ≤ 7289640; omega⟩ (fun H locs hP hD hS => ?_)
  refine z_iconst hx hb dL_law_907 ?_
  refine w_ne_same K (a := 1) (b2 := 1) (rfl) dL_law_908 (tgt := 932) rfl ?_
  refine lv_aload hx hb dL_law_911 (lv_at hl 0 rfl) ?_
  refine z_bipush hx hb dL_law_913 (by decide +kernel) ?_
  obtain ⟨N23, e23, z23, -⟩ := zq_account z22 (w := 6) (by decide) (zf_2ac ka).2
  refine wy_V (As := [.int (iI 6)]) (rest := []) K (kX8_account l K.hst D F cI cC T (cM N21 5 1 0 0) 6 (by decide) z22.1.1 z22.1.2.1 z22.1.2.2.1 0 1 N23 e23) (cwV 1 K.hts gL_law_X8_account rfl rfl rfl (by decide +kernel) ⟨(Nat.le_of_ble_eq_true rfl), (Nat.le_of_ble_eq_true rfl)⟩) hP hD hS rfl hl.1 rfl (Nat.le_of_ble_eq_true rfl) dL_law_915 ⟨by show _ + _ ≤ 600390; omega, by show _ + _ ≤ 7289640; omega⟩ (fun H locs hP hD hS => ?_)
  refine z_iconst hx hb dL_law_918 ?_
  refine w_ne_same K (a := 1) (b2 := 1) (rfl) dL_law_919 (tgt := 932) rfl ?_
  refine lv_aload hx hb dL_law_922 (lv_at hl 0 rfl) ?_
  refine z_iconst hx hb dL_law_924 ?_
  obtain ⟨N24, e24, z24, -⟩ := zq_clearest z23 0 (zf_2cl ka)
  refine wy_V (As := [.int (iI 0)]) (rest := []) K (kX8_clearest l K.hst D F cI cC T N23 0 (by decide) z23.1.1 z23.1.2.1 0 1 N24 e24) (cwV 1 K.hts gL_law_X8_clearest rfl rfl rfl (by decide +kernel) ⟨(Nat.le_of_ble_eq_true rfl), (Nat.le_of_ble_eq_true rfl)⟩) hP hD hS rfl hl.1 rfl (Nat.le_of_ble_eq_true rfl) dL_law_925 ⟨by show _ + _ ≤ 600390; omega, by show _ + _ ≤ 7289640; omega⟩ (fun H locs hP hD hS => ?_)
  refine z_iconst hx hb dL_law_928 ?_
  refine w_eq_same K (a := 1) (b2 := 1) (rfl) dL_law_929 (tgt := 934) rfl ?_
  exact W.widen (by omega) (by omega) (next _ H locs ls z24 hP hD hS hl)
end
