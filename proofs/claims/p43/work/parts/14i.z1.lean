/-! THE LAW, walked: the third object, bare (written by mk14h.py). -/
theorem SI_f {M : Mem} (h7 : 0 ≤ M 7 0 ∧ M 7 0 ≤ 6) (h : ∀ j : Fin 6, (-1 ≤ M 1 (j.val : Int) ∧ M 1 (j.val : Int) ≤ 9) ∧ (0 ≤ M 2 (j.val : Int) ∧ M 2 (j.val : Int) ≤ 4) ∧ (0 ≤ M 3 (j.val : Int) ∧ M 3 (j.val : Int) ≤ 3) ∧ (0 ≤ M 4 (j.val : Int) ∧ M 4 (j.val : Int) ≤ 9)) : SI M := by
  have g : ∀ j : Int, 0 ≤ j → j < 6 → (-1 ≤ M 1 j ∧ M 1 j ≤ 9) ∧ (0 ≤ M 2 j ∧ M 2 j ≤ 4) ∧ (0 ≤ M 3 j ∧ M 3 j ≤ 3) ∧ (0 ≤ M 4 j ∧ M 4 j ≤ 9) := fun j a b => by
    obtain ⟨k, rfl⟩ := Int.eq_ofNat_of_zero_le a
    exact h ⟨k, by omega⟩
  exact ⟨h7, fun j a b => (g j a b).1, fun j a b => (g j a b).2.1, fun j a b => (g j a b).2.2.1, fun j a b => (g j a b).2.2.2⟩
set_option maxRecDepth 100000 in
theorem SI_w : SI (fX8_isWell M0c).2 := SI_f (by decide +kernel) (by decide +kernel)
theorem zw_e : fX8_isWell M0c = (1, (fX8_isWell M0c).2) := Prod.ext zf_well rfl
theorem zC0_e : ∀ k : Fin 4, ∀ j : Fin 80, M0c 0 (j.val : Int) = zC0 (k.val : Int) (j.val : Int) := by decide +kernel
theorem zw_Z (ka : Fin 4) : ZI (zC0 (ka.val : Int)) (fX8_isWell M0c).2 := by
  have f : ∀ r : Nat, r ≠ 1 → r ≠ 2 → r ≠ 3 → r ≠ 4 → r ≠ 5 → r ≠ 6 → r ≠ 7 → (fX8_isWell M0c).2 r = M0c r := fun r h1 h2 h3 h4 h5 h6 h7 => fr_fX8_isWell (beq_f h1) (beq_f h2) (beq_f h3) (beq_f h4) (beq_f h5) (beq_f h6) (beq_f h7)
  have F : ∀ r : Nat, r = 0 ∨ (9 ≤ r ∧ r ≤ 13) → (fX8_isWell M0c).2 r = M0c r := fun r h => f r (by omega) (by omega) (by omega) (by omega) (by omega) (by omega) (by omega)
  refine ⟨⟨CI_of0 (F 0 (by decide)) OI_0.1, SI_w, TI_of (F 10 (by decide)) (F 11 (by decide)) OI_0.2.2.1, HN_of (F 9 (by decide)) OI_0.2.2.2.1, LN_of (F 12 (by decide)) (F 13 (by decide)) OI_0.2.2.2.2⟩, by rw [F 11 (by decide)]; rfl, fun j a b => ?_⟩
  rw [F 0 (by decide)]
  obtain ⟨k, rfl⟩ := Int.eq_ofNat_of_zero_le a
  exact zC0_e ka ⟨k, by omega⟩
section
variable {p : Program} {l : Launch} {e : Env} {s : State} {m : MethodId} {args : Array Value} {below : List Frame} {meth : Method} {c : Code} {H : Heap} {locs : List Loc} {cells slots : Nat} {Q : State → Prop}
variable {ls : Array Slot} {D : va_G} {cI cC cB : ClassId} {T S Tt : Nat → Nat} {tO b L : Nat} {xs : Nat → Int32} {E F : Nat → Nat} {B : Mem}
set_option maxRecDepth 100000 in
set_option maxHeartbeats 4000000 in
theorem sz1 (K : LC p l s m args c D cI cC cB T b L xs S Tt tO) {ka : Fin 4} {X : Mem} (hP : va_P D vwCl (W2 E F cI cC X M0c) H) (hD : va_D (lA s) (W2 E F cI cC X M0c)) (hS : va_S (lA s) s.heap H locs) (hl : lv_has ls 12 [(11, .ref (F 0)), (10, .int (iI (bb (ka.val : Int)))), (9, .int (iI (ka.val : Int))), (4, .int (iI (fL_state B).1)), (3, .int (iI (B 0 77))), (1, .ref (E 0))]) (hc : cells + 300 ≤ 600390) (hs : slots + 6 * 300 ≤ 7289640)
    (next : ∀ (Z2 : Mem) (H : Heap) (locs : List Loc) (ls : Array Slot), ZI (zC0 (ka.val : Int)) Z2 → va_P D vwCl (W2 E F cI cC X Z2) H → va_D (lA s) (W2 E F cI cC X Z2) → va_S (lA s) s.heap H locs → lv_has ls 12 [(11, .ref (F 0)), (10, .int (iI (bb (ka.val : Int)))), (9, .int (iI (ka.val : Int))), (4, .int (iI (fL_state B).1)), (3, .int (iI (B 0 77))), (1, .ref (E 0))] → W p l e room_1 s m args below meth c H locs (cells + 300) (slots + 6 * 300) Q (F0 m 665 ls [])) : W p l e room_1 s m args below meth c H locs cells slots Q (F0 m 562 ls []) := by
  have hx := K.hx
  have hb := K.hb
  refine lv_aload hx hb dL_law_562 (lv_at hl 0 rfl) ?_
  refine wy_I (As := []) (rest := []) K (kX8_isWell l D F cI cC (ZC F cI cC T) (ZC_ok F cI cC T) (ZC_bl F cI cC T) M0c KI_0.1 KI_0.2.1 1 (fX8_isWell M0c).2 zw_e) (cwV 0 K.hts gL_law_X8_isWell rfl rfl rfl (by decide +kernel) ⟨(Nat.le_of_ble_eq_true rfl), (Nat.le_of_ble_eq_true rfl)⟩) hP hD hS rfl hl.1 rfl (Nat.le_of_ble_eq_true rfl) dL_law_564 ⟨by show _ + _ ≤ 600390; omega, by show _ + _ ≤ 7289640; omega⟩ (fun H locs hP hD hS => ?_)
  have zz : ZI (zC0 (ka.val : Int)) (fX8_isWell M0c).2 := zw_Z ka
  generalize (fX8_isWell M0c).2 = Z at zz hP hD
  refine z_if_eq hx hb dL_law_567 (tgt := 663) rfl (by decide) (fun hbr => absurd hbr (by decide)) (fun hbr => ?_)
  refine lv_aload hx hb dL_law_570 (lv_at hl 0 rfl) ?_
  refine z_iconst hx hb dL_law_572 ?_
  obtain ⟨N1, e1, z1, -⟩ := zq_wrong zz 0 (zf_0w ka)
  refine wy_V (As := [.int (iI 0)]) (rest := []) K (kX8_wrong l K.hst D F cI cC T Z 0 (by decide) zz.1.1 zz.1.2.1 0 0 N1 e1) (cwV 1 K.hts gL_law_X8_wrong rfl rfl rfl (by decide +kernel) ⟨(Nat.le_of_ble_eq_true rfl), (Nat.le_of_ble_eq_true rfl)⟩) hP hD hS rfl hl.1 rfl (Nat.le_of_ble_eq_true rfl) dL_law_573 ⟨by show _ + _ ≤ 600390; omega, by show _ + _ ≤ 7289640; omega⟩ (fun H locs hP hD hS => ?_)
  refine z_if_ne hx hb dL_law_576 (tgt := 663) rfl (by decide) (fun hbr => absurd rfl hbr) (fun hbr => ?_)
  refine lv_aload hx hb dL_law_579 (lv_at hl 0 rfl) ?_
  refine z_iconst hx hb dL_law_581 ?_
  obtain ⟨N2, e2, z2, -⟩ := zq_next z1 1 (zf_0n ka)
  refine wy_V (As := [.int (iI 1)]) (rest := []) K (kX8_next l K.hst D F cI cC T N1 1 (by decide) z1.1.1 z1.1.2.1 0 2 N2 e2) (cwV 1 K.hts gL_law_X8_next rfl rfl rfl (by decide +kernel) ⟨(Nat.le_of_ble_eq_true rfl), (Nat.le_of_ble_eq_true rfl)⟩) hP hD hS rfl hl.1 rfl (Nat.le_of_ble_eq_true rfl) dL_law_582 ⟨by show _ + _ ≤ 600390; omega, by show _ + _ ≤ 7289640; omega⟩ (fun H locs hP hD hS => ?_)
  refine z_iconst hx hb dL_law_585 ?_
  refine w_ne_same K (a := 2) (b2 := 2) (rfl) dL_law_586 (tgt := 663) rfl ?_
  refine lv_aload hx hb dL_law_589 (lv_at hl 0 rfl) ?_
  refine z_iconst hx hb dL_law_591 ?_
  obtain ⟨N3, e3, z3, -⟩ := zq_clearest z2 2 (zf_0c ka)
  refine wy_V (As := [.int (iI 2)]) (rest := []) K (kX8_clearest l K.hst D F cI cC T N2 2 (by decide) z2.1.1 z2.1.2.1 0 2 N3 e3) (cwV 1 K.hts gL_law_X8_clearest rfl rfl rfl (by decide +kernel) ⟨(Nat.le_of_ble_eq_true rfl), (Nat.le_of_ble_eq_true rfl)⟩) hP hD hS rfl hl.1 rfl (Nat.le_of_ble_eq_true rfl) dL_law_592 ⟨by show _ + _ ≤ 600390; omega, by show _ + _ ≤ 7289640; omega⟩ (fun H locs hP hD hS => ?_)
  refine z_iconst hx hb dL_law_595 ?_
  refine w_ne_same K (a := 2) (b2 := 2) (rfl) dL_law_596 (tgt := 663) rfl ?_
  refine lv_aload hx hb dL_law_599 (lv_at hl 0 rfl) ?_
  refine z_iconst hx hb dL_law_601 ?_
  obtain ⟨N4, e4, z4, -⟩ := zq_doubt z3 0 (zf_0d ka)
  refine wy_V (As := [.int (iI 0)]) (rest := []) K (kX8_doubt l K.hst D F cI cC T N3 0 (by decide) z3.1.1 z3.1.2.1 0 0 N4 e4) (cwV 1 K.hts gL_law_X8_doubt rfl rfl rfl (by decide +kernel) ⟨(Nat.le_of_ble_eq_true rfl), (Nat.le_of_ble_eq_true rfl)⟩) hP hD hS rfl hl.1 rfl (Nat.le_of_ble_eq_true rfl) dL_law_602 ⟨by show _ + _ ≤ 600390; omega, by show _ + _ ≤ 7289640; omega⟩ (fun H locs hP hD hS => ?_)
  refine z_if_ne hx hb dL_law_605 (tgt := 663) rfl (by decide) (fun hbr => absurd rfl hbr) (fun hbr => ?_)
  refine lv_aload hx hb dL_law_608 (lv_at hl 0 rfl) ?_
  refine z_iconst hx hb dL_law_610 ?_
  obtain ⟨N5, e5, z5, -⟩ := zq_isRight z4 2 (zf_0r ka)
  refine wy_V (As := [.int (iI 2)]) (rest := []) K (kX8_isRight l K.hst D F cI cC T N4 2 (by decide) z4.1.1 z4.1.2.1 0 0 N5 e5) (cwV 1 K.hts gL_law_X8_isRight rfl rfl rfl (by decide +kernel) ⟨(Nat.le_of_ble_eq_true rfl), (Nat.le_of_ble_eq_true rfl)⟩) hP hD hS rfl hl.1 rfl (Nat.le_of_ble_eq_true rfl) dL_law_611 ⟨by show _ + _ ≤ 600390; omega, by show _ + _ ≤ 7289640; omega⟩ (fun H locs hP hD hS => ?_)
  refine z_if_ne hx hb dL_law_614 (tgt := 663) rfl (by decide) (fun hbr => absurd rfl hbr) (fun hbr => ?_)
  refine lv_aload hx hb dL_law_617 (lv_at hl 0 rfl) ?_
  refine z_iconst hx hb dL_law_619 ?_
  obtain ⟨N6, e6, z6, -⟩ := zq_phrases z5 0 (zf_0p ka)
  refine wy_V (As := [.int (iI 0)]) (rest := []) K (kX8_phrases l K.hst D F cI cC T N5 0 (by decide) z5.1.1 z5.1.2.1 0 0 N6 e6) (cwV 1 K.hts gL_law_X8_phrases rfl rfl rfl (by decide +kernel) ⟨(Nat.le_of_ble_eq_true rfl), (Nat.le_of_ble_eq_true rfl)⟩) hP hD hS rfl hl.1 rfl (Nat.le_of_ble_eq_true rfl) dL_law_620 ⟨by show _ + _ ≤ 600390; omega, by show _ + _ ≤ 7289640; omega⟩ (fun H locs hP hD hS => ?_)
  refine z_if_ne hx hb dL_law_623 (tgt := 663) rfl (by decide) (fun hbr => absurd rfl hbr) (fun hbr => ?_)
  refine lv_aload hx hb dL_law_626 (lv_at hl 0 rfl) ?_
  refine z_bipush hx hb dL_law_628 (by decide +kernel) ?_
  refine z_iconst hx hb dL_law_630 ?_
  refine z_iconst hx hb dL_law_631 ?_
  refine z_iconst hx hb dL_law_632 ?_
  obtain ⟨e7, z7, h18, h19⟩ := zc_no z6 5 0 0 0 (zf_0h ka) (by decide)
  refine wy_SW (As := [.ref (F 0), .int (iI 8), .int (iI 0), .int (iI 0), .int (iI 0)]) (rest := []) K (kA_8 l K.hst D F cI cC T N6 0 0 0 (by decide) z6.1.1 z6.1.2.1 z6.1.2.2.2.1) (vx_cwSW 5 K.hts gL_law_L_act rfl rfl rfl (by decide +kernel) ⟨(Nat.le_of_ble_eq_true rfl), (Nat.le_of_ble_eq_true rfl)⟩) (ZL_bl F cI cC T) (lz_L K (w2_y hD) hS) hP hD hS rfl hl.1 rfl (Nat.le_of_ble_eq_true rfl) dL_law_633 ⟨by show _ + _ ≤ 600390; omega, by show _ + _ ≤ 7289640; omega⟩ (fun H locs hP hD hS => ?_)
  rw [act_no e7 (fX8_host N6 0) rfl]
  have hr18 : 0 ≤ cM N6 5 0 0 0 18 0 ∧ cM N6 5 0 0 0 18 0 ≤ 1000 := by rw [h18]; decide
  have hr19 : 0 ≤ cM N6 5 0 0 0 19 0 ∧ cM N6 5 0 0 0 19 0 ≤ 1000 := by rw [h19]; decide
  refine z_bipush hx hb dL_law_636 (by decide +kernel) ?_
  refine w_ne_same K (a := (-2)) (b2 := (-2)) (rfl) dL_law_638 (tgt := 663) rfl ?_
  refine lv_aload hx hb dL_law_641 (lv_at hl 0 rfl) ?_
  refine z_iconst hx hb dL_law_643 ?_
  refine z_iconst hx hb dL_law_644 ?_
  refine wy_V (As := [.int (iI 0), .int (iI 0)]) (rest := []) K (kX8_refusal l K.hst D F cI cC T (cM N6 5 0 0 0) 0 0 (by decide) (by decide) hr18 hr19 0 8 ((ref_ff h18 (by decide)).trans (by rfl))) (cwV 2 K.hts gL_law_X8_refusal rfl rfl rfl (by decide +kernel) ⟨(Nat.le_of_ble_eq_true rfl), (Nat.le_of_ble_eq_true rfl)⟩) hP hD hS rfl hl.1 rfl (Nat.le_of_ble_eq_true rfl) dL_law_645 ⟨by show _ + _ ≤ 600390; omega, by show _ + _ ≤ 7289640; omega⟩ (fun H locs hP hD hS => ?_)
  refine z_bipush hx hb dL_law_648 (by decide +kernel) ?_
  refine w_ne_same K (a := 8) (b2 := 8) (rfl) dL_law_650 (tgt := 663) rfl ?_
  refine lv_aload hx hb dL_law_653 (lv_at hl 0 rfl) ?_
  refine z_iconst hx hb dL_law_655 ?_
  refine z_iconst hx hb dL_law_656 ?_
  refine wy_V (As := [.int (iI 0), .int (iI 1)]) (rest := []) K (kX8_refusal l K.hst D F cI cC T (cM N6 5 0 0 0) 0 1 (by decide) (by decide) hr18 hr19 0 0 ((ref_ft h18 (by decide)).trans (by rfl))) (cwV 2 K.hts gL_law_X8_refusal rfl rfl rfl (by decide +kernel) ⟨(Nat.le_of_ble_eq_true rfl), (Nat.le_of_ble_eq_true rfl)⟩) hP hD hS rfl hl.1 rfl (Nat.le_of_ble_eq_true rfl) dL_law_657 ⟨by show _ + _ ≤ 600390; omega, by show _ + _ ≤ 7289640; omega⟩ (fun H locs hP hD hS => ?_)
  refine z_if_eq hx hb dL_law_660 (tgt := 665) rfl (by decide) (fun hbr => ?_) (fun hbr => absurd rfl hbr)
  exact W.widen (by omega) (by omega) (next _ H locs ls z7 hP hD hS hl)
end
