/-! THE LAW, walked: the first text, and the same by calls (written by mk14c.py). -/
theorem REq0 (B : Mem) : B 0 = B 0 := rfl
set_option maxRecDepth 100000 in
theorem bA_k0 : ∀ t : Fin 3, 0 ≤ ((fun _ _ => 0) : Mem) 0 0 ∧ ((fun _ _ => 0) : Mem) 0 0 + ((sCs 1).length : Nat) ≤ (16 : Nat) := by decide +kernel
set_option maxRecDepth 100000 in
theorem bA_k1 : ∀ t : Fin 3, (0 ≤ (t.val : Int) ∧ (t.val : Int) ≤ 9) ∧ 0 ≤ (fB_app ((fun _ _ => 0) : Mem) (sCs 1).length (gT (sCs 1))) 0 0 ∧ (fB_app ((fun _ _ => 0) : Mem) (sCs 1).length (gT (sCs 1))) 0 0 + 1 ≤ (16 : Nat) := by decide +kernel
set_option maxRecDepth 100000 in
theorem bA_k2 : ∀ t : Fin 3, 0 ≤ (fB_int (fB_app ((fun _ _ => 0) : Mem) (sCs 1).length (gT (sCs 1))) (t.val : Int)) 0 0 ∧ (fB_int (fB_app ((fun _ _ => 0) : Mem) (sCs 1).length (gT (sCs 1))) (t.val : Int)) 0 0 + ((sCs 2).length : Nat) ≤ (16 : Nat) := by decide +kernel
set_option maxRecDepth 100000 in
theorem bA_t : ∀ t : Fin 3, (fB_app (fB_int (fB_app ((fun _ _ => 0) : Mem) (sCs 1).length (gT (sCs 1))) (t.val : Int)) (sCs 2).length (gT (sCs 2))) 0 0 = (14 : Nat) ∧ (∀ j : Fin 16, 0 ≤ (fB_app (fB_int (fB_app ((fun _ _ => 0) : Mem) (sCs 1).length (gT (sCs 1))) (t.val : Int)) (sCs 2).length (gT (sCs 2))) 1 (j.val : Int) ∧ (fB_app (fB_int (fB_app ((fun _ _ => 0) : Mem) (sCs 1).length (gT (sCs 1))) (t.val : Int)) (sCs 2).length (gT (sCs 2))) 1 (j.val : Int) < 128) ∧ (∀ j : Fin 14, (fB_app (fB_int (fB_app ((fun _ _ => 0) : Mem) (sCs 1).length (gT (sCs 1))) (t.val : Int)) (sCs 2).length (gT (sCs 2))) 1 (j.val : Int) = (tA (t.val : Int)) (j.val : Int)) ∧ (∀ j : Fin 14, 0 ≤ (tA (t.val : Int)) (j.val : Int) ∧ (tA (t.val : Int)) (j.val : Int) < 128) := by decide +kernel
set_option maxRecDepth 100000 in
theorem bB_k0 : ∀ t : Fin 3, 0 ≤ ((fun _ _ => 0) : Mem) 0 0 ∧ ((fun _ _ => 0) : Mem) 0 0 + ((sCs 3).length : Nat) ≤ (16 : Nat) := by decide +kernel
set_option maxRecDepth 100000 in
theorem bB_k1 : ∀ t : Fin 3, (0 ≤ (t.val : Int) ∧ (t.val : Int) ≤ 9) ∧ 0 ≤ (fB_app ((fun _ _ => 0) : Mem) (sCs 3).length (gT (sCs 3))) 0 0 ∧ (fB_app ((fun _ _ => 0) : Mem) (sCs 3).length (gT (sCs 3))) 0 0 + 1 ≤ (16 : Nat) := by decide +kernel
set_option maxRecDepth 100000 in
theorem bB_t : ∀ t : Fin 3, (fB_int (fB_app ((fun _ _ => 0) : Mem) (sCs 3).length (gT (sCs 3))) (t.val : Int)) 0 0 = (14 : Nat) ∧ (∀ j : Fin 16, 0 ≤ (fB_int (fB_app ((fun _ _ => 0) : Mem) (sCs 3).length (gT (sCs 3))) (t.val : Int)) 1 (j.val : Int) ∧ (fB_int (fB_app ((fun _ _ => 0) : Mem) (sCs 3).length (gT (sCs 3))) (t.val : Int)) 1 (j.val : Int) < 128) ∧ (∀ j : Fin 14, (fB_int (fB_app ((fun _ _ => 0) : Mem) (sCs 3).length (gT (sCs 3))) (t.val : Int)) 1 (j.val : Int) = (tB (t.val : Int)) (j.val : Int)) ∧ (∀ j : Fin 14, 0 ≤ (tB (t.val : Int)) (j.val : Int) ∧ (tB (t.val : Int)) (j.val : Int) < 128) := by decide +kernel
section
variable {p : Program} {l : Launch} {e : Env} {s : State} {m : MethodId} {args : Array Value} {below : List Frame} {meth : Method} {c : Code} {H : Heap} {locs : List Loc} {cells slots : Nat} {Q : State → Prop}
variable {ls : Array Slot} {D : va_G} {cI cC cB : ClassId} {T S Tt : Nat → Nat} {tO b L : Nat} {xs : Nat → Int32} {E F : Nat → Nat} {B : Mem}
set_option maxRecDepth 100000 in
set_option maxHeartbeats 4000000 in
theorem sg2A (K : LC p l s m args c D cI cC cB T b L xs S Tt tO) (hB : BI B) (h1 : 1 ≤ B 0 77) {k3 : Fin 3} (hu : fX6_tableUnder B 0 = -1) (hto : fX6_laidOn B (k3.val : Int) < 6) {X : Mem} (hX : XI B X) (hP : va_P D vwCl (W2 E F cI cC X B) H) (hD : va_D (lA s) (W2 E F cI cC X B)) (hS : va_S (lA s) s.heap H locs) (hl : lv_has ls 12 [(6, .int (iI (k3.val : Int))), (5, .int (iI (fX6_tableUnder B 0))), (4, .int (iI (fL_state B).1)), (3, .int (iI (B 0 77))), (2, .ref (F 0)), (1, .ref (E 0)), (0, .ref b)]) (hc : cells + 700 ≤ 600390) (hs : slots + 6 * 700 ≤ 7289640)
    (next : ∀ (X5 Y5 : Mem) (H : Heap) (locs : List Loc) (ls : Array Slot), OI X5 → (∃ V : Mem, fX8_undo X5 = (0, X5 9 0 - 1, V) ∧ XI B V) → OI Y5 → (∃ V V2 : Mem, ∃ v v2 : Int, fX8_undo Y5 = (0, v, V) ∧ (0 ≤ v ∧ v ≤ 8) ∧ OI V ∧ fX8_undo V = (0, v2, V2) ∧ (0 ≤ v2 ∧ v2 ≤ 8) ∧ OI V2 ∧ REq V2 B) → va_P D vwCl (W2 E F cI cC X5 Y5) H → va_D (lA s) (W2 E F cI cC X5 Y5) → va_S (lA s) s.heap H locs → lv_has ls 12 [(6, .int (iI (k3.val : Int))), (5, .int (iI (fX6_tableUnder B 0))), (4, .int (iI (fL_state B).1)), (3, .int (iI (B 0 77))), (2, .ref (F 0)), (1, .ref (E 0)), (0, .ref b)] → W p l e room_1 s m args below meth c H locs (cells + 700) (slots + 6 * 700) Q (F0 m 187 ls [])) : W p l e room_1 s m args below meth c H locs cells slots Q (F0 m 56 ls []) := by
  have hx := K.hx
  have hb := K.hb
  have hk3 : 0 ≤ (k3.val : Int) ∧ (k3.val : Int) < 3 := ⟨by omega, by omega⟩
  have hT0 : -1 ≤ fX6_tableUnder B 0 ∧ fX6_tableUnder B 0 ≤ 2 := tu_r 0
  obtain ⟨g1, g2, g3, g4, g5⟩ := caseA hB h1 hu hk3 hto
  have gv1 := lay_v (a := 0) (d := 0) hB.1 hk3
  have gv2 := take_v g4
  obtain ⟨y1, y2, y3, y4, y5, y6⟩ := y_go hB g1 g3
  refine lv_aload_n hx hb dL_law_56 rfl (lv_at hl 5 rfl) ?_
  refine lv_iload hx hb dL_law_57 (lv_at hl 1 rfl) ?_
  refine z_if_ge hx hb dL_law_59 (tgt := 90) rfl ⟨by omega, by omega⟩ (fun hbr => absurd hbr (by omega)) (fun hbr => ?_)
  refine w_sbnew (rest := [.ref (E 0)]) K hP hD hS hl.1 (Nat.le_of_ble_eq_true rfl) dL_law_62 dL_law_65 dL_law_66 ⟨by show _ + _ ≤ 600390; omega, by show _ + _ ≤ 7289640; omega⟩ (fun h9 a9 H locs hP hD hS => ?_)
  refine w_ldc K (K.str 1 (by decide)).1 dL_law_69 ?_
  refine w_app (rest := [.ref (E 0)]) K (K.str 1 (by decide)).2 (sG (by decide)) (bA_k0 k3) (by decide) hP hD hS hl.1 (Nat.le_of_ble_eq_true rfl) dL_law_71 ⟨by omega, by omega⟩ (fun H locs hP hD hS => ?_)
  refine lv_iload hx hb dL_law_74 (lv_at hl 0 rfl) ?_
  refine w_int (rest := [.ref (E 0)]) K (bA_k1 k3).1 (bA_k1 k3).2 (by decide) hP hD hS hl.1 (Nat.le_of_ble_eq_true rfl) dL_law_76 ⟨by omega, by omega⟩ (fun H locs hP hD hS => ?_)
  refine w_ldc K (K.str 2 (by decide)).1 dL_law_79 ?_
  refine w_app (rest := [.ref (E 0)]) K (K.str 2 (by decide)).2 (sG (by decide)) (bA_k2 k3) (by decide) hP hD hS hl.1 (Nat.le_of_ble_eq_true rfl) dL_law_81 ⟨by omega, by omega⟩ (fun H locs hP hD hS => ?_)
  refine w_tos (rest := [.ref (E 0)]) (n := 14) K (bA_t k3).1 (by decide) (by decide) (gen_r (bA_t k3).2.1) hP hD hS hl.1 (Nat.le_of_ble_eq_true rfl) dL_law_84 ⟨by show _ + _ ≤ 600390; omega, by show _ + _ ≤ 7289640; omega⟩ (fun u9 v9 τ H locs hτ hfz hP hD hS => ?_)
  have hτg : ∀ j : Int, 0 ≤ j → j < (14 : Nat) → τ j = (tA (k3.val : Int)) j := fun j p q => (hτ j p q).trans (gen_x (bA_t k3).2.2.1 j p q)
  have hgr : ∀ j : Int, 0 ≤ j → j < (14 : Nat) → 0 ≤ (tA (k3.val : Int)) j ∧ (tA (k3.val : Int)) j < 128 := gen_r (bA_t k3).2.2.2
  have hτr : ∀ j : Int, 0 ≤ j → j < (14 : Nat) → 0 ≤ τ j ∧ τ j < 256 := fun j p q => by rw [hτg j p q]; have := hgr j p q; exact ⟨this.1, by omega⟩
  have hgr2 : ∀ j : Int, 0 ≤ j → j < (14 : Nat) → 0 ≤ (tA (k3.val : Int)) j ∧ (tA (k3.val : Int)) j < 256 := fun j p q => by have := hgr j p q; exact ⟨this.1, by omega⟩
  refine lv_goto (tgt := 110) hx hb dL_law_87 (by decide) ?_
  have hXp := XI_put hX 14 (tA (k3.val : Int)) (by decide) hgr2
  refine wx_S (As := [.ref (E 0), .ref u9]) (rest := []) K (kL_put l K.hst D E cI cC T X u9 v9 14 τ (by decide) hτr hX.1.2.2.1 (by rw [hX.2.1]; decide)) (va_cwS 2 K.hts gL_law_L_put rfl rfl rfl (by decide +kernel) ⟨(Nat.le_of_ble_eq_true rfl), (Nat.le_of_ble_eq_true rfl)⟩) (ZS_bl E cI cC T u9 v9 14 τ) (zs_x K hD hS (fun U hU hW => (hfz U hU hW).1)) hP hD hS rfl hl.1 rfl (Nat.le_of_ble_eq_true rfl) dL_law_110 ⟨by show _ + _ ≤ 600390; omega, by show _ + _ ≤ 7289640; omega⟩ (fun H locs hP hD hS => ?_)
  rw [put_x hτg X] at hP hD
  obtain ⟨⟨er, p1, ha, hb1, hd, hl1, p2, ha2, hb2, hd2⟩, hl2, p3⟩ := pA k3
  obtain ⟨N, Sx, rE, oN, n11, nR, n15, n16, nS, nH, n14⟩ := x_two hX 14 (tA (k3.val : Int)) (by decide) hgr2 er p1 (by decide) ha hb1 hd hl1 p2 (by decide) ha2 hb2 hd2 hl2 p3 g1 g3
  refine lv_aload_n hx hb dL_law_113 rfl (lv_at hl 5 rfl) ?_
  refine wx_V (As := []) (rest := []) K (kX8_read l K.hst D E cI cC T (fL_put X 14 (tA (k3.val : Int)))  hXp.1.1 hXp.1.2.1 hXp.1.2.2.1 hXp.1.2.2.2.1 0 2 N rE) (cwV 0 K.hts gL_law_X8_read rfl rfl rfl (by decide +kernel) ⟨(Nat.le_of_ble_eq_true rfl), (Nat.le_of_ble_eq_true rfl)⟩) hP hD hS rfl hl.1 rfl (Nat.le_of_ble_eq_true rfl) dL_law_114 ⟨by show _ + _ ≤ 600390; omega, by show _ + _ ≤ 7289640; omega⟩ (fun H locs hP hD hS => ?_)
  refine z_iconst hx hb dL_law_117 ?_
  refine w_ne_same K (a := 2) (b2 := 2) (rfl) dL_law_118 (tgt := 185) rfl ?_
  refine lv_iload hx hb dL_law_121 (lv_at hl 1 rfl) ?_
  refine z_if_ge hx hb dL_law_123 (tgt := 147) rfl ⟨by omega, by omega⟩ (fun hbr => absurd hbr (by omega)) (fun hbr => ?_)
  refine lv_aload_n hx hb dL_law_126 rfl (lv_at hl 4 rfl) ?_
  refine z_iconst hx hb dL_law_127 ?_
  refine lv_iload hx hb dL_law_128 (lv_at hl 0 rfl) ?_
  refine wy_V (As := [.int (iI 0), .int (iI (k3.val : Int))]) (rest := []) K (kX8_lay l K.hst D F cI cC T B 0 (k3.val : Int) (by decide) ⟨by omega, by omega⟩ hB.1 hB.2.1 hB.2.2.2.1 0 (fX5_carryOut B 6 0 (k3.val : Int) 0).1 (cM B 6 0 (k3.val : Int) 0) (ch_lay y1)) (cwV 2 K.hts gL_law_X8_lay rfl rfl rfl (by decide +kernel) ⟨(Nat.le_of_ble_eq_true rfl), (Nat.le_of_ble_eq_true rfl)⟩) hP hD hS rfl hl.1 rfl (Nat.le_of_ble_eq_true rfl) dL_law_130 ⟨by show _ + _ ≤ 600390; omega, by show _ + _ ≤ 7289640; omega⟩ (fun H locs hP hD hS => ?_)
  refine z_if_lt hx hb dL_law_133 (tgt := 185) rfl ⟨by omega, by omega⟩ (fun hbr => absurd hbr (by omega)) (fun hbr => ?_)
  refine lv_aload_n hx hb dL_law_136 rfl (lv_at hl 4 rfl) ?_
  refine z_iconst hx hb dL_law_137 ?_
  refine wy_V (As := [.int (iI 0)]) (rest := []) K (kX8_take l K.hst D F cI cC T (cM B 6 0 (k3.val : Int) 0) 0 (by decide) y2.1 y2.2.1 y2.2.2.2.1 0 (fX5_carryOut (fX5_carryOut B 6 0 (k3.val : Int) 0).2 3 0 0 0).1 (cM (cM B 6 0 (k3.val : Int) 0) 3 0 0 0) (ch_take y3)) (cwV 1 K.hts gL_law_X8_take rfl rfl rfl (by decide +kernel) ⟨(Nat.le_of_ble_eq_true rfl), (Nat.le_of_ble_eq_true rfl)⟩) hP hD hS rfl hl.1 rfl (Nat.le_of_ble_eq_true rfl) dL_law_138 ⟨by show _ + _ ≤ 600390; omega, by show _ + _ ≤ 7289640; omega⟩ (fun H locs hP hD hS => ?_)
  refine z_if_ge hx hb dL_law_141 (tgt := 165) rfl ⟨by omega, by omega⟩ (fun hbr => ?_) (fun hbr => absurd (by omega) hbr)
  refine lv_aload_n hx hb dL_law_165 rfl (lv_at hl 5 rfl) ?_
  refine wx_S (As := [.ref (E 0)]) (rest := []) K (kL_state l K.hst D E cI cC T N oN.1 oN.2.1 oN.2.2.1) (va_cwS 1 K.hts gL_law_L_state rfl rfl rfl (by decide +kernel) ⟨(Nat.le_of_ble_eq_true rfl), (Nat.le_of_ble_eq_true rfl)⟩) (ZC_bl E cI cC T) (lz_C K (w2_x hD) hS) hP hD hS rfl hl.1 rfl (Nat.le_of_ble_eq_true rfl) dL_law_166 ⟨by show _ + _ ≤ 600390; omega, by show _ + _ ≤ 7289640; omega⟩ (fun H locs hP hD hS => ?_)
  refine lv_aload_n hx hb dL_law_169 rfl (lv_at hl 4 rfl) ?_
  refine wy_S (As := [.ref (F 0)]) (rest := [.int (iI (fL_state N).1)]) K (kL_state l K.hst D F cI cC T (cM (cM B 6 0 (k3.val : Int) 0) 3 0 0 0) y4.1 y4.2.1 y4.2.2.1) (va_cwS 1 K.hts gL_law_L_state rfl rfl rfl (by decide +kernel) ⟨(Nat.le_of_ble_eq_true rfl), (Nat.le_of_ble_eq_true rfl)⟩) (ZC_bl F cI cC T) (lz_C K (w2_y hD) hS) hP hD hS rfl hl.1 rfl (Nat.le_of_ble_eq_true rfl) dL_law_170 ⟨by show _ + _ ≤ 600390; omega, by show _ + _ ≤ 7289640; omega⟩ (fun H locs hP hD hS => ?_)
  refine w_ne_same K (a := (fL_state N).1) (b2 := (fL_state (cM (cM B 6 0 (k3.val : Int) 0) 3 0 0 0)).1) (state_c (nR.tr y5.sy)) dL_law_173 (tgt := 185) rfl ?_
  have o5 := OI_state oN
  have s5 := state_S N
  have oy := OI_state y4
  have sy := state_S (cM (cM B 6 0 (k3.val : Int) 0) 3 0 0 0)
  have c11 : (fL_state N).2 11 0 = 0 := by rw [s5 11 (by decide) (by decide) (by decide) (by decide) (by decide)]; exact n11
  have uX := x_undo hB.1 nS nH n14 s5 o5 n11 (fun j p q => by rw [n15]; exact hX.2.2.2.1 j p q) (by rw [n16]; exact hX.2.2.2.2)
  have uY := y6 _ sy oy
  generalize (fL_state N).2 = X5 at hP hD o5 s5 c11 uX
  generalize (fL_state (cM (cM B 6 0 (k3.val : Int) 0) 3 0 0 0)).2 = Y5 at hP hD oy uY
  refine lv_aload_n hx hb dL_law_176 rfl (lv_at hl 5 rfl) ?_
  refine z_bipush hx hb dL_law_177 (by decide +kernel) ?_
  refine wx_V (As := [.int (iI 10)]) (rest := []) K (kX8_account l K.hst D E cI cC T X5 10 (by decide) o5.1 o5.2.1 o5.2.2.1 0 (X5 11 0) X5 (acc10 X5)) (cwV 1 K.hts gL_law_X8_account rfl rfl rfl (by decide +kernel) ⟨(Nat.le_of_ble_eq_true rfl), (Nat.le_of_ble_eq_true rfl)⟩) hP hD hS rfl hl.1 rfl (Nat.le_of_ble_eq_true rfl) dL_law_179 ⟨by show _ + _ ≤ 600390; omega, by show _ + _ ≤ 7289640; omega⟩ (fun H locs hP hD hS => ?_)
  rw [c11]
  refine z_if_eq hx hb dL_law_182 (tgt := 187) rfl (by decide) (fun hbr => ?_) (fun hbr => absurd rfl hbr)
  exact W.widen (by omega) (by omega) (next X5 Y5 H locs ls o5 uX oy uY hP hD hS hl)
set_option maxRecDepth 100000 in
set_option maxHeartbeats 4000000 in
theorem sg2B (K : LC p l s m args c D cI cC cB T b L xs S Tt tO) (hB : BI B) (h1 : 1 ≤ B 0 77) {k3 : Fin 3} (hu : fX6_tableUnder B 0 = (k3.val : Int)) {X : Mem} (hX : XI B X) (hP : va_P D vwCl (W2 E F cI cC X B) H) (hD : va_D (lA s) (W2 E F cI cC X B)) (hS : va_S (lA s) s.heap H locs) (hl : lv_has ls 12 [(6, .int (iI 0)), (5, .int (iI (k3.val : Int))), (4, .int (iI (fL_state B).1)), (3, .int (iI (B 0 77))), (2, .ref (F 0)), (1, .ref (E 0)), (0, .ref b)]) (hc : cells + 700 ≤ 600390) (hs : slots + 6 * 700 ≤ 7289640)
    (next : ∀ (X5 Y5 : Mem) (H : Heap) (locs : List Loc) (ls : Array Slot), OI X5 → (∃ V : Mem, fX8_undo X5 = (0, X5 9 0 - 1, V) ∧ XI B V) → OI Y5 → (∃ V V2 : Mem, ∃ v v2 : Int, fX8_undo Y5 = (0, v, V) ∧ (0 ≤ v ∧ v ≤ 8) ∧ OI V ∧ fX8_undo V = (0, v2, V2) ∧ (0 ≤ v2 ∧ v2 ≤ 8) ∧ OI V2 ∧ REq V2 B) → va_P D vwCl (W2 E F cI cC X5 Y5) H → va_D (lA s) (W2 E F cI cC X5 Y5) → va_S (lA s) s.heap H locs → lv_has ls 12 [(6, .int (iI 0)), (5, .int (iI (k3.val : Int))), (4, .int (iI (fL_state B).1)), (3, .int (iI (B 0 77))), (2, .ref (F 0)), (1, .ref (E 0)), (0, .ref b)] → W p l e room_1 s m args below meth c H locs (cells + 700) (slots + 6 * 700) Q (F0 m 187 ls [])) : W p l e room_1 s m args below meth c H locs cells slots Q (F0 m 56 ls []) := by
  have hx := K.hx
  have hb := K.hb
  have hk3 : 0 ≤ (k3.val : Int) ∧ (k3.val : Int) < 3 := ⟨by omega, by omega⟩
  have hT0 : -1 ≤ fX6_tableUnder B 0 ∧ fX6_tableUnder B 0 ≤ 2 := tu_r 0
  obtain ⟨g0, g1, g2, g3, g4, g5⟩ := caseB hB h1 hu (by omega)
  have gv1 := take_v g2
  have gv2 := lay_v (a := 0) (d := 0) (CI_carryOut hB.1 (REq0 B) g1) hk3
  obtain ⟨y1, y2, y3, y4, y5, y6⟩ := y_go hB g1 g3
  refine lv_aload_n hx hb dL_law_56 rfl (lv_at hl 5 rfl) ?_
  refine lv_iload hx hb dL_law_57 (lv_at hl 1 rfl) ?_
  refine z_if_ge hx hb dL_law_59 (tgt := 90) rfl ⟨by omega, by omega⟩ (fun hbr => ?_) (fun hbr => absurd (by omega) hbr)
  refine w_sbnew (rest := [.ref (E 0)]) K hP hD hS hl.1 (Nat.le_of_ble_eq_true rfl) dL_law_90 dL_law_93 dL_law_94 ⟨by show _ + _ ≤ 600390; omega, by show _ + _ ≤ 7289640; omega⟩ (fun h9 a9 H locs hP hD hS => ?_)
  refine w_ldc K (K.str 3 (by decide)).1 dL_law_97 ?_
  refine w_app (rest := [.ref (E 0)]) K (K.str 3 (by decide)).2 (sG (by decide)) (bB_k0 k3) (by decide) hP hD hS hl.1 (Nat.le_of_ble_eq_true rfl) dL_law_99 ⟨by omega, by omega⟩ (fun H locs hP hD hS => ?_)
  refine lv_iload hx hb dL_law_102 (lv_at hl 1 rfl) ?_
  refine w_int (rest := [.ref (E 0)]) K (bB_k1 k3).1 (bB_k1 k3).2 (by decide) hP hD hS hl.1 (Nat.le_of_ble_eq_true rfl) dL_law_104 ⟨by omega, by omega⟩ (fun H locs hP hD hS => ?_)
  refine w_tos (rest := [.ref (E 0)]) (n := 14) K (bB_t k3).1 (by decide) (by decide) (gen_r (bB_t k3).2.1) hP hD hS hl.1 (Nat.le_of_ble_eq_true rfl) dL_law_107 ⟨by show _ + _ ≤ 600390; omega, by show _ + _ ≤ 7289640; omega⟩ (fun u9 v9 τ H locs hτ hfz hP hD hS => ?_)
  have hτg : ∀ j : Int, 0 ≤ j → j < (14 : Nat) → τ j = (tB (k3.val : Int)) j := fun j p q => (hτ j p q).trans (gen_x (bB_t k3).2.2.1 j p q)
  have hgr : ∀ j : Int, 0 ≤ j → j < (14 : Nat) → 0 ≤ (tB (k3.val : Int)) j ∧ (tB (k3.val : Int)) j < 128 := gen_r (bB_t k3).2.2.2
  have hτr : ∀ j : Int, 0 ≤ j → j < (14 : Nat) → 0 ≤ τ j ∧ τ j < 256 := fun j p q => by rw [hτg j p q]; have := hgr j p q; exact ⟨this.1, by omega⟩
  have hgr2 : ∀ j : Int, 0 ≤ j → j < (14 : Nat) → 0 ≤ (tB (k3.val : Int)) j ∧ (tB (k3.val : Int)) j < 256 := fun j p q => by have := hgr j p q; exact ⟨this.1, by omega⟩
  have hXp := XI_put hX 14 (tB (k3.val : Int)) (by decide) hgr2
  refine wx_S (As := [.ref (E 0), .ref u9]) (rest := []) K (kL_put l K.hst D E cI cC T X u9 v9 14 τ (by decide) hτr hX.1.2.2.1 (by rw [hX.2.1]; decide)) (va_cwS 2 K.hts gL_law_L_put rfl rfl rfl (by decide +kernel) ⟨(Nat.le_of_ble_eq_true rfl), (Nat.le_of_ble_eq_true rfl)⟩) (ZS_bl E cI cC T u9 v9 14 τ) (zs_x K hD hS (fun U hU hW => (hfz U hU hW).1)) hP hD hS rfl hl.1 rfl (Nat.le_of_ble_eq_true rfl) dL_law_110 ⟨by show _ + _ ≤ 600390; omega, by show _ + _ ≤ 7289640; omega⟩ (fun H locs hP hD hS => ?_)
  rw [put_x hτg X] at hP hD
  obtain ⟨⟨er, p1, ha, hb1, hd, hl1, p2, ha2, hb2, hd2⟩, hl2, p3⟩ := pB k3
  obtain ⟨N, Sx, rE, oN, n11, nR, n15, n16, nS, nH, n14⟩ := x_two hX 14 (tB (k3.val : Int)) (by decide) hgr2 er p1 (by decide) ha hb1 hd hl1 p2 (by decide) ha2 hb2 hd2 hl2 p3 g1 g3
  refine lv_aload_n hx hb dL_law_113 rfl (lv_at hl 5 rfl) ?_
  refine wx_V (As := []) (rest := []) K (kX8_read l K.hst D E cI cC T (fL_put X 14 (tB (k3.val : Int)))  hXp.1.1 hXp.1.2.1 hXp.1.2.2.1 hXp.1.2.2.2.1 0 2 N rE) (cwV 0 K.hts gL_law_X8_read rfl rfl rfl (by decide +kernel) ⟨(Nat.le_of_ble_eq_true rfl), (Nat.le_of_ble_eq_true rfl)⟩) hP hD hS rfl hl.1 rfl (Nat.le_of_ble_eq_true rfl) dL_law_114 ⟨by show _ + _ ≤ 600390; omega, by show _ + _ ≤ 7289640; omega⟩ (fun H locs hP hD hS => ?_)
  refine z_iconst hx hb dL_law_117 ?_
  refine w_ne_same K (a := 2) (b2 := 2) (rfl) dL_law_118 (tgt := 185) rfl ?_
  refine lv_iload hx hb dL_law_121 (lv_at hl 1 rfl) ?_
  refine z_if_ge hx hb dL_law_123 (tgt := 147) rfl ⟨by omega, by omega⟩ (fun hbr => ?_) (fun hbr => absurd (by omega) hbr)
  refine lv_aload_n hx hb dL_law_147 rfl (lv_at hl 4 rfl) ?_
  refine z_iconst hx hb dL_law_148 ?_
  refine wy_V (As := [.int (iI 0)]) (rest := []) K (kX8_take l K.hst D F cI cC T B 0 (by decide) hB.1 hB.2.1 hB.2.2.2.1 0 (fX5_carryOut B 3 0 0 0).1 (cM B 3 0 0 0) (ch_take y1)) (cwV 1 K.hts gL_law_X8_take rfl rfl rfl (by decide +kernel) ⟨(Nat.le_of_ble_eq_true rfl), (Nat.le_of_ble_eq_true rfl)⟩) hP hD hS rfl hl.1 rfl (Nat.le_of_ble_eq_true rfl) dL_law_149 ⟨by show _ + _ ≤ 600390; omega, by show _ + _ ≤ 7289640; omega⟩ (fun H locs hP hD hS => ?_)
  refine z_if_lt hx hb dL_law_152 (tgt := 185) rfl ⟨by omega, by omega⟩ (fun hbr => absurd hbr (by omega)) (fun hbr => ?_)
  refine lv_aload_n hx hb dL_law_155 rfl (lv_at hl 4 rfl) ?_
  refine z_iconst hx hb dL_law_156 ?_
  refine lv_iload hx hb dL_law_157 (lv_at hl 1 rfl) ?_
  refine wy_V (As := [.int (iI 0), .int (iI (k3.val : Int))]) (rest := []) K (kX8_lay l K.hst D F cI cC T (cM B 3 0 0 0) 0 (k3.val : Int) (by decide) ⟨by omega, by omega⟩ y2.1 y2.2.1 y2.2.2.2.1 0 (fX5_carryOut (fX5_carryOut B 3 0 0 0).2 6 0 (k3.val : Int) 0).1 (cM (cM B 3 0 0 0) 6 0 (k3.val : Int) 0) (ch_lay y3)) (cwV 2 K.hts gL_law_X8_lay rfl rfl rfl (by decide +kernel) ⟨(Nat.le_of_ble_eq_true rfl), (Nat.le_of_ble_eq_true rfl)⟩) hP hD hS rfl hl.1 rfl (Nat.le_of_ble_eq_true rfl) dL_law_159 ⟨by show _ + _ ≤ 600390; omega, by show _ + _ ≤ 7289640; omega⟩ (fun H locs hP hD hS => ?_)
  refine z_if_lt hx hb dL_law_162 (tgt := 185) rfl ⟨by omega, by omega⟩ (fun hbr => absurd hbr (by omega)) (fun hbr => ?_)
  refine lv_aload_n hx hb dL_law_165 rfl (lv_at hl 5 rfl) ?_
  refine wx_S (As := [.ref (E 0)]) (rest := []) K (kL_state l K.hst D E cI cC T N oN.1 oN.2.1 oN.2.2.1) (va_cwS 1 K.hts gL_law_L_state rfl rfl rfl (by decide +kernel) ⟨(Nat.le_of_ble_eq_true rfl), (Nat.le_of_ble_eq_true rfl)⟩) (ZC_bl E cI cC T) (lz_C K (w2_x hD) hS) hP hD hS rfl hl.1 rfl (Nat.le_of_ble_eq_true rfl) dL_law_166 ⟨by show _ + _ ≤ 600390; omega, by show _ + _ ≤ 7289640; omega⟩ (fun H locs hP hD hS => ?_)
  refine lv_aload_n hx hb dL_law_169 rfl (lv_at hl 4 rfl) ?_
  refine wy_S (As := [.ref (F 0)]) (rest := [.int (iI (fL_state N).1)]) K (kL_state l K.hst D F cI cC T (cM (cM B 3 0 0 0) 6 0 (k3.val : Int) 0) y4.1 y4.2.1 y4.2.2.1) (va_cwS 1 K.hts gL_law_L_state rfl rfl rfl (by decide +kernel) ⟨(Nat.le_of_ble_eq_true rfl), (Nat.le_of_ble_eq_true rfl)⟩) (ZC_bl F cI cC T) (lz_C K (w2_y hD) hS) hP hD hS rfl hl.1 rfl (Nat.le_of_ble_eq_true rfl) dL_law_170 ⟨by show _ + _ ≤ 600390; omega, by show _ + _ ≤ 7289640; omega⟩ (fun H locs hP hD hS => ?_)
  refine w_ne_same K (a := (fL_state N).1) (b2 := (fL_state (cM (cM B 3 0 0 0) 6 0 (k3.val : Int) 0)).1) (state_c (nR.tr y5.sy)) dL_law_173 (tgt := 185) rfl ?_
  have o5 := OI_state oN
  have s5 := state_S N
  have oy := OI_state y4
  have sy := state_S (cM (cM B 3 0 0 0) 6 0 (k3.val : Int) 0)
  have c11 : (fL_state N).2 11 0 = 0 := by rw [s5 11 (by decide) (by decide) (by decide) (by decide) (by decide)]; exact n11
  have uX := x_undo hB.1 nS nH n14 s5 o5 n11 (fun j p q => by rw [n15]; exact hX.2.2.2.1 j p q) (by rw [n16]; exact hX.2.2.2.2)
  have uY := y6 _ sy oy
  generalize (fL_state N).2 = X5 at hP hD o5 s5 c11 uX
  generalize (fL_state (cM (cM B 3 0 0 0) 6 0 (k3.val : Int) 0)).2 = Y5 at hP hD oy uY
  refine lv_aload_n hx hb dL_law_176 rfl (lv_at hl 5 rfl) ?_
  refine z_bipush hx hb dL_law_177 (by decide +kernel) ?_
  refine wx_V (As := [.int (iI 10)]) (rest := []) K (kX8_account l K.hst D E cI cC T X5 10 (by decide) o5.1 o5.2.1 o5.2.2.1 0 (X5 11 0) X5 (acc10 X5)) (cwV 1 K.hts gL_law_X8_account rfl rfl rfl (by decide +kernel) ⟨(Nat.le_of_ble_eq_true rfl), (Nat.le_of_ble_eq_true rfl)⟩) hP hD hS rfl hl.1 rfl (Nat.le_of_ble_eq_true rfl) dL_law_179 ⟨by show _ + _ ≤ 600390; omega, by show _ + _ ≤ 7289640; omega⟩ (fun H locs hP hD hS => ?_)
  rw [c11]
  refine z_if_eq hx hb dL_law_182 (tgt := 187) rfl (by decide) (fun hbr => ?_) (fun hbr => absurd rfl hbr)
  exact W.widen (by omega) (by omega) (next X5 Y5 H locs ls o5 uX oy uY hP hD hS hl)
end
