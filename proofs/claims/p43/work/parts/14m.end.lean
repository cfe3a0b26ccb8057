/-! THE LAW, walked: its end (written by mk14h.py). -/
section
variable {p : Program} {l : Launch} {e : Env} {s : State} {m : MethodId} {args : Array Value} {below : List Frame} {meth : Method} {c : Code} {H : Heap} {locs : List Loc} {cells slots : Nat} {Q : State → Prop}
variable {ls : Array Slot} {D : va_G} {cI cC cB : ClassId} {T S Tt : Nat → Nat} {tO b L : Nat} {xs : Nat → Int32} {E F : Nat → Nat} {B : Mem}
set_option maxRecDepth 100000 in
set_option maxHeartbeats 4000000 in
theorem sgE (K : LC p l s m args c D cI cC cB T b L xs S Tt tO) (hB : BI B) (h1 : 1 ≤ B 0 77) {ka : Fin 4} {X Z : Mem} (hX : XI B X) (hP : va_P D vwCl (W2 E F cI cC X Z) H) (hD : va_D (lA s) (W2 E F cI cC X Z)) (hS : va_S (lA s) s.heap H locs) (hl : lv_has ls 12 [(11, .ref (F 0)), (10, .int (iI (bb (ka.val : Int)))), (9, .int (iI (ka.val : Int))), (4, .int (iI (fL_state B).1)), (3, .int (iI (B 0 77))), (1, .ref (E 0))]) (hc : cells + 400 ≤ 600390) (hs : slots + 6 * 400 ≤ 7289640) (hret : ∀ (H : Heap) (ls : Array Slot), W p l e room_1 s m args below meth c H [] 600390 7289640 Q (F0 m 1540 ls [.int (iI 1)])) : W p l e room_1 s m args below meth c H locs cells slots Q (F0 m 1509 ls []) := by
  have hx := K.hx
  have hb := K.hb
  obtain ⟨V, eV, oV, RV, nV⟩ := x_restore hB.1 hX
  refine lv_aload_n hx hb dL_law_1509 rfl (lv_at hl 5 rfl) ?_
  refine wx_V (As := []) (rest := []) K (kX8_restore l K.hst D E cI cC T X  (by rw [hX.2.2.2.2]; decide) 0 (B 0 77) V eV) (cwV 0 K.hts gL_law_X8_restore rfl rfl rfl (by decide +kernel) ⟨(Nat.le_of_ble_eq_true rfl), (Nat.le_of_ble_eq_true rfl)⟩) hP hD hS rfl hl.1 rfl (Nat.le_of_ble_eq_true rfl) dL_law_1510 ⟨by show _ + _ ≤ 600390; omega, by show _ + _ ≤ 7289640; omega⟩ (fun H locs hP hD hS => ?_)
  refine lv_iload_n hx hb dL_law_1513 rfl (lv_at hl 4 rfl) ?_
  refine w_ne_same K (a := (B 0 77)) (b2 := (B 0 77)) (rfl) dL_law_1514 (tgt := 1539) rfl ?_
  refine lv_aload_n hx hb dL_law_1517 rfl (lv_at hl 5 rfl) ?_
  refine z_bipush hx hb dL_law_1518 (by decide +kernel) ?_
  refine wx_V (As := [.int (iI 11)]) (rest := []) K (kX8_account l K.hst D E cI cC T V 11 (by decide) oV.1 oV.2.1 oV.2.2.1 0 (V 9 0) V (acc11 V)) (cwV 1 K.hts gL_law_X8_account rfl rfl rfl (by decide +kernel) ⟨(Nat.le_of_ble_eq_true rfl), (Nat.le_of_ble_eq_true rfl)⟩) hP hD hS rfl hl.1 rfl (Nat.le_of_ble_eq_true rfl) dL_law_1520 ⟨by show _ + _ ≤ 600390; omega, by show _ + _ ≤ 7289640; omega⟩ (fun H locs hP hD hS => ?_)
  rw [nV]
  refine z_if_ne hx hb dL_law_1523 (tgt := 1539) rfl (by decide) (fun hbr => absurd rfl hbr) (fun hbr => ?_)
  refine lv_aload_n hx hb dL_law_1526 rfl (lv_at hl 5 rfl) ?_
  refine wx_S (As := [.ref (E 0)]) (rest := []) K (kL_state l K.hst D E cI cC T V oV.1 oV.2.1 oV.2.2.1) (va_cwS 1 K.hts gL_law_L_state rfl rfl rfl (by decide +kernel) ⟨(Nat.le_of_ble_eq_true rfl), (Nat.le_of_ble_eq_true rfl)⟩) (ZC_bl E cI cC T) (lz_C K (w2_x hD) hS) hP hD hS rfl hl.1 rfl (Nat.le_of_ble_eq_true rfl) dL_law_1527 ⟨by show _ + _ ≤ 600390; omega, by show _ + _ ≤ 7289640; omega⟩ (fun H locs hP hD hS => ?_)
  rw [state_c RV]
  refine lv_iload hx hb dL_law_1530 (lv_at hl 3 rfl) ?_
  refine w_ne_same K (a := (fL_state B).1) (b2 := (fL_state B).1) (rfl) dL_law_1532 (tgt := 1539) rfl ?_
  refine z_iconst hx hb dL_law_1535 ?_
  refine lv_goto (tgt := 1540) hx hb dL_law_1536 (by decide) ?_
  exact va_forget (fun q hq => hS.2.2 q hq) (W.widen (by omega) (by omega) (hret H ls))
end
