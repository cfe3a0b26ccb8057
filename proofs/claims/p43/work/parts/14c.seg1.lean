/-! THE LAW, walked: from the two objects to the first text (written by mk14c.py). -/
section
variable {p : Program} {l : Launch} {e : Env} {s : State} {m : MethodId} {args : Array Value} {below : List Frame} {meth : Method} {c : Code} {H : Heap} {locs : List Loc} {cells slots : Nat} {Q : State → Prop}
variable {ls : Array Slot} {D : va_G} {cI cC cB : ClassId} {T S Tt : Nat → Nat} {tO b L : Nat} {xs : Nat → Int32} {E F : Nat → Nat} {B : Mem}
set_option maxRecDepth 100000 in
set_option maxHeartbeats 4000000 in
theorem sg1 (K : LC p l s m args c D cI cC cB T b L xs S Tt tO) (hB : BI B) (h1 : 1 ≤ B 0 77) (hP : va_P D vwCl (W2 E F cI cC B B) H) (hD : va_D (lA s) (W2 E F cI cC B B)) (hS : va_S (lA s) s.heap H locs) (hl : lv_has ls 12 [(2, .ref (F 0)), (1, .ref (E 0)), (0, .ref b)]) (hc : cells + 300 ≤ 600390) (hs : slots + 6 * 300 ≤ 7289640)
    (next : ∀ (X : Mem) (to : Int) (H : Heap) (locs : List Loc) (ls : Array Slot), XI B X → ((fX6_tableUnder B 0 = -1 ∧ (0 ≤ to ∧ to < 3) ∧ fX6_laidOn B to < 6) ∨ (¬ fX6_tableUnder B 0 = -1 ∧ to = 0)) → va_P D vwCl (W2 E F cI cC X B) H → va_D (lA s) (W2 E F cI cC X B) → va_S (lA s) s.heap H locs → lv_has ls 12 [(6, .int (iI to)), (5, .int (iI (fX6_tableUnder B 0))), (4, .int (iI (fL_state B).1)), (3, .int (iI (B 0 77))), (2, .ref (F 0)), (1, .ref (E 0)), (0, .ref b)] → W p l e room_1 s m args below meth c H locs (cells + 300) (slots + 6 * 300) Q (F0 m 56 ls [])) : W p l e room_1 s m args below meth c H locs cells slots Q (F0 m 10 ls []) := by
  have hx := K.hx
  have hb := K.hb
  have hX1 := (XI_save hB).2
  refine lv_aload_n hx hb dL_law_10 rfl (lv_at hl 1 rfl) ?_
  refine wx_I (As := []) (rest := []) K (kX8_save l D E cI cC (ZC E cI cC T) (ZC_ok E cI cC T) (ZC_bl E cI cC T) B  (B 0 77) (fX8_save B).2 (XI_save hB).1) (cwV 0 K.hts gL_law_X8_save rfl rfl rfl (by decide +kernel) ⟨(Nat.le_of_ble_eq_true rfl), (Nat.le_of_ble_eq_true rfl)⟩) hP hD hS rfl hl.1 rfl (Nat.le_of_ble_eq_true rfl) dL_law_11 ⟨by show _ + _ ≤ 600390; omega, by show _ + _ ≤ 7289640; omega⟩ (fun H locs hP hD hS => ?_)
  refine lv_istore_n (lv' := [(3, .int (iI (B 0 77))), (2, .ref (F 0)), (1, .ref (E 0)), (0, .ref b)]) hx hb dL_law_14 rfl hl (by decide) rfl (fun ls hl => ?_)
  refine lv_aload_n hx hb dL_law_15 rfl (lv_at hl 2 rfl) ?_
  refine wx_S (As := [.ref (E 0)]) (rest := []) K (kL_state l K.hst D E cI cC T (fX8_save B).2 hX1.1.1 hX1.1.2.1 hX1.1.2.2.1) (va_cwS 1 K.hts gL_law_L_state rfl rfl rfl (by decide +kernel) ⟨(Nat.le_of_ble_eq_true rfl), (Nat.le_of_ble_eq_true rfl)⟩) (ZC_bl E cI cC T) (lz_C K (w2_x hD) hS) hP hD hS rfl hl.1 rfl (Nat.le_of_ble_eq_true rfl) dL_law_16 ⟨by show _ + _ ≤ 600390; omega, by show _ + _ ≤ 7289640; omega⟩ (fun H locs hP hD hS => ?_)
  rw [XI_now hX1]
  have hX2 := XI_state hX1
  generalize (fL_state (fX8_save B).2).2 = X at hX2 hP hD
  refine lv_istore (lv' := [(4, .int (iI (fL_state B).1)), (3, .int (iI (B 0 77))), (2, .ref (F 0)), (1, .ref (E 0)), (0, .ref b)]) hx hb dL_law_19 hl (by decide) rfl (fun ls hl => ?_)
  refine lv_aload_n hx hb dL_law_21 rfl (lv_at hl 3 rfl) ?_
  refine z_iconst hx hb dL_law_22 ?_
  refine z_iconst hx hb dL_law_23 ?_
  refine wx_V (As := [.int (iI 0), .int (iI 4)]) (rest := []) K (kX8_napkinOf l K.hst D E cI cC T X 0 4 (by decide) (by decide) hX2.1.1 0 (fX6_tableUnder B 0) (nap4 hX2.2.2.1 h1)) (cwV 2 K.hts gL_law_X8_napkinOf rfl rfl rfl (by decide +kernel) ⟨(Nat.le_of_ble_eq_true rfl), (Nat.le_of_ble_eq_true rfl)⟩) hP hD hS rfl hl.1 rfl (Nat.le_of_ble_eq_true rfl) dL_law_24 ⟨by show _ + _ ≤ 600390; omega, by show _ + _ ≤ 7289640; omega⟩ (fun H locs hP hD hS => ?_)
  refine lv_istore (lv' := [(5, .int (iI (fX6_tableUnder B 0))), (4, .int (iI (fL_state B).1)), (3, .int (iI (B 0 77))), (2, .ref (F 0)), (1, .ref (E 0)), (0, .ref b)]) hx hb dL_law_27 hl (by decide) rfl (fun ls hl => ?_)
  have hu := tu_r (M := B) 0
  have J : ∀ (to : Int) (H : Heap) (locs : List Loc) (ls : Array Slot) (cells2 slots2 : Nat), cells2 ≤ cells + 300 → slots2 ≤ slots + 6 * 300 → ((fX6_tableUnder B 0 = -1 ∧ (0 ≤ to ∧ to < 3) ∧ fX6_laidOn B to < 6) ∨ (¬ fX6_tableUnder B 0 = -1 ∧ to = 0)) → va_P D vwCl (W2 E F cI cC X B) H → va_D (lA s) (W2 E F cI cC X B) → va_S (lA s) s.heap H locs → lv_has ls 12 [(5, .int (iI (fX6_tableUnder B 0))), (4, .int (iI (fL_state B).1)), (3, .int (iI (B 0 77))), (2, .ref (F 0)), (1, .ref (E 0)), (0, .ref b)] → W p l e room_1 s m args below meth c H locs cells2 slots2 Q (F0 m 54 ls [.int (iI to)]) := by
    intro to H locs ls cells2 slots2 hc2 hs2 ht hP hD hS hl
    refine lv_istore (lv' := [(6, .int (iI to)), (5, .int (iI (fX6_tableUnder B 0))), (4, .int (iI (fL_state B).1)), (3, .int (iI (B 0 77))), (2, .ref (F 0)), (1, .ref (E 0)), (0, .ref b)]) hx hb dL_law_54 hl (by decide) rfl (fun ls hl => ?_)
    exact W.widen hc2 hs2 (next X to H locs ls hX2 ht hP hD hS hl)
  refine lv_iload hx hb dL_law_29 (lv_at hl 0 rfl) ?_
  refine z_if_ge hx hb dL_law_31 (tgt := 53) rfl ⟨by omega, by omega⟩ (fun hbr => ?_) (fun hbr => ?_)
  · have e0 : ¬ fX6_tableUnder B 0 = -1 := by omega
    refine z_iconst hx hb dL_law_53 ?_
    exact J 0 H locs ls _ _ (by omega) (by omega) (Or.inr ⟨e0, rfl⟩) hP hD hS hl
  · have e0 : fX6_tableUnder B 0 = -1 := by omega
    refine lv_aload_n hx hb dL_law_34 rfl (lv_at hl 4 rfl) ?_
    refine z_iconst hx hb dL_law_35 ?_
    refine z_iconst hx hb dL_law_36 ?_
    refine wx_V (As := [.int (iI 2), .int (iI 0)]) (rest := []) K (kX8_tableOf l K.hst D E cI cC T X 2 0 (by decide) (by decide) hX2.1.1 hX2.1.2.1 0 (fX6_laidOn X 2) X (tab20 X)) (cwV 2 K.hts gL_law_X8_tableOf rfl rfl rfl (by decide +kernel) ⟨(Nat.le_of_ble_eq_true rfl), (Nat.le_of_ble_eq_true rfl)⟩) hP hD hS rfl hl.1 rfl (Nat.le_of_ble_eq_true rfl) dL_law_37 ⟨by show _ + _ ≤ 600390; omega, by show _ + _ ≤ 7289640; omega⟩ (fun H locs hP hD hS => ?_)
    rw [la_c hX2.2.2.1 2]
    have hl2 : 0 ≤ fX6_laidOn B 2 ∧ fX6_laidOn B 2 ≤ 6 := by rw [laid_e (by decide)]; exact CI_6 hB.1 2 (by decide) (by decide)
    refine z_bipush hx hb dL_law_40 (by decide +kernel) ?_
    refine z_icmp_ge hx hb dL_law_42 (tgt := 49) rfl ⟨by omega, by omega⟩ (by decide) (fun hbr => ?_) (fun hbr => ?_)
    · have e2 := room_to hB.1 hB.2.2.2.2.1 (by omega : ¬ fX6_laidOn B 2 < 6)
      refine z_iconst hx hb dL_law_49 ?_
      refine lv_goto (tgt := 54) hx hb dL_law_50 (by decide) ?_
      exact J 1 H locs ls _ _ (by omega) (by omega) (Or.inl ⟨e0, by decide, e2⟩) hP hD hS hl
    · have e2 : fX6_laidOn B 2 < 6 := by omega
      refine z_iconst hx hb dL_law_45 ?_
      refine lv_goto (tgt := 54) hx hb dL_law_46 (by decide) ?_
      exact J 2 H locs ls _ _ (by omega) (by omega) (Or.inl ⟨e0, by decide, e2⟩) hP hD hS hl
end
