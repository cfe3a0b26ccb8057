/-! THE LAW, its segments joined (written by mk17.py). -/
section
variable {p : Program} {l : Launch} {e : Env} {s : State} {m : MethodId} {args : Array Value} {below : List Frame} {meth : Method} {c : Code} {H : Heap} {locs : List Loc} {cells slots : Nat} {Q : State → Prop}
variable {ls : Array Slot} {D : va_G} {cI cC cB : ClassId} {T S Tt : Nat → Nat} {tO b L : Nat} {xs : Nat → Int32} {E F : Nat → Nat} {B : Mem}
set_option maxRecDepth 100000 in
set_option maxHeartbeats 4000000 in
theorem sgT (K : LC p l s m args c D cI cC cB T b L xs S Tt tO) (hB : BI B) (h1 : 1 ≤ B 0 77) {to t0 : Int} {X Y : Mem} (hX : XI B X) (hP : va_P D vwCl (W2 E F cI cC X Y) H) (hD : va_D (lA s) (W2 E F cI cC X Y)) (hS : va_S (lA s) s.heap H locs) (hl : lv_has ls 12 [(6, .int (iI to)), (5, .int (iI t0)), (4, .int (iI (fL_state B).1)), (3, .int (iI (B 0 77))), (2, .ref (F 0)), (1, .ref (E 0)), (0, .ref b)]) (hc : cells + 20000 ≤ 600390) (hs : slots + 6 * 20000 ≤ 7289640) (hret : ∀ (H : Heap) (ls : Array Slot), W p l e room_1 s m args below meth c H [] 600390 7289640 Q (F0 m 1540 ls [.int (iI 1)])) : W p l e room_1 s m args below meth c H locs cells slots Q (F0 m 405 ls []) := by
  refine sg7 K hB h1 hX hP hD hS hl (by omega) (by omega) (fun X Y H locs ls hX hP hD hS hl => ?_)
  refine sg8 K hB h1 hP hD hS hl (by omega) (by omega) (fun G ka H locs ls hP hD hS hl => ?_)
  refine sz1 (F := G) K hP hD hS hl (by omega) (by omega) (fun Z H locs ls zz hP hD hS hl => ?_)
  refine sz2 K zz hP hD hS hl (by omega) (by omega) (fun Z H locs ls zz hP hD hS hl => ?_)
  refine sz3 K zz hP hD hS hl (by omega) (by omega) (fun Z H locs ls zz hP hD hS hl => ?_)
  refine sz4 K zz hP hD hS hl (by omega) (by omega) (fun Z H locs ls zz hP hD hS hl => ?_)
  exact sgE K hB h1 hX hP hD hS hl (by omega) (by omega) hret
set_option maxRecDepth 100000 in
set_option maxHeartbeats 4000000 in
theorem sgA (K : LC p l s m args c D cI cC cB T b L xs S Tt tO) (hB : BI B) (h1 : 1 ≤ B 0 77) {k3 : Fin 3} (hu : fX6_tableUnder B 0 = -1) (hto : fX6_laidOn B (k3.val : Int) < 6) {X : Mem} (hX : XI B X) (hP : va_P D vwCl (W2 E F cI cC X B) H) (hD : va_D (lA s) (W2 E F cI cC X B)) (hS : va_S (lA s) s.heap H locs) (hl : lv_has ls 12 [(6, .int (iI (k3.val : Int))), (5, .int (iI (fX6_tableUnder B 0))), (4, .int (iI (fL_state B).1)), (3, .int (iI (B 0 77))), (2, .ref (F 0)), (1, .ref (E 0)), (0, .ref b)]) (hc : cells + 40000 ≤ 600390) (hs : slots + 6 * 40000 ≤ 7289640) (hret : ∀ (H : Heap) (ls : Array Slot), W p l e room_1 s m args below meth c H [] 600390 7289640 Q (F0 m 1540 ls [.int (iI 1)])) : W p l e room_1 s m args below meth c H locs cells slots Q (F0 m 56 ls []) := by
  refine sg2A K hB h1 hu hto hX hP hD hS hl (by omega) (by omega) (fun X5 Y5 H locs ls o5 uX oY uY hP hD hS hl => ?_)
  refine sg3 K hB h1 o5 uX oY uY hP hD hS hl (by omega) (by omega) (fun X Y H locs ls hX hP hD hS hl => ?_)
  refine sg4 K hB h1 hX hP hD hS hl (by omega) (by omega) (fun X Y H locs ls hX hP hD hS hl => ?_)
  refine sg6A K hB h1 hu hto hX hP hD hS hl (by omega) (by omega) (fun X Y H locs ls hX hP hD hS hl => ?_)
  exact sgT K hB h1 hX hP hD hS hl (by omega) (by omega) hret
set_option maxRecDepth 100000 in
set_option maxHeartbeats 4000000 in
theorem sgB (K : LC p l s m args c D cI cC cB T b L xs S Tt tO) (hB : BI B) (h1 : 1 ≤ B 0 77) {k3 : Fin 3} (hu : fX6_tableUnder B 0 = (k3.val : Int)) {X : Mem} (hX : XI B X) (hP : va_P D vwCl (W2 E F cI cC X B) H) (hD : va_D (lA s) (W2 E F cI cC X B)) (hS : va_S (lA s) s.heap H locs) (hl : lv_has ls 12 [(6, .int (iI 0)), (5, .int (iI (k3.val : Int))), (4, .int (iI (fL_state B).1)), (3, .int (iI (B 0 77))), (2, .ref (F 0)), (1, .ref (E 0)), (0, .ref b)]) (hc : cells + 40000 ≤ 600390) (hs : slots + 6 * 40000 ≤ 7289640) (hret : ∀ (H : Heap) (ls : Array Slot), W p l e room_1 s m args below meth c H [] 600390 7289640 Q (F0 m 1540 ls [.int (iI 1)])) : W p l e room_1 s m args below meth c H locs cells slots Q (F0 m 56 ls []) := by
  refine sg2B K hB h1 hu hX hP hD hS hl (by omega) (by omega) (fun X5 Y5 H locs ls o5 uX oY uY hP hD hS hl => ?_)
  refine sg3 K hB h1 o5 uX oY uY hP hD hS hl (by omega) (by omega) (fun X Y H locs ls hX hP hD hS hl => ?_)
  refine sg4 K hB h1 hX hP hD hS hl (by omega) (by omega) (fun X Y H locs ls hX hP hD hS hl => ?_)
  refine sg6B K hB h1 hu (by omega) hX hP hD hS hl (by omega) (by omega) (fun X Y H locs ls hX hP hD hS hl => ?_)
  exact sgT K hB h1 hX hP hD hS hl (by omega) (by omega) hret
set_option maxRecDepth 100000 in
set_option maxHeartbeats 4000000 in
theorem sg0 (K : LC p l s m args c D cI cC cB T b L xs S Tt tO) (hB : BI B) (h1 : 1 ≤ B 0 77) (hP : va_P D vwCl (W2 E F cI cC B B) H) (hD : va_D (lA s) (W2 E F cI cC B B)) (hS : va_S (lA s) s.heap H locs) (hl : lv_has ls 12 [(2, .ref (F 0)), (1, .ref (E 0)), (0, .ref b)]) (hc : cells + 50000 ≤ 600390) (hs : slots + 6 * 50000 ≤ 7289640) (hret : ∀ (H : Heap) (ls : Array Slot), W p l e room_1 s m args below meth c H [] 600390 7289640 Q (F0 m 1540 ls [.int (iI 1)])) : W p l e room_1 s m args below meth c H locs cells slots Q (F0 m 10 ls []) := by
  refine sg1 K hB h1 hP hD hS hl (by omega) (by omega) (fun X to H locs ls hX ht hP hD hS hl => ?_)
  rcases ht with ⟨u1, u2, u3⟩ | ⟨u1, u2⟩
  · obtain ⟨k, rfl⟩ := Int.eq_ofNat_of_zero_le u2.1
    exact sgA (k3 := ⟨k, by omega⟩) K hB h1 u1 u3 hX hP hD hS hl (by omega) (by omega) hret
  · have r := tu_r (M := B) 0
    obtain ⟨k, hk⟩ := Int.eq_ofNat_of_zero_le (show 0 ≤ fX6_tableUnder B 0 by omega)
    subst u2
    rw [hk] at hl
    exact sgB (k3 := ⟨k, by omega⟩) K hB h1 hk hX hP hD hS hl (by omega) (by omega) hret
theorem bu_blind {sz : Nat} : FrameBlind (buP b L sz xs D cI cC T) := fun a U g mk h => by
  obtain ⟨q0, q1, qK, qX, qZ, qN, qs⟩ := h
  exact ⟨q0, q1, va_K.moved (u := U) (U := U.calling g mk a) (Vm.Alike.refl U.vm) qK, ZX_bl b L xs a U g mk qX, ZA_keep (s := U) (U := U.calling g mk a) (State.WarmedH.refl U) (fun _ _ _ => rfl) qZ, NcF.warm (u := U) (U := U.calling g mk a) (State.WarmedH.refl U) qN, NsF.warm (s := U) (U := U.calling g mk a) (State.WarmedH.refl U) qs⟩
theorem bu_pre (K : LC p l s m args c D cI cC cB T b L xs S Tt tO) (hS : va_S (lA s) s.heap H locs) : PreS s H (buP b L H.size xs D cI cC T) [.ref b] :=
  ⟨bu_blind, fun U hU hW => ⟨rfl, by rw [hU], va_K.moved hW.alike K.hK, lb_ZX K.hX (fun h9 => absurd K.hX.2 (Nat.not_lt.mpr h9)) hS U hU hW, ZA_narrow (fun q hq => Nat.le_trans hS.1 hq) (ZA_keep hW (fun q h1 h2 => by rw [hU]; exact hS.2.1 q h1 h2) K.hZ), K.hNc.warm hW, K.hNs.warm hW⟩⟩
set_option maxRecDepth 100000 in
set_option maxHeartbeats 4000000 in
theorem sgS (K : LC p l s m args c D cI cC cB T b L xs S Tt tO) (hl : lv_has ls 12 [(0, .ref b)]) (hret : ∀ (H : Heap) (ls : Array Slot), W p l e room_1 s m args below meth c H [] 600390 7289640 Q (F0 m 1540 ls [.int (iI 1)])) : W p l e room_1 s m args below meth c s.heap [] 0 0 Q (F0 m 0 ls []) := by
  have hx := K.hx
  have hb := K.hb
  obtain ⟨hB, h1⟩ := BI_build xs L
  refine lv_aload_n hx hb dL_law_0 rfl (lv_at hl 0 rfl) ?_
  refine va_callr (A0 := lA s) (H0 := s.heap) (va_runS (As := [.ref b]) (rest := []) K.s0 (kL_build l K.hst D cI cC T b L s.heap.size xs K.hL) (va_cwS 1 K.hts gL_law_L_build rfl rfl rfl (by decide +kernel) ⟨(Nat.le_of_ble_eq_true rfl), (Nat.le_of_ble_eq_true rfl)⟩) (bu_pre K va_S.rf) rfl rfl hl.1 rfl (lv_room (Nat.le_of_ble_eq_true rfl)) dL_law_1 ⟨by show 0 + 400 ≤ 600390; omega, by show 0 + 3500 ≤ 7289640; omega⟩) va_S.rf (fun q _ h => h) (fun q h => h) (fun E ra t H locs ht hvm hp hB1 hz hk hS => ?_)
  obtain ⟨rfl, hP, hD⟩ := hB1
  rw [ht] at hP
  refine lv_astore_n (lv' := [(1, .ref (E 0)), (0, .ref b)]) hx hb dL_law_4 rfl hl (by decide) rfl (fun ls hl => ?_)
  refine lv_aload_n hx hb dL_law_5 rfl (lv_at hl 1 rfl) ?_
  refine va_callr (A0 := lA s) (H0 := s.heap) (va_runS (As := [.ref b]) (rest := []) K.s0 (kL_build l K.hst D cI cC T b L H.size xs K.hL) (va_cwS 1 K.hts gL_law_L_build rfl rfl rfl (by decide +kernel) ⟨(Nat.le_of_ble_eq_true rfl), (Nat.le_of_ble_eq_true rfl)⟩) (bu_pre K hS) rfl rfl hl.1 rfl (lv_room (Nat.le_of_ble_eq_true rfl)) dL_law_6 ⟨by show 0 + 400 + 400 ≤ 600390; omega, by show 0 + 3500 + 3500 ≤ 7289640; omega⟩) hS (fun q _ h => Nat.le_trans hS.1 h) (fun q h => Nat.le_trans hS.1 h) (fun F ra t H2 locs ht hvm hp hB2 hz hk hS2 => ?_)
  obtain ⟨rfl, hP2, hD2⟩ := hB2
  rw [ht] at hP2
  obtain ⟨hP, hD⟩ := va_join (A0 := lA s) (wc := []) (wr := VC E cI cC (fL_build xs L)) (w1 := VC F cI cC (fL_build xs L)) hP hD [] r19 rfl rfl rfl (by decide) (fun q h1 h2 => hk q h1 (fun h => h2 (Or.inr h))) (fun q h => by
    rcases h with ⟨k, e9, h⟩ | h
    · simp at h
    · exact Nat.le_trans hS.1 h) hP2 ⟨hD2.1, fun k q h => Or.inr (hD2.2 k q h)⟩
  refine lv_astore_n (lv' := [(2, .ref (F 0)), (1, .ref (E 0)), (0, .ref b)]) hx hb dL_law_9 rfl hl (by decide) rfl (fun ls hl => ?_)
  exact sg0 K hB h1 hP hD hS2 hl (by omega) (by omega) hret
end
