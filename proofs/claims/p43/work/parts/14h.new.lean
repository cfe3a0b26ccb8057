/-! THE LAW, walked: a third object (written by mk14h.py). -/
theorem bb_e : ∀ k : Fin 4, zand ((k.val : Int) + 1) 3 = bb (k.val : Int) := by decide +kernel
section
variable {p : Program} {l : Launch} {e : Env} {s : State} {m : MethodId} {args : Array Value} {below : List Frame} {meth : Method} {c : Code} {H : Heap} {locs : List Loc} {cells slots : Nat} {Q : State → Prop}
variable {ls : Array Slot} {D : va_G} {cI cC cB : ClassId} {T S Tt : Nat → Nat} {tO b L : Nat} {xs : Nat → Int32} {E F : Nat → Nat} {B : Mem}
set_option maxRecDepth 100000 in
set_option maxHeartbeats 4000000 in
theorem sg8 (K : LC p l s m args c D cI cC cB T b L xs S Tt tO) (hB : BI B) (h1 : 1 ≤ B 0 77) {to t0 : Int} {X Y : Mem} (hP : va_P D vwCl (W2 E F cI cC X Y) H) (hD : va_D (lA s) (W2 E F cI cC X Y)) (hS : va_S (lA s) s.heap H locs) (hl : lv_has ls 12 [(6, .int (iI to)), (5, .int (iI t0)), (4, .int (iI (fL_state B).1)), (3, .int (iI (B 0 77))), (2, .ref (F 0)), (1, .ref (E 0)), (0, .ref b)]) (hc : cells + 600 ≤ 600390) (hs : slots + 6 * 600 ≤ 7289640)
    (next : ∀ (G : Nat → Nat) (ka : Fin 4) (H : Heap) (locs : List Loc) (ls : Array Slot), va_P D vwCl (W2 E G cI cC X M0c) H → va_D (lA s) (W2 E G cI cC X M0c) → va_S (lA s) s.heap H locs → lv_has ls 12 [(11, .ref (G 0)), (10, .int (iI (bb (ka.val : Int)))), (9, .int (iI (ka.val : Int))), (4, .int (iI (fL_state B).1)), (3, .int (iI (B 0 77))), (1, .ref (E 0))] → W p l e room_1 s m args below meth c H locs (cells + 600) (slots + 6 * 600) Q (F0 m 562 ls [])) : W p l e room_1 s m args below meth c H locs cells slots Q (F0 m 531 ls []) := by
  have hx := K.hx
  have hb := K.hb
  have hts := K.hts
  refine lv_aload_n hx hb dL_law_531 rfl (lv_at hl 6 rfl) ?_
  refine z_bipush hx hb dL_law_532 (by decide +kernel) ?_
  refine l_at (R := room_1) (rest := []) (W0 := W2 E F cI cC X Y) (tys := TY cI cC) K.hL (k := 13) (by decide) K.s0 (va_cwS 2 K.hts gL_law_L_at rfl rfl rfl (by decide +kernel) ⟨(Nat.le_of_ble_eq_true rfl), (Nat.le_of_ble_eq_true rfl)⟩) K.hX (fun h9 => absurd K.hX.2 (Nat.not_lt.mpr h9)) K.hK hP hD hS hl.1 (Nat.le_of_ble_eq_true rfl) dL_law_534 ⟨by show _ ≤ 600390; omega, by show _ ≤ 7289640; omega⟩ (fun H locs hP hD hS => ?_)
  refine lv_istore (lv' := [(8, .int (iI (sAt xs L 13))), (6, .int (iI to)), (5, .int (iI t0)), (4, .int (iI (fL_state B).1)), (3, .int (iI (B 0 77))), (2, .ref (F 0)), (1, .ref (E 0)), (0, .ref b)]) hx hb dL_law_537 hl (by decide) rfl (fun ls hl => ?_)
  refine lv_iload hx hb dL_law_539 (lv_at hl 0 rfl) ?_
  refine z_iconst hx hb dL_law_541 ?_
  refine z_iand hx hb dL_law_542 ?_
  obtain ⟨ka, hka⟩ : ∃ ka : Fin 4, zand (sAt xs L 13) 3 = (ka.val : Int) := by
    have q := zand_3 (sAt xs L 13)
    obtain ⟨k, hk⟩ := Int.eq_ofNat_of_zero_le q.1
    exact ⟨⟨k, by omega⟩, hk⟩
  rw [hka]
  refine lv_istore (lv' := [(9, .int (iI (ka.val : Int))), (8, .int (iI (sAt xs L 13))), (6, .int (iI to)), (5, .int (iI t0)), (4, .int (iI (fL_state B).1)), (3, .int (iI (B 0 77))), (2, .ref (F 0)), (1, .ref (E 0)), (0, .ref b)]) hx hb dL_law_543 hl (by decide) rfl (fun ls hl => ?_)
  refine lv_iload hx hb dL_law_545 (lv_at hl 0 rfl) ?_
  refine z_iconst hx hb dL_law_547 ?_
  refine z_iadd hx hb dL_law_548 ?_
  refine z_iconst hx hb dL_law_549 ?_
  refine z_iand hx hb dL_law_550 ?_
  rw [bb_e ka]
  refine lv_istore (lv' := [(10, .int (iI (bb (ka.val : Int)))), (9, .int (iI (ka.val : Int))), (8, .int (iI (sAt xs L 13))), (6, .int (iI to)), (5, .int (iI t0)), (4, .int (iI (fL_state B).1)), (3, .int (iI (B 0 77))), (2, .ref (F 0)), (1, .ref (E 0)), (0, .ref b)]) hx hb dL_law_551 hl (by decide) rfl (fun ls hl => ?_)
  have hP1 : va_P D vwCl (VC E cI cC X) H := hP.sub r19 rfl
  have hD1 : va_D (lA s) (VC E cI cC X) := hD.sub r19 rfl rfl
  have hA : ∀ q : Nat, s.heap.size ≤ q → lA s q := fun _ h => h
  have hinX8 : ∀ w ∈ u_ws RX8 TX8 12, w ∈ wsL_law := by decide +kernel
  refine va_new (ci := 8) (fs := [.null, .null, .null, .null, .null, .null, .null, .null, .int (iI 0), .int (iI 0), .int (iI 0), .int (iI 0)]) (C := RX8) (T := TX8) (N := 12) hx hb hts hinX8 tyX8 tyX8_ok K.hown (hts (.classLink RL 18 RX8) (by decide +kernel)) (hts (.instantiable RX8 12) (by decide +kernel)) (hts (.initialized RX8) (by decide +kernel)) K.hK hP1 hD1 hS hA rfl (fun j hj => by rcases (show j = 0 ∨ j = 1 ∨ j = 2 ∨ j = 3 ∨ j = 4 ∨ j = 5 ∨ j = 6 ∨ j = 7 ∨ j = 8 ∨ j = 9 ∨ j = 10 ∨ j = 11 by omega) with rfl | rfl | rfl | rfl | rfl | rfl | rfl | rfl | rfl | rfl | rfl | rfl <;> first | rfl | exact congrArg Value.int iI_0) (by show _ + 1 ≤ 600390; omega) (by show _ + 12 ≤ 7289640; omega) dL_law_553 (fun q0 H hP hD hS => ?_)
  refine lv_dup hx hb dL_law_556 rfl ?_
  refine ni_callR (ws0 := VC E cI cC X ++ [(q0, .inr (8, [.null, .null, .null, .null, .null, .null, .null, .null, .int (iI 0), .int (iI 0), .int (iI 0), .int (iI 0)]))]) (wc := [(q0, .inr (8, [.null, .null, .null, .null, .null, .null, .null, .null, .int (iI 0), .int (iI 0), .int (iI 0), .int (iI 0)]))]) (wr := VC E cI cC X) (w := nwY8 cI cC q0) [19] r19 rfl rfl rfl rfl (by decide) hP hD hS hA (va_runI (As := []) (rest := [.ref q0]) K.s0 (kY8_init l D cI cC q0 H.size) (cwI 0 hts gL_law_X8_init rfl rfl rfl (hts (.initialized RX8) (by decide +kernel)) (hts (.methodLink RL 23 yX8_init) (by decide +kernel)) (hts (.instanceMethod yX8_init) (by decide +kernel)) rfl (by decide +kernel) ⟨(Nat.le_of_ble_eq_true rfl), (Nat.le_of_ble_eq_true rfl)⟩) (ni_pre K.hK hP hD K.hNs [19] rfl rfl) rfl rfl hl.1 rfl (lv_room (Nat.le_of_ble_eq_true rfl)) dL_law_557 ⟨by show _ + 18 ≤ 600390; omega, by show _ + 1011 ≤ 7289640; omega⟩) (fun u H locs hP hD hS => ?_)
  obtain ⟨G, hG⟩ : ∃ G, G = ni_e q0 u := ⟨_, rfl⟩
  have hG0 : G 0 = q0 := by rw [hG]; rfl
  have hP : va_P D vwCl (W2 E G cI cC X M0c) H := by rw [hG]; exact hP
  have hD : va_D (lA s) (W2 E G cI cC X M0c) := by rw [hG]; exact hD
  rw [← hG0]
  clear hG hG0
  refine lv_astore (lv' := [(11, .ref (G 0)), (10, .int (iI (bb (ka.val : Int)))), (9, .int (iI (ka.val : Int))), (8, .int (iI (sAt xs L 13))), (6, .int (iI to)), (5, .int (iI t0)), (4, .int (iI (fL_state B).1)), (3, .int (iI (B 0 77))), (2, .ref (F 0)), (1, .ref (E 0)), (0, .ref b)]) hx hb dL_law_560 hl (by decide) rfl (fun ls hl => ?_)
  exact W.widen (by omega) (by omega) (next G ka H locs ls hP hD hS (lv_sub hl [0, 1, 2, 6, 7, 9] rfl))
end
