/-! THE LAW'S LOOP and its start. -/
theorem RW_0 : RW (fun _ => 0) (fun _ => 0) := by
  refine ⟨?_, ?_, ?_⟩
  · unfold CI
    simp
  · unfold GI
    simp
  · refine ⟨⟨rfl, by decide, by decide⟩, fun j _ _ => ⟨rfl, rfl, rfl, rfl, rfl⟩, fun j _ _ => ⟨rfl, rfl, rfl, rfl⟩, fun t _ _ => ⟨rfl, rfl, rfl⟩, fun t q _ _ h1 h2 => absurd h2 (by show ¬ q < 0; omega), fun t q u r _ _ h1 h2 => absurd h2 (by show ¬ q < 0; omega), rfl, rfl, ?_, ?_⟩ <;> decide
theorem RelR_0 : RelR M0c M0g := by
  refine ⟨RW_0, ?_, ?_, ?_, ?_, ?_, ?_⟩
  · unfold SI M0c
    simp
  · refine ⟨⟨rfl, by decide, by decide⟩, fun i h0 h1 => absurd h1 (by show ¬ i < 0; omega)⟩
  · exact ⟨rfl, ⟨by decide, by decide⟩, fun h => absurd rfl h⟩
  · refine ⟨?_, ?_, ?_, rfl, fun j h0 h1 => absurd h1 (by show ¬ j < 0; omega)⟩
    · unfold TI M0c
      simp
    · unfold RI M0g
      simp
    · unfold TL M0g
      simp
  · refine ⟨?_, ?_, rfl, fun j h0 h1 => absurd h1 (by show ¬ j < 0; omega)⟩
    · unfold LN M0c
      simp
    · unfold WI M0g
      simp
  · unfold RX M0c M0g
    simp
section
variable {p : Program} {l : Launch} {e : Env} {s : State} {m : MethodId} {args : Array Value} {below : List Frame} {meth : Method} {c : Code} {D : va_G} {cI cC cJ cDD : ClassId} {T : Nat → Nat} {b L : Nat} {xs : Nat → Int32} {E F : Nat → Nat} {o od : Nat} {Q : State → Prop}
set_option maxHeartbeats 4000000 in
set_option maxRecDepth 100000 in
/-- one turn of the loop, behind its test -/
theorem law_turn {i : Int} {cells slots : Nat} (K : LC p l s m args c D cI cC cJ cDD T b L xs) (h0 : 0 ≤ i) (h4 : i + 4 ≤ L) (hcr : cells + 2 ≤ room_1.cells ∧ slots + 12 ≤ room_1.slots) (kont : LK p l e s m args below meth c D cI cC cJ cDD E F o od b i Q cells slots) {C G : Mem} {f : Nat → Int64} {fd : Nat → UInt64} {H : Heap} {locs : List Loc} {ls : Array Slot} (hR : RelR C G) (hP : va_P D vwCl (VL E F cI cC cJ cDD o od C G f fd) H) (hD : va_D (lA s) (VL E F cI cC cJ cDD o od C G f fd)) (hS : va_S (lA s) s.heap H locs) (hl : lv_has ls 9 [(0, .ref b), (1, .ref (E 0)), (2, .ref (F 0)), (3, .ref o), (4, .ref od), (5, .int (iI i))]) : W p l e room_1 s m args below meth c H locs cells slots Q (F0 m 37 ls []) := by
  have hx := K.1
  have hb := K.2.1
  have hL := K.2.2.2.2.2.2.2.2.2.2.2
  refine lv_aload_n hx hb dL_law_37 rfl (lv_at hl 0 rfl) ?_
  refine lv_iload hx hb dL_law_38 (lv_at hl 5 rfl) ?_
  refine z_sld K hS h0 (by omega) dL_law_40 ?_
  refine lv_bipush (v := 63) hx hb dL_law_41 (by decide) ?_
  refine lv_iand hx hb dL_law_43 ?_
  refine lv_topi (fun x _ => ?_)
  have hI := I32_x x
  rw [← iI_x x]
  generalize x.toInt = v at hI ⊢
  by_cases hv : v < 0
  · refine z_tableD (tgt := 2530) hx hb dL_law_44 hI (Or.inl hv) (by decide) ?_
    exact W.widen (by omega) (by omega) (kont C G f fd H locs ls hR hP hD hS hl)

  by_cases hv0 : v < 1
  · refine z_table (k0 := 0) (tgt := 220) hx hb dL_law_44 hI (by omega) (by decide) (by decide) rfl (by decide) ?_
    exact lc_napkin K h0 h4 hcr kont hR hP hD hS hl
  clear hv
  have hv : ¬ v < 1 := hv0
  clear hv0
  by_cases hv1 : v < 2
  · refine z_table (k0 := 1) (tgt := 276) hx hb dL_law_44 hI (by omega) (by decide) (by decide) rfl (by decide) ?_
    exact lc_fold K h0 h4 hcr kont hR hP hD hS hl
  clear hv
  have hv : ¬ v < 2 := hv1
  clear hv1
  by_cases hv2 : v < 3
  · refine z_table (k0 := 2) (tgt := 344) hx hb dL_law_44 hI (by omega) (by decide) (by decide) rfl (by decide) ?_
    exact lc_unfold K h0 h4 hcr kont hR hP hD hS hl
  clear hv
  have hv : ¬ v < 3 := hv2
  clear hv2
  by_cases hv3 : v < 4
  · refine z_table (k0 := 3) (tgt := 400) hx hb dL_law_44 hI (by omega) (by decide) (by decide) rfl (by decide) ?_
    exact lc_lay K h0 h4 hcr kont hR hP hD hS hl
  clear hv
  have hv : ¬ v < 4 := hv3
  clear hv3
  by_cases hv4 : v < 5
  · refine z_table (k0 := 4) (tgt := 468) hx hb dL_law_44 hI (by omega) (by decide) (by decide) rfl (by decide) ?_
    exact lc_take K h0 h4 hcr kont hR hP hD hS hl
  clear hv
  have hv : ¬ v < 5 := hv4
  clear hv4
  by_cases hv5 : v < 6
  · refine z_table (k0 := 5) (tgt := 524) hx hb dL_law_44 hI (by omega) (by decide) (by decide) rfl (by decide) ?_
    exact lc_move K h0 h4 hcr kont hR hP hD hS hl
  clear hv
  have hv : ¬ v < 6 := hv5
  clear hv5
  by_cases hv6 : v < 7
  · refine z_table (k0 := 6) (tgt := 604) hx hb dL_law_44 hI (by omega) (by decide) (by decide) rfl (by decide) ?_
    exact lc_stain K h0 h4 hcr kont hR hP hD hS hl
  clear hv
  have hv : ¬ v < 7 := hv6
  clear hv6
  by_cases hv7 : v < 8
  · refine z_table (k0 := 7) (tgt := 672) hx hb dL_law_44 hI (by omega) (by decide) (by decide) rfl (by decide) ?_
    exact lc_wash K h0 h4 hcr kont hR hP hD hS hl
  clear hv
  have hv : ¬ v < 8 := hv7
  clear hv7
  by_cases hv8 : v < 9
  · refine z_table (k0 := 8) (tgt := 728) hx hb dL_law_44 hI (by omega) (by decide) (by decide) rfl (by decide) ?_
    exact lc_host K h0 h4 hcr kont hR hP hD hS hl
  clear hv
  have hv : ¬ v < 9 := hv8
  clear hv8
  by_cases hv9 : v < 10
  · refine z_table (k0 := 9) (tgt := 784) hx hb dL_law_44 hI (by omega) (by decide) (by decide) rfl (by decide) ?_
    exact lc_napkinOf K h0 h4 hcr kont hR hP hD hS hl
  clear hv
  have hv : ¬ v < 10 := hv9
  clear hv9
  by_cases hv10 : v < 11
  · refine z_table (k0 := 10) (tgt := 852) hx hb dL_law_44 hI (by omega) (by decide) (by decide) rfl (by decide) ?_
    exact lc_tableOf K h0 h4 hcr kont hR hP hD hS hl
  clear hv
  have hv : ¬ v < 11 := hv10
  clear hv10
  by_cases hv11 : v < 12
  · refine z_table (k0 := 11) (tgt := 920) hx hb dL_law_44 hI (by omega) (by decide) (by decide) rfl (by decide) ?_
    exact lc_seat K h0 h4 hcr kont hR hP hD hS hl
  clear hv
  have hv : ¬ v < 12 := hv11
  clear hv11
  by_cases hv12 : v < 13
  · refine z_table (k0 := 12) (tgt := 988) hx hb dL_law_44 hI (by omega) (by decide) (by decide) rfl (by decide) ?_
    exact lc_said K h0 h4 hcr kont hR hP hD hS hl
  clear hv
  have hv : ¬ v < 13 := hv12
  clear hv12
  by_cases hv13 : v < 14
  · refine z_table (k0 := 13) (tgt := 1056) hx hb dL_law_44 hI (by omega) (by decide) (by decide) rfl (by decide) ?_
    exact lc_wrong K h0 h4 hcr kont hR hP hD hS hl
  clear hv
  have hv : ¬ v < 14 := hv13
  clear hv13
  by_cases hv14 : v < 15
  · refine z_table (k0 := 14) (tgt := 1112) hx hb dL_law_44 hI (by omega) (by decide) (by decide) rfl (by decide) ?_
    exact lc_wrongAgain K h0 h4 hcr kont hR hP hD hS hl
  clear hv
  have hv : ¬ v < 15 := hv14
  clear hv14
  by_cases hv15 : v < 16
  · refine z_table (k0 := 15) (tgt := 1168) hx hb dL_law_44 hI (by omega) (by decide) (by decide) rfl (by decide) ?_
    exact lc_isRight K h0 h4 hcr kont hR hP hD hS hl
  clear hv
  have hv : ¬ v < 16 := hv15
  clear hv15
  by_cases hv16 : v < 17
  · refine z_table (k0 := 16) (tgt := 1231) hx hb dL_law_44 hI (by omega) (by decide) (by decide) rfl (by decide) ?_
    exact lc_phrases K h0 h4 hcr kont hR hP hD hS hl
  clear hv
  have hv : ¬ v < 17 := hv16
  clear hv16
  by_cases hv17 : v < 18
  · refine z_table (k0 := 17) (tgt := 1287) hx hb dL_law_44 hI (by omega) (by decide) (by decide) rfl (by decide) ?_
    exact lc_phraseOf K h0 h4 hcr kont hR hP hD hS hl
  clear hv
  have hv : ¬ v < 18 := hv17
  clear hv17
  by_cases hv18 : v < 19
  · refine z_table (k0 := 18) (tgt := 1367) hx hb dL_law_44 hI (by omega) (by decide) (by decide) rfl (by decide) ?_
    exact lc_next K h0 h4 hcr kont hR hP hD hS hl
  clear hv
  have hv : ¬ v < 19 := hv18
  clear hv18
  by_cases hv19 : v < 20
  · refine z_table (k0 := 19) (tgt := 1423) hx hb dL_law_44 hI (by omega) (by decide) (by decide) rfl (by decide) ?_
    exact lc_fewest K h0 h4 hcr kont hR hP hD hS hl
  clear hv
  have hv : ¬ v < 20 := hv19
  clear hv19
  by_cases hv20 : v < 21
  · refine z_table (k0 := 20) (tgt := 1479) hx hb dL_law_44 hI (by omega) (by decide) (by decide) rfl (by decide) ?_
    exact lc_fewestAgain K h0 h4 hcr kont hR hP hD hS hl
  clear hv
  have hv : ¬ v < 21 := hv20
  clear hv20
  by_cases hv21 : v < 22
  · refine z_table (k0 := 21) (tgt := 1535) hx hb dL_law_44 hI (by omega) (by decide) (by decide) rfl (by decide) ?_
    exact lc_doubt K h0 h4 hcr kont hR hP hD hS hl
  clear hv
  have hv : ¬ v < 22 := hv21
  clear hv21
  by_cases hv22 : v < 23
  · refine z_table (k0 := 22) (tgt := 1591) hx hb dL_law_44 hI (by omega) (by decide) (by decide) rfl (by decide) ?_
    exact lc_doubtAgain K h0 h4 hcr kont hR hP hD hS hl
  clear hv
  have hv : ¬ v < 23 := hv22
  clear hv22
  by_cases hv23 : v < 24
  · refine z_table (k0 := 23) (tgt := 1647) hx hb dL_law_44 hI (by omega) (by decide) (by decide) rfl (by decide) ?_
    exact lc_sure K h0 h4 hcr kont hR hP hD hS hl
  clear hv
  have hv : ¬ v < 24 := hv23
  clear hv23
  by_cases hv24 : v < 25
  · refine z_table (k0 := 24) (tgt := 1703) hx hb dL_law_44 hI (by omega) (by decide) (by decide) rfl (by decide) ?_
    exact lc_clearest K h0 h4 hcr kont hR hP hD hS hl
  clear hv
  have hv : ¬ v < 25 := hv24
  clear hv24
  by_cases hv25 : v < 26
  · refine z_table (k0 := 25) (tgt := 1759) hx hb dL_law_44 hI (by omega) (by decide) (by decide) rfl (by decide) ?_
    exact lc_worn K h0 h4 hcr kont hR hP hD hS hl
  clear hv
  have hv : ¬ v < 26 := hv25
  clear hv25
  by_cases hv26 : v < 27
  · refine z_table (k0 := 26) (tgt := 1815) hx hb dL_law_44 hI (by omega) (by decide) (by decide) rfl (by decide) ?_
    exact lc_isWell K h0 h4 hcr kont hR hP hD hS hl
  clear hv
  have hv : ¬ v < 27 := hv26
  clear hv26
  by_cases hv27 : v < 28
  · refine z_table (k0 := 27) (tgt := 1828) hx hb dL_law_44 hI (by omega) (by decide) (by decide) rfl (by decide) ?_
    exact lc_type K h0 h4 hcr kont hR hP hD hS hl
  clear hv
  have hv : ¬ v < 28 := hv27
  clear hv27
  by_cases hv28 : v < 29
  · refine z_table (k0 := 28) (tgt := 1886) hx hb dL_law_44 hI (by omega) (by decide) (by decide) rfl (by decide) ?_
    exact lc_read K h0 h4 hcr kont hR hP hD hS hl
  clear hv
  have hv : ¬ v < 29 := hv28
  clear hv28
  by_cases hv29 : v < 30
  · refine z_table (k0 := 29) (tgt := 1930) hx hb dL_law_44 hI (by omega) (by decide) (by decide) rfl (by decide) ?_
    exact lc_errorPosition K h0 h4 hcr kont hR hP hD hS hl
  clear hv
  have hv : ¬ v < 30 := hv29
  clear hv29
  by_cases hv30 : v < 31
  · refine z_table (k0 := 30) (tgt := 1974) hx hb dL_law_44 hI (by omega) (by decide) (by decide) rfl (by decide) ?_
    exact lc_refusal K h0 h4 hcr kont hR hP hD hS hl
  clear hv
  have hv : ¬ v < 31 := hv30
  clear hv30
  by_cases hv31 : v < 32
  · refine z_table (k0 := 31) (tgt := 2074) hx hb dL_law_44 hI (by omega) (by decide) (by decide) rfl (by decide) ?_
    exact lc_show K h0 h4 hcr kont hR hP hD hS hl
  clear hv
  have hv : ¬ v < 32 := hv31
  clear hv31
  by_cases hv32 : v < 33
  · refine z_table (k0 := 32) (tgt := 2130) hx hb dL_law_44 hI (by omega) (by decide) (by decide) rfl (by decide) ?_
    exact lc_tell K h0 h4 hcr kont hR hP hD hS hl
  clear hv
  have hv : ¬ v < 33 := hv32
  clear hv32
  by_cases hv33 : v < 34
  · refine z_table (k0 := 33) (tgt := 2186) hx hb dL_law_44 hI (by omega) (by decide) (by decide) rfl (by decide) ?_
    exact lc_written K h0 h4 hcr kont hR hP hD hS hl
  clear hv
  have hv : ¬ v < 34 := hv33
  clear hv33
  by_cases hv34 : v < 35
  · refine z_table (k0 := 34) (tgt := 2242) hx hb dL_law_44 hI (by omega) (by decide) (by decide) rfl (by decide) ?_
    exact lc_account K h0 h4 hcr kont hR hP hD hS hl
  clear hv
  have hv : ¬ v < 35 := hv34
  clear hv34
  by_cases hv35 : v < 36
  · refine z_table (k0 := 35) (tgt := 2298) hx hb dL_law_44 hI (by omega) (by decide) (by decide) rfl (by decide) ?_
    exact lc_meanStains K h0 h4 hcr kont hR hP hD hS hl
  clear hv
  have hv : ¬ v < 36 := hv35
  clear hv35
  by_cases hv36 : v < 37
  · refine z_table (k0 := 36) (tgt := 2363) hx hb dL_law_44 hI (by omega) (by decide) (by decide) rfl (by decide) ?_
    exact lc_foldedShare K h0 h4 hcr kont hR hP hD hS hl
  clear hv
  have hv : ¬ v < 37 := hv36
  clear hv36
  by_cases hv37 : v < 38
  · refine z_table (k0 := 37) (tgt := 2429) hx hb dL_law_44 hI (by omega) (by decide) (by decide) rfl (by decide) ?_
    exact lc_undo K h0 h4 hcr kont hR hP hD hS hl
  clear hv
  have hv : ¬ v < 38 := hv37
  clear hv37
  by_cases hv38 : v < 39
  · refine z_table (k0 := 38) (tgt := 2473) hx hb dL_law_44 hI (by omega) (by decide) (by decide) rfl (by decide) ?_
    exact lc_save K h0 h4 hcr kont hR hP hD hS hl
  clear hv
  have hv : ¬ v < 39 := hv38
  clear hv38
  by_cases hv39 : v < 40
  · refine z_table (k0 := 39) (tgt := 2486) hx hb dL_law_44 hI (by omega) (by decide) (by decide) rfl (by decide) ?_
    exact lc_restore K h0 h4 hcr kont hR hP hD hS hl
  clear hv
  refine z_tableD (tgt := 2530) hx hb dL_law_44 hI (Or.inr (by omega)) (by decide) ?_
  exact W.widen (by omega) (by omega) (kont C G f fd H locs ls hR hP hD hS hl)
theorem law_loop (K : LC p l s m args c D cI cC cJ cDD T b L xs) (hret : ∀ (H : Heap) (ls : Array Slot), W p l e room_1 s m args below meth c H [] 3128 121253 Q (F0 m 2537 ls [.int 1])) : ∀ (n : Nat) (i : Int) (cells slots : Nat) (C G : Mem) (f : Nat → Int64) (fd : Nat → UInt64) (H : Heap) (locs : List Loc) (ls : Array Slot), 0 ≤ i → i ≤ 2052 → (L : Int) < i + 4 * n + 4 → cells + 2 * n ≤ 3128 → slots + 12 * n ≤ 121253 → RelR C G → va_P D vwCl (VL E F cI cC cJ cDD o od C G f fd) H → va_D (lA s) (VL E F cI cC cJ cDD o od C G f fd) → va_S (lA s) s.heap H locs → lv_has ls 9 [(0, .ref b), (1, .ref (E 0)), (2, .ref (F 0)), (3, .ref o), (4, .ref od), (5, .int (iI i))] → W p l e room_1 s m args below meth c H locs cells slots Q (F0 m 28 ls []) := by
  have hx := K.1
  have hb := K.2.1
  have hL := K.2.2.2.2.2.2.2.2.2.2.2
  have r1 : room_1.cells = 3128 := rfl
  have r2 : room_1.slots = 121253 := rfl
  intro n
  induction n with
  | zero =>
    intro i cells slots C G f fd H locs ls h0 h1 h2 h3 h4 hR hP hD hS hl
    refine lv_iload hx hb dL_law_28 (lv_at hl 5 rfl) ?_
    refine lv_aload_n hx hb dL_law_30 rfl (lv_at hl 0 rfl) ?_
    refine z_slen K hS dL_law_31 ?_
    refine lv_iconst (v := iI 4) hx hb dL_law_32 rfl ?_
    refine z_isub hx hb dL_law_33 ?_
    refine z_icmp_gt (tgt := 2536) hx hb dL_law_34 (by decide) ⟨by omega, by omega⟩ ⟨by omega, by omega⟩ (fun hg => ?_) (fun hg => absurd (show i > (L : Int) - 4 by omega) hg)
    refine lv_iconst (v := 1) hx hb dL_law_2536 (by decide) ?_
    exact va_forget (fun q hq => hS.2.2 q hq) (W.widen (by omega) (by omega) (hret H ls))
  | succ n ih =>
    intro i cells slots C G f fd H locs ls h0 h1 h2 h3 h4 hR hP hD hS hl
    refine lv_iload hx hb dL_law_28 (lv_at hl 5 rfl) ?_
    refine lv_aload_n hx hb dL_law_30 rfl (lv_at hl 0 rfl) ?_
    refine z_slen K hS dL_law_31 ?_
    refine lv_iconst (v := iI 4) hx hb dL_law_32 rfl ?_
    refine z_isub hx hb dL_law_33 ?_
    refine z_icmp_gt (tgt := 2536) hx hb dL_law_34 (by decide) ⟨by omega, by omega⟩ ⟨by omega, by omega⟩ (fun hg => ?_) (fun hg => ?_)
    · refine lv_iconst (v := 1) hx hb dL_law_2536 (by decide) ?_
      exact va_forget (fun q hq => hS.2.2 q hq) (W.widen (by omega) (by omega) (hret H ls))
    · refine law_turn K h0 (by omega) ⟨by omega, by omega⟩ (fun C G f fd H locs ls hR hP hD hS hl => ?_) hR hP hD hS hl
      refine z_iinc (k := 5) (n := 4) (lv' := [(5, .int (iI (i + 4))), (0, .ref b), (1, .ref (E 0)), (2, .ref (F 0)), (3, .ref o), (4, .ref od)]) hx hb dL_law_2530 hl rfl (by decide) rfl (fun ls hl => ?_)
      refine lv_goto (tgt := 28) hx hb dL_law_2533 (by decide) ?_
      exact ih (i + 4) (cells + 2) (slots + 12) C G f fd H locs ls (by omega) (by omega) (by omega) (by omega) (by omega) hR hP hD hS (lv_sub hl [1, 2, 3, 4, 5, 0] rfl)
end
