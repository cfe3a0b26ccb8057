/-! the model: read -/

theorem done_23 (X : Mem) (v : Int) : (fX9_done X v).2 23 0 = X 23 0 := rfl
theorem th_done (X : Mem) (v : Int) : 0 ≤ (fX9_done X v).2 26 0 ∧ (fX9_done X v).2 26 0 ≤ 3 := ⟨(by decide : (0 : Int) ≤ 0), (by decide : (0 : Int) ≤ 3)⟩
theorem th_refusesText (M : Mem) (k : Int) : 0 ≤ (fX9_refusesText M k).2 26 0 ∧ (fX9_refusesText M k).2 26 0 ≤ 3 := by
  unfold fX9_refusesText
  (repeat' split) <;> exact ⟨(by decide : (0 : Int) ≤ 2), (by decide : (2 : Int) ≤ 3)⟩


theorem b23_X9_comes {M : Mem} (hb : 0 ≤ M 23 0 ∧ M 23 0 ≤ 1) (a : Int) : 0 ≤ (fX9_comes M a).2 23 0 ∧ (fX9_comes M a).2 23 0 ≤ 1 := by
  unfold fX9_comes
  (repeat' split) <;> first | exact hb | exact ⟨(by decide : (0 : Int) ≤ 0), (by decide : (0 : Int) ≤ 1)⟩ | exact ⟨(by decide : (0 : Int) ≤ 1), (by decide : (1 : Int) ≤ 1)⟩


theorem b23_X9_folds {M : Mem} (hb : 0 ≤ M 23 0 ∧ M 23 0 ≤ 1) (a b : Int) : 0 ≤ (fX9_folds M a b).2 23 0 ∧ (fX9_folds M a b).2 23 0 ≤ 1 := by
  unfold fX9_folds
  (repeat' split) <;> first | exact hb | exact ⟨(by decide : (0 : Int) ≤ 0), (by decide : (0 : Int) ≤ 1)⟩ | exact ⟨(by decide : (0 : Int) ≤ 1), (by decide : (1 : Int) ≤ 1)⟩


theorem b23_X9_unfolds {M : Mem} (hb : 0 ≤ M 23 0 ∧ M 23 0 ≤ 1) (a : Int) : 0 ≤ (fX9_unfolds M a).2 23 0 ∧ (fX9_unfolds M a).2 23 0 ≤ 1 := by
  unfold fX9_unfolds
  (repeat' split) <;> first | exact hb | exact ⟨(by decide : (0 : Int) ≤ 0), (by decide : (0 : Int) ≤ 1)⟩ | exact ⟨(by decide : (0 : Int) ≤ 1), (by decide : (1 : Int) ≤ 1)⟩


theorem b23_X9_lays {M : Mem} (hb : 0 ≤ M 23 0 ∧ M 23 0 ≤ 1) (a b : Int) : 0 ≤ (fX9_lays M a b).2 23 0 ∧ (fX9_lays M a b).2 23 0 ≤ 1 := by
  unfold fX9_lays
  (repeat' split) <;> first | exact hb | exact ⟨(by decide : (0 : Int) ≤ 0), (by decide : (0 : Int) ≤ 1)⟩ | exact ⟨(by decide : (0 : Int) ≤ 1), (by decide : (1 : Int) ≤ 1)⟩


theorem b23_X9_takes {M : Mem} (hb : 0 ≤ M 23 0 ∧ M 23 0 ≤ 1) (a : Int) : 0 ≤ (fX9_takes M a).2 23 0 ∧ (fX9_takes M a).2 23 0 ≤ 1 := by
  unfold fX9_takes
  (repeat' split) <;> first | (rw [done_23, fr_fX9_closesUp _ _ rfl]; exact hb) | exact hb | exact ⟨(by decide : (0 : Int) ≤ 0), (by decide : (0 : Int) ≤ 1)⟩ | exact ⟨(by decide : (0 : Int) ≤ 1), (by decide : (1 : Int) ≤ 1)⟩


theorem b23_X9_moves {M : Mem} (hb : 0 ≤ M 23 0 ∧ M 23 0 ≤ 1) (a b c : Int) : 0 ≤ (fX9_moves M a b c).2 23 0 ∧ (fX9_moves M a b c).2 23 0 ≤ 1 := by
  unfold fX9_moves
  (repeat' split) <;> first | (rw [done_23, fr_fX9_opensAt _ _ _ rfl, fr_fX9_closesUp _ _ rfl]; exact hb) | exact hb | exact ⟨(by decide : (0 : Int) ≤ 0), (by decide : (0 : Int) ≤ 1)⟩ | exact ⟨(by decide : (0 : Int) ≤ 1), (by decide : (1 : Int) ≤ 1)⟩


theorem b23_X9_stains {M : Mem} (hb : 0 ≤ M 23 0 ∧ M 23 0 ≤ 1) (a b : Int) : 0 ≤ (fX9_stains M a b).2 23 0 ∧ (fX9_stains M a b).2 23 0 ≤ 1 := by
  unfold fX9_stains
  (repeat' split) <;> first | exact hb | exact ⟨(by decide : (0 : Int) ≤ 0), (by decide : (0 : Int) ≤ 1)⟩ | exact ⟨(by decide : (0 : Int) ≤ 1), (by decide : (1 : Int) ≤ 1)⟩


theorem b23_X9_washes {M : Mem} (hb : 0 ≤ M 23 0 ∧ M 23 0 ≤ 1) (a : Int) : 0 ≤ (fX9_washes M a).2 23 0 ∧ (fX9_washes M a).2 23 0 ≤ 1 := by
  unfold fX9_washes
  (repeat' split) <;> first | exact hb | exact ⟨(by decide : (0 : Int) ≤ 0), (by decide : (0 : Int) ≤ 1)⟩ | exact ⟨(by decide : (0 : Int) ≤ 1), (by decide : (1 : Int) ≤ 1)⟩


theorem b23_X9_hosts {M : Mem} (hb : 0 ≤ M 23 0 ∧ M 23 0 ≤ 1) (a : Int) : 0 ≤ (fX9_hosts M a).2 23 0 ∧ (fX9_hosts M a).2 23 0 ≤ 1 := by
  unfold fX9_hosts
  (repeat' split) <;> first | exact hb | exact ⟨(by decide : (0 : Int) ≤ 0), (by decide : (0 : Int) ≤ 1)⟩ | exact ⟨(by decide : (0 : Int) ≤ 1), (by decide : (1 : Int) ≤ 1)⟩


theorem b23_does {M : Mem} (hb : 0 ≤ M 23 0 ∧ M 23 0 ≤ 1) (k : Int) : 0 ≤ (fX9_does M k).2 23 0 ∧ (fX9_does M k).2 23 0 ≤ 1 := by
  unfold fX9_does
  (repeat' split) <;> first | exact b23_X9_comes hb _ | exact b23_X9_folds hb _ _ | exact b23_X9_unfolds hb _ | exact b23_X9_takes hb _ | exact b23_X9_washes hb _ | exact b23_X9_hosts hb _ | exact b23_X9_lays hb _ _ | exact b23_X9_moves hb _ _ _ | exact b23_X9_stains hb _ _

def fX9_read_L2 (M : Mem) (n more : Int) : Nat → Mem → Int → (Int × Mem)
  | 0, Mx, _ => (0, Mx)
  | k2 + 1, Mx, ii => if (n ≤ ii) then ((fX9_kept (fX9_done Mx n).2 (fX9_done Mx n).1).1, (fX9_kept (fX9_done Mx n).2 (fX9_done Mx n).1).2) else if (((fX9_does Mx ((4) * ii)).2 26 0) = 0) then fX9_read_L2 M n more k2 (fX9_does Mx ((4) * ii)).2 (ii + 1) else ((fX9_kept (fX9_refusesText (fX9_does Mx ((4) * ii)).2 ii).2 (fX9_refusesText (fX9_does Mx ((4) * ii)).2 ii).1).1, (fX9_kept (fX9_refusesText (fX9_does Mx ((4) * ii)).2 ii).2 (fX9_refusesText (fX9_does Mx ((4) * ii)).2 ii).1).2)
def fX9_read_L1 (M : Mem) : Nat → Mem → Int → Int → (Int × Mem)
  | 0, Mx, _, _ => (0, Mx)
  | k1 + 1, Mx, n, more => if (more = 0) then if ((Mx 28 0) = 0) then if ((Mx 17 0) ≤ (Mx 27 0)) then fX9_read_L2 M n more 33 (fX9_looksBack (msf (msf Mx 28 (0)) 17 (0))) (0) else ((fX9_fails (msf (msf (msf Mx 28 (1)) 17 (0)) 18 (Mx 27 0)) (1)).1, (fX9_fails (msf (msf (msf Mx 28 (1)) 17 (0)) 18 (Mx 27 0)) (1)).2) else ((fX9_fails (msf (msf (msf Mx 28 (1)) 17 (0)) 18 (Mx 27 0)) (1)).1, (fX9_fails (msf (msf (msf Mx 28 (1)) 17 (0)) 18 (Mx 27 0)) (1)).2) else if (((fX9_readsOrder Mx ((4) * n)) 28 0) = 0) then if ((fX9_here (fX9_readsOrder Mx ((4) * n))) = (59)) then fX9_read_L1 M k1 (msf (fX9_readsOrder Mx ((4) * n)) 27 (((fX9_readsOrder Mx ((4) * n)) 27 0) + (1))) (n + 1) (1) else fX9_read_L1 M k1 (msf (fX9_readsOrder Mx ((4) * n)) 27 (((fX9_readsOrder Mx ((4) * n)) 27 0) + (0))) (n + 1) (0) else fX9_read_L1 M k1 (msf (fX9_readsOrder Mx ((4) * n)) 27 (((fX9_readsOrder Mx ((4) * n)) 27 0) + (0))) (n + 1) (0)
def fX9_read (M : Mem) : Int × Mem := fX9_read_L1 M 63 (msf (msf M 27 (0)) 28 (0)) (0) (1)
set_option maxRecDepth 100000 in
set_option maxHeartbeats 4000000 in
theorem kX9_read (l : Launch) (D : va_G) (E : Nat → Nat) (cI cC : ClassId) (Z : State → Prop) (hZo : ∀ M : Mem, ZOk (VG E cI cC M) Z) (hZb : ZBl Z) (M : Mem) (hG : GI M) (hR : RI M) (hX : CH M) (hTL : TL M) (h23 : 0 ≤ M 23 0 ∧ M 23 0 ≤ 1) (r : Int) (M' : Mem) (hE : fX9_read M = (r, M')) : Ci l yX9_read wsX9_read 8 179 [.ref (E 0)] D (TY cI cC) (VG E cI cC) Z M r M' := by
  refine Ci.of (cc := cX9_read) (maxL := 5) (ret := (some .int)) (by decide +kernel) rfl (Nat.le_of_ble_eq_true rfl) ?_
  intro p e s m args below meth c ls hx hb hml hr hown hts hlocks hP hK hD hZ hS hl
  have hl : lv_has ls 5 [(0, .ref (E 0))] := hl
  have S0 : CallFix p m c cX9_read 5 s args wsX9_read RX9 := ⟨hx, hb, hml, hown, hts⟩
  have hinX9 : ∀ w ∈ u_ws RX9 TX9 20, w ∈ wsX9_read := by decide +kernel
  rw [fX9_read] at hE
  refine lv_aload_n hx hb dX9_read_0 rfl (lv_at hl 0 rfl) ?_
  refine z_iconst hx hb dX9_read_1 ?_
  refine va_put (own := RX9) (ref := "NapkinSyntaxModel") (C := RX9) (T := TX9) (N := 20) hx hb hts hinX9 tyX9 tyX9_ok nmX9 hown hK hP hD hS 0 VG_0 rfl 17 (Nat.le_of_ble_eq_true rfl) (hts (.fieldLink RX9 199 "NapkinSyntaxModel" "spot" "I") (by decide +kernel)) (fun _ h => h) rfl (ty := .int) (v := .int (iI (0))) (by decide +kernel) rfl rfl (Nat.le_of_ble_eq_true rfl) dX9_read_2 (fun H locs hP hD hS => ?_)
  rw [VGf_27] at hP hD
  refine lv_aload_n hx hb dX9_read_5 rfl (lv_at hl 0 rfl) ?_
  refine z_iconst hx hb dX9_read_6 ?_
  refine va_put (own := RX9) (ref := "NapkinSyntaxModel") (C := RX9) (T := TX9) (N := 20) hx hb hts hinX9 tyX9 tyX9_ok nmX9 hown hK hP hD hS 0 VG_0 rfl 18 (Nat.le_of_ble_eq_true rfl) (hts (.fieldLink RX9 202 "NapkinSyntaxModel" "isWrong" "Z") (by decide +kernel)) (fun _ h => h) rfl (ty := .boolean) (v := .int (iI (0))) (by decide +kernel) nr_b0 rfl (Nat.le_of_ble_eq_true rfl) dX9_read_7 (fun H locs hP hD hS => ?_)
  rw [VGf_28] at hP hD
  refine z_iconst hx hb dX9_read_10 ?_
  refine lv_istore_n hx hb dX9_read_11 rfl hl (Nat.le_of_ble_eq_true rfl) (lv' := [(1, .int (iI (0))), (0, .ref (E 0))]) rfl (fun ls hl => ?_)
  refine z_iconst hx hb dX9_read_12 ?_
  refine lv_istore_n hx hb dX9_read_13 rfl hl (Nat.le_of_ble_eq_true rfl) (lv' := [(2, .int (iI (1))), (1, .int (iI (0))), (0, .ref (E 0))]) rfl (fun ls hl => ?_)
  have L1 : ∀ (k1 : Nat) (Mx : Mem) (n more : Int) (ls : Array Slot) (H : Heap) (locs : List Loc), lv_has ls 5 [(0, .ref (E 0)), (1, .int (iI n)), (2, .int (iI more))] → va_P D vwCl (VG E cI cC Mx) H → va_D (wA (VG E cI cC M)) (VG E cI cC Mx) → va_S (wA (VG E cI cC M)) s.heap H locs → (0 ≤ n ∧ n ≤ 31 ∧ (more = 0 ∨ (more = 1 ∧ 2 * n ≤ Mx 27 0))) → ((more = 0 ∧ 0 < (k1 : Int)) ∨ (more = 1 ∧ 61 - Mx 27 0 < (k1 : Int) ∧ 0 < (k1 : Int))) → (RI Mx) → (TL Mx) → (GI Mx) → (CH Mx) → (0 ≤ Mx 23 0 ∧ Mx 23 0 ≤ 1) → fX9_read_L1 M k1 Mx n more = (r, M') → W p l e (zRm 8 179) s m args below meth c H locs 0 0 (MQ below (ciQ D (VG E cI cC) M r M') args s 0 0 (wA (VG E cI cC M))) (F0 m 14 ls []) := by
    intro k1
    induction k1 with
    | zero => intro Mx n more ls H locs hl hP hD hS i1 i3 jR jTL jG jX j23 hE; exfalso; omega
    | succ k1 ih1 =>
      intro Mx n more ls H locs hl hP hD hS i1 i3 jR jTL jG jX j23 hE
      have q78 := RI_27 jR
      have q79 := RI_17 jR
      rw [fX9_read_L1] at hE
      refine lv_iload_n hx hb dX9_read_14 rfl (lv_at hl 2 rfl) ?_
      refine z_if_eq hx hb dX9_read_15 (tgt := 71) rfl (by omega) (fun b1 => ?_) (fun b1 => ?_)
      · rw [if_pos b1] at hE
        refine lv_aload_n hx hb dX9_read_71 rfl (lv_at hl 0 rfl) ?_
        refine lv_aload_n hx hb dX9_read_72 rfl (lv_at hl 0 rfl) ?_
        refine va_get (own := RX9) (ref := "NapkinSyntaxModel") (C := RX9) (T := TX9) (N := 20) hx hb hts hinX9 hown hK hP 0 VG_0 rfl 18 (Nat.le_of_ble_eq_true rfl) (hts (.fieldLink RX9 202 "NapkinSyntaxModel" "isWrong" "Z") (by decide +kernel)) (fun _ h => h) (v := .int (iI (Mx 28 0))) rfl dX9_read_73 ?_
        have q2 := RI_28 jR
        refine z_if_ne hx hb dX9_read_76 (tgt := 90) rfl (by omega) (fun b3 => ?_) (fun b3 => ?_)
        · rw [if_neg b3] at hE
          refine z_iconst hx hb dX9_read_90 ?_
          refine lv_goto hx hb dX9_read_91 (tgt := 95) rfl ?_
          refine va_put (own := RX9) (ref := "NapkinSyntaxModel") (C := RX9) (T := TX9) (N := 20) hx hb hts hinX9 tyX9 tyX9_ok nmX9 hown hK hP hD hS 0 VG_0 rfl 18 (Nat.le_of_ble_eq_true rfl) (hts (.fieldLink RX9 202 "NapkinSyntaxModel" "isWrong" "Z") (by decide +kernel)) (fun _ h => h) rfl (ty := .boolean) (v := .int (iI (1))) (by decide +kernel) nr_b1 rfl (Nat.le_of_ble_eq_true rfl) dX9_read_95 (fun H locs hP hD hS => ?_)
          rw [VGf_28] at hP hD
          refine lv_aload_n hx hb dX9_read_98 rfl (lv_at hl 0 rfl) ?_
          refine z_iconst hx hb dX9_read_99 ?_
          refine va_put (own := RX9) (ref := "NapkinSyntaxModel") (C := RX9) (T := TX9) (N := 20) hx hb hts hinX9 tyX9 tyX9_ok nmX9 hown hK hP hD hS 0 VG_0 rfl 7 (Nat.le_of_ble_eq_true rfl) (hts (.fieldLink RX9 196 "NapkinSyntaxModel" "typed" "I") (by decide +kernel)) (fun _ h => h) rfl (ty := .int) (v := .int (iI (0))) (by decide +kernel) rfl rfl (Nat.le_of_ble_eq_true rfl) dX9_read_100 (fun H locs hP hD hS => ?_)
          rw [VGf_17] at hP hD
          refine lv_aload_n hx hb dX9_read_103 rfl (lv_at hl 0 rfl) ?_
          refine va_get (own := RX9) (ref := "NapkinSyntaxModel") (C := RX9) (T := TX9) (N := 20) hx hb hts hinX9 hown hK hP 0 VG_0 rfl 18 (Nat.le_of_ble_eq_true rfl) (hts (.fieldLink RX9 202 "NapkinSyntaxModel" "isWrong" "Z") (by decide +kernel)) (fun _ h => h) (v := .int (iI (1))) rfl dX9_read_104 ?_
          have q4 := RI_28 (RI_28s jR (by omega))
          refine z_if_eq hx hb dX9_read_107 (tgt := 124) rfl (by omega) (fun h => absurd h (by decide)) (fun h => ?_)
          refine lv_aload_n hx hb dX9_read_110 rfl (lv_at hl 0 rfl) ?_
          refine lv_aload_n hx hb dX9_read_111 rfl (lv_at hl 0 rfl) ?_
          refine va_get (own := RX9) (ref := "NapkinSyntaxModel") (C := RX9) (T := TX9) (N := 20) hx hb hts hinX9 hown hK hP 0 VG_0 rfl 17 (Nat.le_of_ble_eq_true rfl) (hts (.fieldLink RX9 199 "NapkinSyntaxModel" "spot" "I") (by decide +kernel)) (fun _ h => h) (v := .int (iI (Mx 27 0))) rfl dX9_read_112 ?_
          have q5 := RI_27 jR
          refine va_put (own := RX9) (ref := "NapkinSyntaxModel") (C := RX9) (T := TX9) (N := 20) hx hb hts hinX9 tyX9 tyX9_ok nmX9 hown hK hP hD hS 0 VG_0 rfl 8 (Nat.le_of_ble_eq_true rfl) (hts (.fieldLink RX9 26 "NapkinSyntaxModel" "errorAt" "I") (by decide +kernel)) (fun _ h => h) rfl (ty := .int) (v := .int (iI (Mx 27 0))) (by decide +kernel) rfl rfl (Nat.le_of_ble_eq_true rfl) dX9_read_115 (fun H locs hP hD hS => ?_)
          rw [VGf_18] at hP hD
          refine lv_aload_n hx hb dX9_read_118 rfl (lv_at hl 0 rfl) ?_
          refine z_iconst hx hb dX9_read_119 ?_
          refine ct_Vi (VG_fix E cI cC) hZo hZb hZ S0 (kX9_fails l D E cI cC Z hZo hZb (msf (msf (msf Mx 28 (1)) 17 (0)) 18 (Mx 27 0)) (1)  (fX9_fails (msf (msf (msf Mx 28 (1)) 17 (0)) 18 (Mx 27 0)) (1)).1 (fX9_fails (msf (msf (msf Mx 28 (1)) 17 (0)) 18 (Mx 27 0)) (1)).2 (Prod.ext rfl rfl)) (cwV 1 hts gX9_read_X9_fails rfl rfl rfl (by decide +kernel) ⟨(Nat.le_of_ble_eq_true rfl), (Nat.le_of_ble_eq_true rfl)⟩) hK hP hD hS rfl rfl VG_0 rfl hl.1 rfl (Nat.le_of_ble_eq_true rfl) dX9_read_120 ⟨Nat.zero_le _, Nat.zero_le _⟩ (fun H locs hP hD hS => ?_)
          obtain ⟨e1, e2⟩ := Prod.mk.inj hE
          subst e2
          exact ci_i hx hb hr hlocks e1 rfl hS hP dX9_read_123
        · rw [if_pos b3] at hE
          refine lv_aload_n hx hb dX9_read_79 rfl (lv_at hl 0 rfl) ?_
          refine va_get (own := RX9) (ref := "NapkinSyntaxModel") (C := RX9) (T := TX9) (N := 20) hx hb hts hinX9 hown hK hP 0 VG_0 rfl 17 (Nat.le_of_ble_eq_true rfl) (hts (.fieldLink RX9 199 "NapkinSyntaxModel" "spot" "I") (by decide +kernel)) (fun _ h => h) (v := .int (iI (Mx 27 0))) rfl dX9_read_80 ?_
          have q6 := RI_27 jR
          refine lv_aload_n hx hb dX9_read_83 rfl (lv_at hl 0 rfl) ?_
          refine va_get (own := RX9) (ref := "NapkinSyntaxModel") (C := RX9) (T := TX9) (N := 20) hx hb hts hinX9 hown hK hP 0 VG_0 rfl 7 (Nat.le_of_ble_eq_true rfl) (hts (.fieldLink RX9 196 "NapkinSyntaxModel" "typed" "I") (by decide +kernel)) (fun _ h => h) (v := .int (iI (Mx 17 0))) rfl dX9_read_84 ?_
          have q7 := RI_17 jR
          refine z_icmp_ge hx hb dX9_read_87 (tgt := 94) rfl (by omega) (by omega) (fun b8 => ?_) (fun b8 => ?_)
          · rw [if_pos b8] at hE
            refine z_iconst hx hb dX9_read_94 ?_
            refine va_put (own := RX9) (ref := "NapkinSyntaxModel") (C := RX9) (T := TX9) (N := 20) hx hb hts hinX9 tyX9 tyX9_ok nmX9 hown hK hP hD hS 0 VG_0 rfl 18 (Nat.le_of_ble_eq_true rfl) (hts (.fieldLink RX9 202 "NapkinSyntaxModel" "isWrong" "Z") (by decide +kernel)) (fun _ h => h) rfl (ty := .boolean) (v := .int (iI (0))) (by decide +kernel) nr_b0 rfl (Nat.le_of_ble_eq_true rfl) dX9_read_95 (fun H locs hP hD hS => ?_)
            rw [VGf_28] at hP hD
            refine lv_aload_n hx hb dX9_read_98 rfl (lv_at hl 0 rfl) ?_
            refine z_iconst hx hb dX9_read_99 ?_
            refine va_put (own := RX9) (ref := "NapkinSyntaxModel") (C := RX9) (T := TX9) (N := 20) hx hb hts hinX9 tyX9 tyX9_ok nmX9 hown hK hP hD hS 0 VG_0 rfl 7 (Nat.le_of_ble_eq_true rfl) (hts (.fieldLink RX9 196 "NapkinSyntaxModel" "typed" "I") (by decide +kernel)) (fun _ h => h) rfl (ty := .int) (v := .int (iI (0))) (by decide +kernel) rfl rfl (Nat.le_of_ble_eq_true rfl) dX9_read_100 (fun H locs hP hD hS => ?_)
            rw [VGf_17] at hP hD
            refine lv_aload_n hx hb dX9_read_103 rfl (lv_at hl 0 rfl) ?_
            refine va_get (own := RX9) (ref := "NapkinSyntaxModel") (C := RX9) (T := TX9) (N := 20) hx hb hts hinX9 hown hK hP 0 VG_0 rfl 18 (Nat.le_of_ble_eq_true rfl) (hts (.fieldLink RX9 202 "NapkinSyntaxModel" "isWrong" "Z") (by decide +kernel)) (fun _ h => h) (v := .int (iI (0))) rfl dX9_read_104 ?_
            have q9 := RI_28 (RI_28s jR (by omega))
            refine z_if_eq hx hb dX9_read_107 (tgt := 124) rfl (by omega) (fun h => ?_) (fun h => absurd h (by decide))
            refine lv_aload_n hx hb dX9_read_124 rfl (lv_at hl 0 rfl) ?_
            refine ct_Vv (VG_fix E cI cC) hZo hZb hZ S0 (kX9_looksBack l D E cI cC Z hZo hZb (msf (msf Mx 28 (0)) 17 (0))  (fX9_looksBack (msf (msf Mx 28 (0)) 17 (0))) rfl) (cwV 0 hts gX9_read_X9_looksBack rfl rfl rfl (by decide +kernel) ⟨(Nat.le_of_ble_eq_true rfl), (Nat.le_of_ble_eq_true rfl)⟩) hK hP hD hS rfl rfl VG_0 rfl hl.1 rfl (Nat.le_of_ble_eq_true rfl) dX9_read_125 ⟨Nat.zero_le _, Nat.zero_le _⟩ (fun H locs hP hD hS => ?_)
            refine z_iconst hx hb dX9_read_128 ?_
            refine lv_istore_n hx hb dX9_read_129 rfl hl (Nat.le_of_ble_eq_true rfl) (lv' := [(3, .int (iI (0))), (0, .ref (E 0)), (1, .int (iI n)), (2, .int (iI more))]) rfl (fun ls hl => ?_)
            have L2 : ∀ (k2 : Nat) (Mx : Mem) (ii : Int) (ls : Array Slot) (H : Heap) (locs : List Loc), lv_has ls 5 [(0, .ref (E 0)), (1, .int (iI n)), (2, .int (iI more)), (3, .int (iI ii))] → va_P D vwCl (VG E cI cC Mx) H → va_D (wA (VG E cI cC M)) (VG E cI cC Mx) → va_S (wA (VG E cI cC M)) s.heap H locs → (0 ≤ ii ∧ ii ≤ n) → (n - ii < (k2 : Int)) → (GI Mx) → (TL Mx) → (CH Mx) → (0 ≤ Mx 23 0 ∧ Mx 23 0 ≤ 1) → fX9_read_L2 M n more k2 Mx ii = (r, M') → W p l e (zRm 8 179) s m args below meth c H locs 0 0 (MQ below (ciQ D (VG E cI cC) M r M') args s 0 0 (wA (VG E cI cC M))) (F0 m 130 ls []) := by
              intro k2
              induction k2 with
              | zero => intro Mx ii ls H locs hl hP hD hS l1 l3 jG jTL jX j23 hE; exfalso; omega
              | succ k2 ih2 =>
                intro Mx ii ls H locs hl hP hD hS l1 l3 jG jTL jX j23 hE
                rw [fX9_read_L2] at hE
                refine lv_iload_n hx hb dX9_read_130 rfl (lv_at hl 3 rfl) ?_
                refine lv_iload_n hx hb dX9_read_131 rfl (lv_at hl 1 rfl) ?_
                refine z_icmp_ge hx hb dX9_read_132 (tgt := 167) rfl (by omega) (by omega) (fun b10 => ?_) (fun b10 => ?_)
                · rw [if_pos b10] at hE
                  refine lv_aload_n hx hb dX9_read_167 rfl (lv_at hl 0 rfl) ?_
                  refine lv_aload_n hx hb dX9_read_168 rfl (lv_at hl 0 rfl) ?_
                  refine lv_iload_n hx hb dX9_read_169 rfl (lv_at hl 1 rfl) ?_
                  refine ct_Vi (VG_fix E cI cC) hZo hZb hZ S0 (kX9_done l D E cI cC Z hZo hZb Mx n  (fX9_done Mx n).1 (fX9_done Mx n).2 (Prod.ext rfl rfl)) (cwV 1 hts gX9_read_X9_done rfl rfl rfl (by decide +kernel) ⟨(Nat.le_of_ble_eq_true rfl), (Nat.le_of_ble_eq_true rfl)⟩) hK hP hD hS rfl rfl VG_0 rfl hl.1 rfl (Nat.le_of_ble_eq_true rfl) dX9_read_170 ⟨Nat.zero_le _, Nat.zero_le _⟩ (fun H locs hP hD hS => ?_)
                  have q11 := th_done Mx n
                  refine ct_Vi (VG_fix E cI cC) hZo hZb hZ S0 (kX9_kept l D E cI cC Z hZo hZb (fX9_done Mx n).2 (fX9_done Mx n).1 (by omega) (CH_of (fr_fX9_done n rfl) jX) (fX9_kept (fX9_done Mx n).2 (fX9_done Mx n).1).1 (fX9_kept (fX9_done Mx n).2 (fX9_done Mx n).1).2 (Prod.ext rfl rfl)) (cwV 1 hts gX9_read_X9_kept rfl rfl rfl (by decide +kernel) ⟨(Nat.le_of_ble_eq_true rfl), (Nat.le_of_ble_eq_true rfl)⟩) hK hP hD hS rfl rfl VG_0 rfl hl.1 rfl (Nat.le_of_ble_eq_true rfl) dX9_read_173 ⟨Nat.zero_le _, Nat.zero_le _⟩ (fun H locs hP hD hS => ?_)
                  obtain ⟨e1, e2⟩ := Prod.mk.inj hE
                  subst e2
                  exact ci_i hx hb hr hlocks e1 rfl hS hP dX9_read_176
                · rw [if_neg b10] at hE
                  refine lv_aload_n hx hb dX9_read_135 rfl (lv_at hl 0 rfl) ?_
                  refine z_iconst hx hb dX9_read_136 ?_
                  refine lv_iload_n hx hb dX9_read_137 rfl (lv_at hl 3 rfl) ?_
                  refine z_imul hx hb dX9_read_138 ?_
                  refine ct_Vi (VG_fix E cI cC) hZo hZb hZ S0 (kX9_does l D E cI cC Z hZo hZb Mx ((4) * ii) (by omega) jG jTL (fX9_does Mx ((4) * ii)).1 (fX9_does Mx ((4) * ii)).2 (Prod.ext rfl rfl)) (cwV 1 hts gX9_read_X9_does rfl rfl rfl (by decide +kernel) ⟨(Nat.le_of_ble_eq_true rfl), (Nat.le_of_ble_eq_true rfl)⟩) hK hP hD hS rfl rfl VG_0 rfl hl.1 rfl (Nat.le_of_ble_eq_true rfl) dX9_read_139 ⟨Nat.zero_le _, Nat.zero_le _⟩ (fun H locs hP hD hS => ?_)
                  have q12 := th_does Mx ((4) * ii)
                  have q13 := b23_does j23 ((4) * ii)
                  refine lv_istore hx hb dX9_read_142 hl (Nat.le_of_ble_eq_true rfl) (lv' := [(4, .int (iI (fX9_does Mx ((4) * ii)).1)), (0, .ref (E 0)), (1, .int (iI n)), (2, .int (iI more)), (3, .int (iI ii))]) rfl (fun ls hl => ?_)
                  refine lv_aload_n hx hb dX9_read_144 rfl (lv_at hl 1 rfl) ?_
                  refine va_get (own := RX9) (ref := "NapkinSyntaxModel") (C := RX9) (T := TX9) (N := 20) hx hb hts hinX9 hown hK hP 0 VG_0 rfl 16 (Nat.le_of_ble_eq_true rfl) (hts (.fieldLink RX9 36 "NapkinSyntaxModel" "thrown" "I") (by decide +kernel)) (fun _ h => h) (v := .int (iI ((fX9_does Mx ((4) * ii)).2 26 0))) rfl dX9_read_145 ?_
                  refine z_if_eq hx hb dX9_read_148 (tgt := 161) rfl (by omega) (fun b14 => ?_) (fun b14 => ?_)
                  · rw [if_pos b14] at hE
                    refine z_iinc hx hb dX9_read_161 hl (k := 4) rfl (Nat.le_of_ble_eq_true rfl) (lv' := [(3, .int (iI (ii + 1))), (4, .int (iI (fX9_does Mx ((4) * ii)).1)), (0, .ref (E 0)), (1, .int (iI n)), (2, .int (iI more))]) rfl (fun ls hl => ?_)
                    refine lv_goto hx hb dX9_read_164 (tgt := 130) rfl ?_
                    exact ih2 (fX9_does Mx ((4) * ii)).2 (ii + 1) ls _ _ (lv_sub hl [2, 3, 4, 0] rfl) hP hD hS (by omega) (by omega) (GI_does jG ((4) * ii)) (TL_of (fr_fX9_does ((4) * ii) rfl rfl rfl rfl rfl rfl rfl) jTL) (CH_of (fr_fX9_does ((4) * ii) rfl rfl rfl rfl rfl rfl rfl) jX) (b23_does j23 _) hE
                  · rw [if_neg b14] at hE
                    refine lv_aload_n hx hb dX9_read_151 rfl (lv_at hl 1 rfl) ?_
                    refine lv_aload_n hx hb dX9_read_152 rfl (lv_at hl 1 rfl) ?_
                    refine lv_iload_n hx hb dX9_read_153 rfl (lv_at hl 4 rfl) ?_
                    refine ct_Vi (VG_fix E cI cC) hZo hZb hZ S0 (kX9_refusesText l D E cI cC Z hZo hZb (fX9_does Mx ((4) * ii)).2 ii (by omega) (fX9_refusesText (fX9_does Mx ((4) * ii)).2 ii).1 (fX9_refusesText (fX9_does Mx ((4) * ii)).2 ii).2 (Prod.ext rfl rfl)) (cwV 1 hts gX9_read_X9_refusesText rfl rfl rfl (by decide +kernel) ⟨(Nat.le_of_ble_eq_true rfl), (Nat.le_of_ble_eq_true rfl)⟩) hK hP hD hS rfl rfl VG_0 rfl hl.1 rfl (Nat.le_of_ble_eq_true rfl) dX9_read_154 ⟨Nat.zero_le _, Nat.zero_le _⟩ (fun H locs hP hD hS => ?_)
                    have q15 := th_refusesText (fX9_does Mx ((4) * ii)).2 ii
                    refine ct_Vi (VG_fix E cI cC) hZo hZb hZ S0 (kX9_kept l D E cI cC Z hZo hZb (fX9_refusesText (fX9_does Mx ((4) * ii)).2 ii).2 (fX9_refusesText (fX9_does Mx ((4) * ii)).2 ii).1 (by omega) (CH_of (fr_fX9_refusesText ii rfl rfl rfl rfl rfl rfl) (CH_of (fr_fX9_does ((4) * ii) rfl rfl rfl rfl rfl rfl rfl) jX)) (fX9_kept (fX9_refusesText (fX9_does Mx ((4) * ii)).2 ii).2 (fX9_refusesText (fX9_does Mx ((4) * ii)).2 ii).1).1 (fX9_kept (fX9_refusesText (fX9_does Mx ((4) * ii)).2 ii).2 (fX9_refusesText (fX9_does Mx ((4) * ii)).2 ii).1).2 (Prod.ext rfl rfl)) (cwV 1 hts gX9_read_X9_kept rfl rfl rfl (by decide +kernel) ⟨(Nat.le_of_ble_eq_true rfl), (Nat.le_of_ble_eq_true rfl)⟩) hK hP hD hS rfl rfl VG_0 rfl hl.1 rfl (Nat.le_of_ble_eq_true rfl) dX9_read_157 ⟨Nat.zero_le _, Nat.zero_le _⟩ (fun H locs hP hD hS => ?_)
                    obtain ⟨e1, e2⟩ := Prod.mk.inj hE
                    subst e2
                    exact ci_i hx hb hr hlocks e1 rfl hS hP dX9_read_160
            exact L2 33 (fX9_looksBack (msf (msf Mx 28 (0)) 17 (0))) (0) ls _ _ (lv_sub hl [1, 2, 3, 0] rfl) hP hD hS (by omega) (by omega) (GI_of (fr_fX9_looksBack rfl) jG) (TL_of (fr_fX9_looksBack rfl) jTL) (CH_of (fr_fX9_looksBack rfl) jX) (by rw [fr_fX9_looksBack rfl]; exact j23) hE
          · rw [if_neg b8] at hE
            refine z_iconst hx hb dX9_read_90 ?_
            refine lv_goto hx hb dX9_read_91 (tgt := 95) rfl ?_
            refine va_put (own := RX9) (ref := "NapkinSyntaxModel") (C := RX9) (T := TX9) (N := 20) hx hb hts hinX9 tyX9 tyX9_ok nmX9 hown hK hP hD hS 0 VG_0 rfl 18 (Nat.le_of_ble_eq_true rfl) (hts (.fieldLink RX9 202 "NapkinSyntaxModel" "isWrong" "Z") (by decide +kernel)) (fun _ h => h) rfl (ty := .boolean) (v := .int (iI (1))) (by decide +kernel) nr_b1 rfl (Nat.le_of_ble_eq_true rfl) dX9_read_95 (fun H locs hP hD hS => ?_)
            rw [VGf_28] at hP hD
            refine lv_aload_n hx hb dX9_read_98 rfl (lv_at hl 0 rfl) ?_
            refine z_iconst hx hb dX9_read_99 ?_
            refine va_put (own := RX9) (ref := "NapkinSyntaxModel") (C := RX9) (T := TX9) (N := 20) hx hb hts hinX9 tyX9 tyX9_ok nmX9 hown hK hP hD hS 0 VG_0 rfl 7 (Nat.le_of_ble_eq_true rfl) (hts (.fieldLink RX9 196 "NapkinSyntaxModel" "typed" "I") (by decide +kernel)) (fun _ h => h) rfl (ty := .int) (v := .int (iI (0))) (by decide +kernel) rfl rfl (Nat.le_of_ble_eq_true rfl) dX9_read_100 (fun H locs hP hD hS => ?_)
            rw [VGf_17] at hP hD
            refine lv_aload_n hx hb dX9_read_103 rfl (lv_at hl 0 rfl) ?_
            refine va_get (own := RX9) (ref := "NapkinSyntaxModel") (C := RX9) (T := TX9) (N := 20) hx hb hts hinX9 hown hK hP 0 VG_0 rfl 18 (Nat.le_of_ble_eq_true rfl) (hts (.fieldLink RX9 202 "NapkinSyntaxModel" "isWrong" "Z") (by decide +kernel)) (fun _ h => h) (v := .int (iI (1))) rfl dX9_read_104 ?_
            have q16 := RI_28 (RI_28s jR (by omega))
            refine z_if_eq hx hb dX9_read_107 (tgt := 124) rfl (by omega) (fun h => absurd h (by decide)) (fun h => ?_)
            refine lv_aload_n hx hb dX9_read_110 rfl (lv_at hl 0 rfl) ?_
            refine lv_aload_n hx hb dX9_read_111 rfl (lv_at hl 0 rfl) ?_
            refine va_get (own := RX9) (ref := "NapkinSyntaxModel") (C := RX9) (T := TX9) (N := 20) hx hb hts hinX9 hown hK hP 0 VG_0 rfl 17 (Nat.le_of_ble_eq_true rfl) (hts (.fieldLink RX9 199 "NapkinSyntaxModel" "spot" "I") (by decide +kernel)) (fun _ h => h) (v := .int (iI (Mx 27 0))) rfl dX9_read_112 ?_
            have q17 := RI_27 jR
            refine va_put (own := RX9) (ref := "NapkinSyntaxModel") (C := RX9) (T := TX9) (N := 20) hx hb hts hinX9 tyX9 tyX9_ok nmX9 hown hK hP hD hS 0 VG_0 rfl 8 (Nat.le_of_ble_eq_true rfl) (hts (.fieldLink RX9 26 "NapkinSyntaxModel" "errorAt" "I") (by decide +kernel)) (fun _ h => h) rfl (ty := .int) (v := .int (iI (Mx 27 0))) (by decide +kernel) rfl rfl (Nat.le_of_ble_eq_true rfl) dX9_read_115 (fun H locs hP hD hS => ?_)
            rw [VGf_18] at hP hD
            refine lv_aload_n hx hb dX9_read_118 rfl (lv_at hl 0 rfl) ?_
            refine z_iconst hx hb dX9_read_119 ?_
            refine ct_Vi (VG_fix E cI cC) hZo hZb hZ S0 (kX9_fails l D E cI cC Z hZo hZb (msf (msf (msf Mx 28 (1)) 17 (0)) 18 (Mx 27 0)) (1)  (fX9_fails (msf (msf (msf Mx 28 (1)) 17 (0)) 18 (Mx 27 0)) (1)).1 (fX9_fails (msf (msf (msf Mx 28 (1)) 17 (0)) 18 (Mx 27 0)) (1)).2 (Prod.ext rfl rfl)) (cwV 1 hts gX9_read_X9_fails rfl rfl rfl (by decide +kernel) ⟨(Nat.le_of_ble_eq_true rfl), (Nat.le_of_ble_eq_true rfl)⟩) hK hP hD hS rfl rfl VG_0 rfl hl.1 rfl (Nat.le_of_ble_eq_true rfl) dX9_read_120 ⟨Nat.zero_le _, Nat.zero_le _⟩ (fun H locs hP hD hS => ?_)
            obtain ⟨e1, e2⟩ := Prod.mk.inj hE
            subst e2
            exact ci_i hx hb hr hlocks e1 rfl hS hP dX9_read_123
      · rw [if_neg b1] at hE
        refine lv_aload_n hx hb dX9_read_18 rfl (lv_at hl 0 rfl) ?_
        refine z_iconst hx hb dX9_read_19 ?_
        refine lv_iload_n hx hb dX9_read_20 rfl (lv_at hl 1 rfl) ?_
        refine z_imul hx hb dX9_read_21 ?_
        refine ct_Vv (VG_fix E cI cC) hZo hZb hZ S0 (kX9_readsOrder l D E cI cC Z hZo hZb Mx ((4) * n) (by omega) jR (fX9_readsOrder Mx ((4) * n)) rfl) (cwV 1 hts gX9_read_X9_readsOrder rfl rfl rfl (by decide +kernel) ⟨(Nat.le_of_ble_eq_true rfl), (Nat.le_of_ble_eq_true rfl)⟩) hK hP hD hS rfl rfl VG_0 rfl hl.1 rfl (Nat.le_of_ble_eq_true rfl) dX9_read_22 ⟨Nat.zero_le _, Nat.zero_le _⟩ (fun H locs hP hD hS => ?_)
        have q18 := ro_facts jR jTL ((4) * n)
        refine z_iinc hx hb dX9_read_25 hl (k := 1) rfl (Nat.le_of_ble_eq_true rfl) (lv' := [(1, .int (iI (n + 1))), (0, .ref (E 0)), (2, .int (iI more))]) rfl (fun ls hl => ?_)
        refine lv_aload_n hx hb dX9_read_28 rfl (lv_at hl 1 rfl) ?_
        refine va_get (own := RX9) (ref := "NapkinSyntaxModel") (C := RX9) (T := TX9) (N := 20) hx hb hts hinX9 hown hK hP 0 VG_0 rfl 18 (Nat.le_of_ble_eq_true rfl) (hts (.fieldLink RX9 202 "NapkinSyntaxModel" "isWrong" "Z") (by decide +kernel)) (fun _ h => h) (v := .int (iI ((fX9_readsOrder Mx ((4) * n)) 28 0))) rfl dX9_read_29 ?_
        have q19 := RI_28 (RI_readsOrder jR jTL ((4) * n))
        refine z_if_ne hx hb dX9_read_32 (tgt := 48) rfl (by omega) (fun b20 => ?_) (fun b20 => ?_)
        · rw [if_neg b20] at hE
          refine z_iconst hx hb dX9_read_48 ?_
          refine lv_istore_n hx hb dX9_read_49 rfl hl (Nat.le_of_ble_eq_true rfl) (lv' := [(2, .int (iI (0))), (1, .int (iI (n + 1))), (0, .ref (E 0))]) rfl (fun ls hl => ?_)
          refine lv_aload_n hx hb dX9_read_50 rfl (lv_at hl 2 rfl) ?_
          refine lv_dup hx hb dX9_read_51 rfl ?_
          refine va_get (own := RX9) (ref := "NapkinSyntaxModel") (C := RX9) (T := TX9) (N := 20) hx hb hts hinX9 hown hK hP 0 VG_0 rfl 17 (Nat.le_of_ble_eq_true rfl) (hts (.fieldLink RX9 199 "NapkinSyntaxModel" "spot" "I") (by decide +kernel)) (fun _ h => h) (v := .int (iI ((fX9_readsOrder Mx ((4) * n)) 27 0))) rfl dX9_read_52 ?_
          have q21 := RI_27 (RI_readsOrder jR jTL ((4) * n))
          refine lv_iload_n hx hb dX9_read_55 rfl (lv_at hl 0 rfl) ?_
          refine z_if_eq hx hb dX9_read_56 (tgt := 63) rfl (by omega) (fun h => ?_) (fun h => absurd h (by decide))
          refine z_iconst hx hb dX9_read_63 ?_
          refine z_iadd hx hb dX9_read_64 ?_
          refine va_put (own := RX9) (ref := "NapkinSyntaxModel") (C := RX9) (T := TX9) (N := 20) hx hb hts hinX9 tyX9 tyX9_ok nmX9 hown hK hP hD hS 0 VG_0 rfl 17 (Nat.le_of_ble_eq_true rfl) (hts (.fieldLink RX9 199 "NapkinSyntaxModel" "spot" "I") (by decide +kernel)) (fun _ h => h) rfl (ty := .int) (v := .int (iI (((fX9_readsOrder Mx ((4) * n)) 27 0) + (0)))) (by decide +kernel) rfl rfl (Nat.le_of_ble_eq_true rfl) dX9_read_65 (fun H locs hP hD hS => ?_)
          rw [VGf_27] at hP hD
          refine lv_goto hx hb dX9_read_68 (tgt := 14) rfl ?_
          exact ih1 (msf (fX9_readsOrder Mx ((4) * n)) 27 (((fX9_readsOrder Mx ((4) * n)) 27 0) + (0))) (n + 1) (0) ls _ _ (lv_sub hl [2, 1, 0] rfl) hP hD hS (by (try simp only [msf_27, true_or, or_true, false_or, or_false, true_and, and_true, false_and, and_false]) <;> omega) (by (try simp only [msf_27, true_or, or_true, false_or, or_false, true_and, and_true, false_and, and_false]) <;> omega) (RI_27s (RI_readsOrder jR jTL ((4) * n)) (by omega)) (TL_readsOrder jR jTL ((4) * n)) (GI_of (fr_fX9_readsOrder ((4) * n) rfl rfl rfl) jG) (CH_of (fr_fX9_readsOrder ((4) * n) rfl rfl rfl) jX) (by rw [msf_o rfl, fr_fX9_readsOrder _ rfl rfl rfl]; exact j23) hE
        · rw [if_pos b20] at hE
          refine lv_aload_n hx hb dX9_read_35 rfl (lv_at hl 1 rfl) ?_
          refine ct_Vi (VG_fix E cI cC) hZo hZb hZ S0 (kX9_here l D E cI cC Z hZo hZb (fX9_readsOrder Mx ((4) * n)) (RI_readsOrder jR jTL ((4) * n)) (fX9_here (fX9_readsOrder Mx ((4) * n))) rfl) (cwV 0 hts gX9_read_X9_here rfl rfl rfl (by decide +kernel) ⟨(Nat.le_of_ble_eq_true rfl), (Nat.le_of_ble_eq_true rfl)⟩) hK hP hD hS rfl rfl VG_0 rfl hl.1 rfl (Nat.le_of_ble_eq_true rfl) dX9_read_36 ⟨Nat.zero_le _, Nat.zero_le _⟩ (fun H locs hP hD hS => ?_)
          have q22 := dX9_here (RI_readsOrder jR jTL ((4) * n))
          refine z_bipush hx hb dX9_read_39 (by decide +kernel) ?_
          refine z_icmp_ne hx hb dX9_read_41 (tgt := 48) rfl (by omega) (by omega) (fun b23 => ?_) (fun b23 => ?_)
          · rw [if_neg b23] at hE
            refine z_iconst hx hb dX9_read_48 ?_
            refine lv_istore_n hx hb dX9_read_49 rfl hl (Nat.le_of_ble_eq_true rfl) (lv' := [(2, .int (iI (0))), (1, .int (iI (n + 1))), (0, .ref (E 0))]) rfl (fun ls hl => ?_)
            refine lv_aload_n hx hb dX9_read_50 rfl (lv_at hl 2 rfl) ?_
            refine lv_dup hx hb dX9_read_51 rfl ?_
            refine va_get (own := RX9) (ref := "NapkinSyntaxModel") (C := RX9) (T := TX9) (N := 20) hx hb hts hinX9 hown hK hP 0 VG_0 rfl 17 (Nat.le_of_ble_eq_true rfl) (hts (.fieldLink RX9 199 "NapkinSyntaxModel" "spot" "I") (by decide +kernel)) (fun _ h => h) (v := .int (iI ((fX9_readsOrder Mx ((4) * n)) 27 0))) rfl dX9_read_52 ?_
            have q24 := RI_27 (RI_readsOrder jR jTL ((4) * n))
            refine lv_iload_n hx hb dX9_read_55 rfl (lv_at hl 0 rfl) ?_
            refine z_if_eq hx hb dX9_read_56 (tgt := 63) rfl (by omega) (fun h => ?_) (fun h => absurd h (by decide))
            refine z_iconst hx hb dX9_read_63 ?_
            refine z_iadd hx hb dX9_read_64 ?_
            refine va_put (own := RX9) (ref := "NapkinSyntaxModel") (C := RX9) (T := TX9) (N := 20) hx hb hts hinX9 tyX9 tyX9_ok nmX9 hown hK hP hD hS 0 VG_0 rfl 17 (Nat.le_of_ble_eq_true rfl) (hts (.fieldLink RX9 199 "NapkinSyntaxModel" "spot" "I") (by decide +kernel)) (fun _ h => h) rfl (ty := .int) (v := .int (iI (((fX9_readsOrder Mx ((4) * n)) 27 0) + (0)))) (by decide +kernel) rfl rfl (Nat.le_of_ble_eq_true rfl) dX9_read_65 (fun H locs hP hD hS => ?_)
            rw [VGf_27] at hP hD
            refine lv_goto hx hb dX9_read_68 (tgt := 14) rfl ?_
            exact ih1 (msf (fX9_readsOrder Mx ((4) * n)) 27 (((fX9_readsOrder Mx ((4) * n)) 27 0) + (0))) (n + 1) (0) ls _ _ (lv_sub hl [2, 1, 0] rfl) hP hD hS (by (try simp only [msf_27, true_or, or_true, false_or, or_false, true_and, and_true, false_and, and_false]) <;> omega) (by (try simp only [msf_27, true_or, or_true, false_or, or_false, true_and, and_true, false_and, and_false]) <;> omega) (RI_27s (RI_readsOrder jR jTL ((4) * n)) (by omega)) (TL_readsOrder jR jTL ((4) * n)) (GI_of (fr_fX9_readsOrder ((4) * n) rfl rfl rfl) jG) (CH_of (fr_fX9_readsOrder ((4) * n) rfl rfl rfl) jX) (by rw [msf_o rfl, fr_fX9_readsOrder _ rfl rfl rfl]; exact j23) hE
          · rw [if_pos b23] at hE
            refine z_iconst hx hb dX9_read_44 ?_
            refine lv_goto hx hb dX9_read_45 (tgt := 49) rfl ?_
            refine lv_istore_n hx hb dX9_read_49 rfl hl (Nat.le_of_ble_eq_true rfl) (lv' := [(2, .int (iI (1))), (1, .int (iI (n + 1))), (0, .ref (E 0))]) rfl (fun ls hl => ?_)
            refine lv_aload_n hx hb dX9_read_50 rfl (lv_at hl 2 rfl) ?_
            refine lv_dup hx hb dX9_read_51 rfl ?_
            refine va_get (own := RX9) (ref := "NapkinSyntaxModel") (C := RX9) (T := TX9) (N := 20) hx hb hts hinX9 hown hK hP 0 VG_0 rfl 17 (Nat.le_of_ble_eq_true rfl) (hts (.fieldLink RX9 199 "NapkinSyntaxModel" "spot" "I") (by decide +kernel)) (fun _ h => h) (v := .int (iI ((fX9_readsOrder Mx ((4) * n)) 27 0))) rfl dX9_read_52 ?_
            have q25 := RI_27 (RI_readsOrder jR jTL ((4) * n))
            refine lv_iload_n hx hb dX9_read_55 rfl (lv_at hl 0 rfl) ?_
            refine z_if_eq hx hb dX9_read_56 (tgt := 63) rfl (by omega) (fun h => absurd h (by decide)) (fun h => ?_)
            refine z_iconst hx hb dX9_read_59 ?_
            refine lv_goto hx hb dX9_read_60 (tgt := 64) rfl ?_
            refine z_iadd hx hb dX9_read_64 ?_
            refine va_put (own := RX9) (ref := "NapkinSyntaxModel") (C := RX9) (T := TX9) (N := 20) hx hb hts hinX9 tyX9 tyX9_ok nmX9 hown hK hP hD hS 0 VG_0 rfl 17 (Nat.le_of_ble_eq_true rfl) (hts (.fieldLink RX9 199 "NapkinSyntaxModel" "spot" "I") (by decide +kernel)) (fun _ h => h) rfl (ty := .int) (v := .int (iI (((fX9_readsOrder Mx ((4) * n)) 27 0) + (1)))) (by decide +kernel) rfl rfl (Nat.le_of_ble_eq_true rfl) dX9_read_65 (fun H locs hP hD hS => ?_)
            rw [VGf_27] at hP hD
            refine lv_goto hx hb dX9_read_68 (tgt := 14) rfl ?_
            exact ih1 (msf (fX9_readsOrder Mx ((4) * n)) 27 (((fX9_readsOrder Mx ((4) * n)) 27 0) + (1))) (n + 1) (1) ls _ _ (lv_sub hl [2, 1, 0] rfl) hP hD hS (by (try simp only [msf_27, true_or, or_true, false_or, or_false, true_and, and_true, false_and, and_false]) <;> omega) (by (try simp only [msf_27, true_or, or_true, false_or, or_false, true_and, and_true, false_and, and_false]) <;> omega) (RI_27s (RI_readsOrder jR jTL ((4) * n)) (by omega)) (TL_readsOrder jR jTL ((4) * n)) (GI_of (fr_fX9_readsOrder ((4) * n) rfl rfl rfl) jG) (CH_of (fr_fX9_readsOrder ((4) * n) rfl rfl rfl) jX) (by rw [msf_o rfl, fr_fX9_readsOrder _ rfl rfl rfl]; exact j23) hE
  exact L1 63 (msf (msf M 27 (0)) 28 (0)) (0) (1) ls _ _ (lv_sub hl [2, 1, 0] rfl) hP hD hS (by (try simp only [msf_27, msf_27_28, true_or, or_true, false_or, or_false, true_and, and_true, false_and, and_false]) <;> omega) (by (try simp only [msf_27, msf_27_28, true_or, or_true, false_or, or_false, true_and, and_true, false_and, and_false]) <;> omega) (RI_28s (RI_27s hR (by omega)) (by omega)) hTL hG hX h23 hE

theorem fr_fX9_read_L2 (M : Mem) (n more : Int) {r : Nat} (h0 : Nat.beq r 0 = false) (h1 : Nat.beq r 1 = false) (h2 : Nat.beq r 2 = false) (h6 : Nat.beq r 6 = false) (h13 : Nat.beq r 13 = false) (h17 : Nat.beq r 17 = false) (h18 : Nat.beq r 18 = false) (h19 : Nat.beq r 19 = false) (h20 : Nat.beq r 20 = false) (h21 : Nat.beq r 21 = false) (h22 : Nat.beq r 22 = false) (h23 : Nat.beq r 23 = false) (h26 : Nat.beq r 26 = false) (h27 : Nat.beq r 27 = false) (h28 : Nat.beq r 28 = false) : ∀ (k : Nat) (Mx : Mem) (ii : Int), (fX9_read_L2 M n more k Mx ii).2 r = Mx r := by
  intro k
  induction k with
  | zero => intros; rfl
  | succ k ih =>
    intro Mx ii
    rw [fX9_read_L2]
    (repeat' with_reducible refine frite_w (fun _ => ?_) (fun _ => ?_)) <;> first | with_reducible rfl | simp only [ih, mst_o, msf_o, mcp_o, fr_fX9_does, fr_fX9_done, fr_fX9_fails, fr_fX9_kept, fr_fX9_looksBack, fr_fX9_readsOrder, fr_fX9_refusesText, h0, h1, h2, h6, h13, h17, h18, h19, h20, h21, h22, h23, h26, h27, h28]
theorem fr_fX9_read_L1 (M : Mem) {r : Nat} (h0 : Nat.beq r 0 = false) (h1 : Nat.beq r 1 = false) (h2 : Nat.beq r 2 = false) (h6 : Nat.beq r 6 = false) (h13 : Nat.beq r 13 = false) (h17 : Nat.beq r 17 = false) (h18 : Nat.beq r 18 = false) (h19 : Nat.beq r 19 = false) (h20 : Nat.beq r 20 = false) (h21 : Nat.beq r 21 = false) (h22 : Nat.beq r 22 = false) (h23 : Nat.beq r 23 = false) (h26 : Nat.beq r 26 = false) (h27 : Nat.beq r 27 = false) (h28 : Nat.beq r 28 = false) : ∀ (k : Nat) (Mx : Mem) (n more : Int), (fX9_read_L1 M k Mx n more).2 r = Mx r := by
  intro k
  induction k with
  | zero => intros; rfl
  | succ k ih =>
    intro Mx n more
    rw [fX9_read_L1]
    (repeat' with_reducible refine frite_w (fun _ => ?_) (fun _ => ?_)) <;> first | with_reducible rfl | simp only [ih, mst_o, msf_o, mcp_o, fr_fX9_does, fr_fX9_done, fr_fX9_fails, fr_fX9_kept, fr_fX9_looksBack, fr_fX9_readsOrder, fr_fX9_refusesText, h0, h1, h2, h6, h13, h17, h18, h19, h20, h21, h22, h23, h26, h27, h28, fr_fX9_read_L2]
theorem fr_fX9_read {M : Mem} {r : Nat} (h0 : Nat.beq r 0 = false) (h1 : Nat.beq r 1 = false) (h2 : Nat.beq r 2 = false) (h6 : Nat.beq r 6 = false) (h13 : Nat.beq r 13 = false) (h17 : Nat.beq r 17 = false) (h18 : Nat.beq r 18 = false) (h19 : Nat.beq r 19 = false) (h20 : Nat.beq r 20 = false) (h21 : Nat.beq r 21 = false) (h22 : Nat.beq r 22 = false) (h23 : Nat.beq r 23 = false) (h26 : Nat.beq r 26 = false) (h27 : Nat.beq r 27 = false) (h28 : Nat.beq r 28 = false) : (fX9_read M).2 r = M r := by
  unfold fX9_read
  (repeat' with_reducible refine frite_w (fun _ => ?_) (fun _ => ?_)) <;> first | with_reducible rfl | simp only [mst_o, msf_o, mcp_o, fr_fX9_does, fr_fX9_done, fr_fX9_fails, fr_fX9_kept, fr_fX9_looksBack, fr_fX9_readsOrder, fr_fX9_refusesText, h0, h1, h2, h6, h13, h17, h18, h19, h20, h21, h22, h23, h26, h27, h28, fr_fX9_read_L2, fr_fX9_read_L1]
