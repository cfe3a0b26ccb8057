/-! the class NapkinSyntax: read -/

theorem rg_X7_errorAt_L {M : Mem} (h : TI M) : ∀ (k : Nat) (s n : Int), 0 ≤ s → s ≤ 10 * n → n ≤ 61 → -1 ≤ fX7_errorAt_L1 M k s n ∧ fX7_errorAt_L1 M k s n ≤ 1000 := by
  intro k
  induction k with
  | zero => intro s n _ _ _; exact ⟨(by decide : (-1 : Int) ≤ 0), (by decide : (0 : Int) ≤ 1000)⟩
  | succ k ih =>
    intro s n h1 h2 h3
    have a := rg_X7_longestMatch M s
    have b := rg_X1_length (fX7_commandAt M s)
    rw [fX7_errorAt_L1]
    split
    · omega
    split
    · omega
    split
    · split
      · exact ih _ _ (by omega) (by omega) (by omega)
      · omega
    · omega
theorem rg_X7_errorAt {M : Mem} (h : TI M) : -1 ≤ fX7_errorAt M ∧ fX7_errorAt M ≤ 1000 := rg_X7_errorAt_L h 62 0 0 (by decide) (by decide) (by decide)
theorem SI_carryOut {M : Mem} (hC : CI M) (hQ : SI M) (co a b d : Int) : SI (fX5_carryOut M co a b d).2 := by
  unfold fX5_carryOut
  split
  · exact SI_of (fr_fX6_addNapkin _ rfl) (fr_fX6_addNapkin _ rfl) (fr_fX6_addNapkin _ rfl) (fr_fX6_addNapkin _ rfl) (fr_fX6_addNapkin _ rfl) hQ
  split
  · exact SI_of (fr_fX6_foldTo _ _ _ rfl) (fr_fX6_foldTo _ _ _ rfl) (fr_fX6_foldTo _ _ _ rfl) (fr_fX6_foldTo _ _ _ rfl) (fr_fX6_foldTo _ _ _ rfl) hQ
  split
  · exact SI_of (fr_fX6_open _ rfl) (fr_fX6_open _ rfl) (fr_fX6_open _ rfl) (fr_fX6_open _ rfl) (fr_fX6_open _ rfl) hQ
  split
  · exact SI_of (fr_fX6_addLast _ _ rfl) (fr_fX6_addLast _ _ rfl) (fr_fX6_addLast _ _ rfl) (fr_fX6_addLast _ _ rfl) (fr_fX6_addLast _ _ rfl) hQ
  split
  · exact SI_of (fr_fX6_remove _ rfl) (fr_fX6_remove _ rfl) (fr_fX6_remove _ rfl) (fr_fX6_remove _ rfl) (fr_fX6_remove _ rfl) hQ
  split
  · exact SI_of (fr_fX6_shift _ _ _ rfl) (fr_fX6_shift _ _ _ rfl) (fr_fX6_shift _ _ _ rfl) (fr_fX6_shift _ _ _ rfl) (fr_fX6_shift _ _ _ rfl) hQ
  split
  · exact SI_of (fr_fX6_addStains _ _ rfl) (fr_fX6_addStains _ _ rfl) (fr_fX6_addStains _ _ rfl) (fr_fX6_addStains _ _ rfl) (fr_fX6_addStains _ _ rfl) hQ
  split
  · exact SI_of (fr_fX6_clean _ rfl) (fr_fX6_clean _ rfl) (fr_fX6_clean _ rfl) (fr_fX6_clean _ rfl) (fr_fX6_clean _ rfl) hQ
  · unfold fX5_readByHost
    exact SI_of (fr_fX6_noteReading _ _ rfl) (fr_fX6_noteReading _ _ rfl) (fr_fX6_noteReading _ _ rfl) (fr_fX6_noteReading _ _ rfl) (fr_fX6_noteReading _ _ rfl) (SI_hear hC hQ a)

def fX8_read_L1 (M : Mem) : Nat → Mem → Int → Int → Int → Int → (Int × Int × Mem)
  | 0, Mx, _, _, _, _ => ((0), (0), Mx)
  | k1 + 1, Mx, verdict, number, start, co => if (co < 0) then if (verdict = 0) then ((0), number, (fX2_push (fX7_empty Mx))) else ((3), (0), (fX8_refuse (fX6_copyFrom_b (fX7_empty Mx)) (fX8_refusedFor (9) (number - (1))) (zmax verdict (0)))) else if (verdict = 0) then if ((60) ≤ number) then if (verdict = 0) then ((0), number, (fX2_push (fX7_empty Mx))) else ((3), (0), (fX8_refuse (fX6_copyFrom_b (fX7_empty Mx)) (fX8_refusedFor (9) (number - (1))) (zmax verdict (0)))) else if ((fX5_judge Mx co (fX7_argument Mx co start (0)) (fX7_argument Mx co start (1)) (fX7_argument Mx co start (2))).1 = 0) then fX8_read_L1 M k1 (fX5_carryOut (fX5_judge Mx co (fX7_argument Mx co start (0)) (fX7_argument Mx co start (1)) (fX7_argument Mx co start (2))).2 co (fX7_argument Mx co start (0)) (fX7_argument Mx co start (1)) (fX7_argument Mx co start (2))).2 (fX5_judge Mx co (fX7_argument Mx co start (0)) (fX7_argument Mx co start (1)) (fX7_argument Mx co start (2))).1 (number + 1) (start + ((fX1_length co) + (1))) (fX7_commandAt (fX5_carryOut (fX5_judge Mx co (fX7_argument Mx co start (0)) (fX7_argument Mx co start (1)) (fX7_argument Mx co start (2))).2 co (fX7_argument Mx co start (0)) (fX7_argument Mx co start (1)) (fX7_argument Mx co start (2))).2 (start + ((fX1_length co) + (1)))) else fX8_read_L1 M k1 (fX5_judge Mx co (fX7_argument Mx co start (0)) (fX7_argument Mx co start (1)) (fX7_argument Mx co start (2))).2 (fX5_judge Mx co (fX7_argument Mx co start (0)) (fX7_argument Mx co start (1)) (fX7_argument Mx co start (2))).1 (number + 1) (start + ((fX1_length co) + (1))) (fX7_commandAt (fX5_judge Mx co (fX7_argument Mx co start (0)) (fX7_argument Mx co start (1)) (fX7_argument Mx co start (2))).2 (start + ((fX1_length co) + (1)))) else if (verdict = 0) then ((0), number, (fX2_push (fX7_empty Mx))) else ((3), (0), (fX8_refuse (fX6_copyFrom_b (fX7_empty Mx)) (fX8_refusedFor (9) (number - (1))) (zmax verdict (0))))
def fX8_read (M : Mem) : Int × Int × Mem := if ((fX7_errorAt M) = (-1)) then fX8_read_L1 M 62 (fX6_copyTo_b M) (0) (0) (0) (fX7_commandAt (fX6_copyTo_b M) (0)) else ((2), (0), (msf (fX7_empty M) 17 (fX7_errorAt M)))
set_option maxRecDepth 100000 in
set_option maxHeartbeats 4000000 in
theorem kX8_read (l : Launch) (hst : l.stackTraces = false) (D : va_G) (E : Nat → Nat) (cI cC : ClassId) (T : Nat → Nat) (M : Mem) (hC : CI M) (hQ : SI M) (hT : TI M) (hH : HN M) (kx r : Int) (M' : Mem) (hE : fX8_read M = (kx, r, M')) : Cx l yX8_read wsX8_read 8 179 1 [.ref (E 0)] D (TY cI cC) (VC E cI cC) (ZC E cI cC T) M kx (some (.int (iI r))) M' := by
  refine Cx.of (cc := cX8_read) (maxL := 9) (ret := (some .int)) (by decide +kernel) rfl (Nat.le_of_ble_eq_true rfl) ?_
  intro p e s m args below meth c ls hx hb hml hr hown hts hlocks hP hK hD hZ hS hout hl
  have hl : lv_has ls 9 [(0, .ref (E 0))] := hl
  have S0 : CallFix p m c cX8_read 9 s args wsX8_read RX8 := ⟨hx, hb, hml, hown, hts⟩
  have hinX8 : ∀ w ∈ u_ws RX8 TX8 12, w ∈ wsX8_read := by decide +kernel
  rw [fX8_read] at hE
  refine lv_aload_n hx hb dX8_read_0 rfl (lv_at hl 0 rfl) ?_
  refine va_get (own := RX8) (ref := "NapkinSyntax") (C := RX8) (T := TX8) (N := 12) hx hb hts hinX8 hown hK hP 0 VC_0 rfl 4 (Nat.le_of_ble_eq_true rfl) (hts (.fieldLink RX8 38 "NapkinSyntax" "text" "LNapkinSyntax$Text;") (by decide +kernel)) (fun _ h => h) (v := .ref (E 13)) rfl dX8_read_1 ?_
  refine ct_Vi (VC_fix E cI cC) (ZC_ok E cI cC T) (ZC_bl E cI cC T) hZ S0 (kX7_errorAt l D E cI cC T M hT (fX7_errorAt M) rfl) (cwV 0 hts gX8_read_X7_errorAt rfl rfl rfl (by decide +kernel) ⟨(Nat.le_of_ble_eq_true rfl), (Nat.le_of_ble_eq_true rfl)⟩) hK hP hD hS rfl rfl VC_13 rfl hl.1 rfl (Nat.le_of_ble_eq_true rfl) dX8_read_4 ⟨(Nat.le_of_ble_eq_true rfl), (Nat.le_of_ble_eq_true rfl)⟩ (fun H locs hP hD hS => ?_)
  have q1 := rg_X7_errorAt hT
  refine lv_istore_n hx hb dX8_read_7 rfl hl (Nat.le_of_ble_eq_true rfl) (lv' := [(1, .int (iI (fX7_errorAt M))), (0, .ref (E 0))]) rfl (fun ls hl => ?_)
  refine lv_iload_n hx hb dX8_read_8 rfl (lv_at hl 0 rfl) ?_
  refine z_iconst hx hb dX8_read_9 ?_
  refine z_icmp_eq hx hb dX8_read_10 (tgt := 36) rfl (by omega) (by omega) (fun b2 => ?_) (fun b2 => ?_)
  · rw [if_pos b2] at hE
    refine lv_aload_n hx hb dX8_read_36 rfl (lv_at hl 1 rfl) ?_
    refine va_get (own := RX8) (ref := "NapkinSyntax") (C := RX8) (T := TX8) (N := 12) hx hb hts hinX8 hown hK hP 0 VC_0 rfl 1 (Nat.le_of_ble_eq_true rfl) (hts (.fieldLink RX8 20 "NapkinSyntax" "now" "LNapkinSyntax$State;") (by decide +kernel)) (fun _ h => h) (v := .ref (E 2)) rfl dX8_read_37 ?_
    refine lv_aload_n hx hb dX8_read_40 rfl (lv_at hl 1 rfl) ?_
    refine va_get (own := RX8) (ref := "NapkinSyntax") (C := RX8) (T := TX8) (N := 12) hx hb hts hinX8 hown hK hP 0 VC_0 rfl 6 (Nat.le_of_ble_eq_true rfl) (hts (.fieldLink RX8 51 "NapkinSyntax" "before" "[I") (by decide +kernel)) (fun _ h => h) (v := .ref (E 17)) rfl dX8_read_41 ?_
    refine ct_Vv (VC_fix E cI cC) (ZC_ok E cI cC T) (ZC_bl E cI cC T) hZ S0 (kX6_copyTo_b l D E cI cC (ZC E cI cC T) (ZC_ok E cI cC T) (ZC_bl E cI cC T) M  (fX6_copyTo_b M) rfl) (cwV 1 hts gX8_read_X6_copyTo rfl rfl rfl (by decide +kernel) ⟨(Nat.le_of_ble_eq_true rfl), (Nat.le_of_ble_eq_true rfl)⟩) hK hP hD hS rfl rfl VC_2 rfl hl.1 rfl (Nat.le_of_ble_eq_true rfl) dX8_read_44 ⟨(Nat.le_of_ble_eq_true rfl), (Nat.le_of_ble_eq_true rfl)⟩ (fun H locs hP hD hS => ?_)
    refine z_iconst hx hb dX8_read_47 ?_
    refine lv_istore_n hx hb dX8_read_48 rfl hl (Nat.le_of_ble_eq_true rfl) (lv' := [(2, .int (iI (0))), (1, .int (iI (fX7_errorAt M))), (0, .ref (E 0))]) rfl (fun ls hl => ?_)
    refine z_iconst hx hb dX8_read_49 ?_
    refine lv_istore_n hx hb dX8_read_50 rfl hl (Nat.le_of_ble_eq_true rfl) (lv' := [(3, .int (iI (0))), (2, .int (iI (0))), (1, .int (iI (fX7_errorAt M))), (0, .ref (E 0))]) rfl (fun ls hl => ?_)
    refine z_iconst hx hb dX8_read_51 ?_
    refine lv_istore hx hb dX8_read_52 hl (Nat.le_of_ble_eq_true rfl) (lv' := [(4, .int (iI (0))), (3, .int (iI (0))), (2, .int (iI (0))), (1, .int (iI (fX7_errorAt M))), (0, .ref (E 0))]) rfl (fun ls hl => ?_)
    refine lv_aload_n hx hb dX8_read_54 rfl (lv_at hl 4 rfl) ?_
    refine va_get (own := RX8) (ref := "NapkinSyntax") (C := RX8) (T := TX8) (N := 12) hx hb hts hinX8 hown hK hP 0 VC_0 rfl 4 (Nat.le_of_ble_eq_true rfl) (hts (.fieldLink RX8 38 "NapkinSyntax" "text" "LNapkinSyntax$Text;") (by decide +kernel)) (fun _ h => h) (v := .ref (E 13)) rfl dX8_read_55 ?_
    refine lv_iload hx hb dX8_read_58 (lv_at hl 0 rfl) ?_
    refine ct_Vr (VC_fix E cI cC) (ZC_ok E cI cC T) (ZC_bl E cI cC T) hZ S0 (kX7_commandAt l D E cI cC T (fX6_copyTo_b M) (0) (by omega) (TI_of (fr_fX6_copyTo_b  rfl) (fr_fX6_copyTo_b  rfl) hT) (fX7_commandAt (fX6_copyTo_b M) (0)) rfl) (cwV 1 hts gX8_read_X7_commandAt rfl rfl rfl (by decide +kernel) ⟨(Nat.le_of_ble_eq_true rfl), (Nat.le_of_ble_eq_true rfl)⟩) hK hP hD hS rfl rfl VC_13 rfl hl.1 rfl (Nat.le_of_ble_eq_true rfl) dX8_read_60 ⟨(Nat.le_of_ble_eq_true rfl), (Nat.le_of_ble_eq_true rfl)⟩ (fun H locs hP hD hS => ?_)
    have q3 := rg_X7_commandAt (fX6_copyTo_b M) (0)
    refine z_astoreq hx hb dX8_read_63 hl (Nat.le_of_ble_eq_true rfl) (lv' := [(5, zq T (fX7_commandAt (fX6_copyTo_b M) (0))), (4, .int (iI (0))), (3, .int (iI (0))), (2, .int (iI (0))), (1, .int (iI (fX7_errorAt M))), (0, .ref (E 0))]) rfl (fun ls hl => ?_)
    have L1 : ∀ (k1 : Nat) (Mx : Mem) (verdict number start co : Int) (ls : Array Slot) (H : Heap) (locs : List Loc), lv_has ls 9 [(0, .ref (E 0)), (1, .int (iI (fX7_errorAt M))), (2, .int (iI verdict)), (3, .int (iI number)), (4, .int (iI start)), (5, zq T co)] → va_P D vwCl (VC E cI cC Mx) H → va_D (wA (VC E cI cC M)) (VC E cI cC Mx) → va_S (wA (VC E cI cC M)) s.heap H locs → (0 ≤ number ∧ number ≤ 60 ∧ 0 ≤ start ∧ start ≤ 10 * number) → (-2 ≤ verdict ∧ verdict ≤ 200) → (-1 ≤ co ∧ co < 9) → (60 - number < (k1 : Int)) → (CI Mx) → (SI Mx) → (TI Mx) → (HN Mx) → fX8_read_L1 M k1 Mx verdict number start co = (kx, r, M') → W p l e (zRmx 8 179 1) s m args below meth c H locs 0 0 (cxE below D (VC E cI cC) M kx (some (.int (iI r))) M' args s 1) (F0 m 65 ls []) := by
      intro k1
      induction k1 with
      | zero => intro Mx verdict number start co ls H locs hl hP hD hS i1 i2 i4 i3 jC jQ jT jH hE; exfalso; omega
      | succ k1 ih1 =>
        intro Mx verdict number start co ls H locs hl hP hD hS i1 i2 i4 i3 jC jQ jT jH hE
        rw [fX8_read_L1] at hE
        refine z_aloadq hx hb dX8_read_65 (lv_at hl 5 rfl) ?_
        by_cases b4 : (co < 0)
        · rw [if_pos b4] at hE
          simp only [zq_n b4] at hl ⊢
          refine lv_ifnullN hx hb dX8_read_67 (tgt := 187) rfl ?_
          refine lv_aload_n hx hb dX8_read_187 rfl (lv_at hl 0 rfl) ?_
          refine va_get (own := RX8) (ref := "NapkinSyntax") (C := RX8) (T := TX8) (N := 12) hx hb hts hinX8 hown hK hP 0 VC_0 rfl 4 (Nat.le_of_ble_eq_true rfl) (hts (.fieldLink RX8 38 "NapkinSyntax" "text" "LNapkinSyntax$Text;") (by decide +kernel)) (fun _ h => h) (v := .ref (E 13)) rfl dX8_read_188 ?_
          refine ct_Vv (VC_fix E cI cC) (ZC_ok E cI cC T) (ZC_bl E cI cC T) hZ S0 (kX7_empty l D E cI cC (ZC E cI cC T) (ZC_ok E cI cC T) (ZC_bl E cI cC T) Mx  (fX7_empty Mx) rfl) (cwV 0 hts gX8_read_X7_empty rfl rfl rfl (by decide +kernel) ⟨(Nat.le_of_ble_eq_true rfl), (Nat.le_of_ble_eq_true rfl)⟩) hK hP hD hS rfl rfl VC_13 rfl hl.1 rfl (Nat.le_of_ble_eq_true rfl) dX8_read_191 ⟨(Nat.le_of_ble_eq_true rfl), (Nat.le_of_ble_eq_true rfl)⟩ (fun H locs hP hD hS => ?_)
          refine lv_iload_n hx hb dX8_read_194 rfl (lv_at hl 2 rfl) ?_
          refine z_if_eq hx hb dX8_read_195 (tgt := 237) rfl (by omega) (fun b5 => ?_) (fun b5 => ?_)
          · rw [if_pos b5] at hE
            refine lv_aload_n hx hb dX8_read_237 rfl (lv_at hl 0 rfl) ?_
            refine va_get (own := RX8) (ref := "NapkinSyntax") (C := RX8) (T := TX8) (N := 12) hx hb hts hinX8 hown hK hP 0 VC_0 rfl 3 (Nat.le_of_ble_eq_true rfl) (hts (.fieldLink RX8 31 "NapkinSyntax" "history" "LNapkinSyntax$History;") (by decide +kernel)) (fun _ h => h) (v := .ref (E 11)) rfl dX8_read_238 ?_
            refine lv_aload_n hx hb dX8_read_241 rfl (lv_at hl 0 rfl) ?_
            refine va_get (own := RX8) (ref := "NapkinSyntax") (C := RX8) (T := TX8) (N := 12) hx hb hts hinX8 hown hK hP 0 VC_0 rfl 6 (Nat.le_of_ble_eq_true rfl) (hts (.fieldLink RX8 51 "NapkinSyntax" "before" "[I") (by decide +kernel)) (fun _ h => h) (v := .ref (E 17)) rfl dX8_read_242 ?_
            refine ct_Vv (VC_fix E cI cC) (ZC_ok E cI cC T) (ZC_bl E cI cC T) hZ S0 (kX2_push l D E cI cC (ZC E cI cC T) (ZC_ok E cI cC T) (ZC_bl E cI cC T) (fX7_empty Mx) (HN_of (fr_fX7_empty  rfl) jH) (fX2_push (fX7_empty Mx)) rfl) (cwV 1 hts gX8_read_X2_push rfl rfl rfl (by decide +kernel) ⟨(Nat.le_of_ble_eq_true rfl), (Nat.le_of_ble_eq_true rfl)⟩) hK hP hD hS rfl rfl VC_11 rfl hl.1 rfl (Nat.le_of_ble_eq_true rfl) dX8_read_245 ⟨(Nat.le_of_ble_eq_true rfl), (Nat.le_of_ble_eq_true rfl)⟩ (fun H locs hP hD hS => ?_)
            refine lv_iload_n hx hb dX8_read_248 rfl (lv_at hl 3 rfl) ?_
            obtain ⟨e0, e9⟩ := Prod.mk.inj hE
            obtain ⟨e1, e2⟩ := Prod.mk.inj e9
            subst e2
            exact cx_i hx hb hr hlocks e0 e1 rfl hS hP (Nat.le_of_ble_eq_true rfl) (Nat.le_of_ble_eq_true rfl) dX8_read_249
          · rw [if_neg b5] at hE
            refine lv_aload_n hx hb dX8_read_198 rfl (lv_at hl 0 rfl) ?_
            refine va_get (own := RX8) (ref := "NapkinSyntax") (C := RX8) (T := TX8) (N := 12) hx hb hts hinX8 hown hK hP 0 VC_0 rfl 1 (Nat.le_of_ble_eq_true rfl) (hts (.fieldLink RX8 20 "NapkinSyntax" "now" "LNapkinSyntax$State;") (by decide +kernel)) (fun _ h => h) (v := .ref (E 2)) rfl dX8_read_199 ?_
            refine lv_aload_n hx hb dX8_read_202 rfl (lv_at hl 0 rfl) ?_
            refine va_get (own := RX8) (ref := "NapkinSyntax") (C := RX8) (T := TX8) (N := 12) hx hb hts hinX8 hown hK hP 0 VC_0 rfl 6 (Nat.le_of_ble_eq_true rfl) (hts (.fieldLink RX8 51 "NapkinSyntax" "before" "[I") (by decide +kernel)) (fun _ h => h) (v := .ref (E 17)) rfl dX8_read_203 ?_
            refine ct_Vv (VC_fix E cI cC) (ZC_ok E cI cC T) (ZC_bl E cI cC T) hZ S0 (kX6_copyFrom_b l D E cI cC (ZC E cI cC T) (ZC_ok E cI cC T) (ZC_bl E cI cC T) (fX7_empty Mx)  (fX6_copyFrom_b (fX7_empty Mx)) rfl) (cwV 1 hts gX8_read_X6_copyFrom rfl rfl rfl (by decide +kernel) ⟨(Nat.le_of_ble_eq_true rfl), (Nat.le_of_ble_eq_true rfl)⟩) hK hP hD hS rfl rfl VC_2 rfl hl.1 rfl (Nat.le_of_ble_eq_true rfl) dX8_read_206 ⟨(Nat.le_of_ble_eq_true rfl), (Nat.le_of_ble_eq_true rfl)⟩ (fun H locs hP hD hS => ?_)
            refine lv_aload_n hx hb dX8_read_209 rfl (lv_at hl 0 rfl) ?_
            refine z_bipush hx hb dX8_read_210 (by decide +kernel) ?_
            refine lv_iload_n hx hb dX8_read_212 rfl (lv_at hl 3 rfl) ?_
            refine z_iconst hx hb dX8_read_213 ?_
            refine z_isub hx hb dX8_read_214 ?_
            refine ct_Si (VC_fix E cI cC) (ZC_ok E cI cC T) (ZC_bl E cI cC T) hZ S0 (kX8_refusedFor l D E cI cC (ZC E cI cC T) (ZC_ok E cI cC T) (ZC_bl E cI cC T) (fX6_copyFrom_b (fX7_empty Mx)) (9) (number - (1))  (fX8_refusedFor (9) (number - (1))) rfl) (va_cwS 2 hts gX8_read_X8_refusedFor rfl rfl rfl (by decide +kernel) ⟨(Nat.le_of_ble_eq_true rfl), (Nat.le_of_ble_eq_true rfl)⟩) hK hP hD hS rfl hl.1 rfl (Nat.le_of_ble_eq_true rfl) dX8_read_215 ⟨(Nat.le_of_ble_eq_true rfl), (Nat.le_of_ble_eq_true rfl)⟩ (fun H locs hP hD hS => ?_)
            refine lv_iload_n hx hb dX8_read_218 rfl (lv_at hl 2 rfl) ?_
            refine z_iconst hx hb dX8_read_219 ?_
            refine z_mmax hx hb (hml.trans hl.1.symm) hown (hts (.methodLink RX8 306 Lib.Math.max.name) (by decide +kernel)) (hts (.static Lib.Math.max.name) (by decide +kernel)) (hts (.initialized "java/lang/Math") (by decide +kernel)) (hts (.code Lib.Math.max.name Lib.Math.max.code 2 (some .int)) (by decide +kernel)) (Nat.le_of_ble_eq_true rfl) (Nat.le_of_ble_eq_true rfl) (Nat.zero_le _) (Nat.zero_le _) (by omega) (by omega) dX8_read_220 ?_
            have q6 := zmax_r verdict (0)
            refine ct_Vv (VC_fix E cI cC) (ZC_ok E cI cC T) (ZC_bl E cI cC T) hZ S0 (kX8_refuse l D E cI cC (ZC E cI cC T) (ZC_ok E cI cC T) (ZC_bl E cI cC T) (fX6_copyFrom_b (fX7_empty Mx)) (fX8_refusedFor (9) (number - (1))) (zmax verdict (0))  (fX8_refuse (fX6_copyFrom_b (fX7_empty Mx)) (fX8_refusedFor (9) (number - (1))) (zmax verdict (0))) rfl) (cwV 2 hts gX8_read_X8_refuse rfl rfl rfl (by decide +kernel) ⟨(Nat.le_of_ble_eq_true rfl), (Nat.le_of_ble_eq_true rfl)⟩) hK hP hD hS rfl rfl VC_0 rfl hl.1 rfl (Nat.le_of_ble_eq_true rfl) dX8_read_223 ⟨(Nat.le_of_ble_eq_true rfl), (Nat.le_of_ble_eq_true rfl)⟩ (fun H locs hP hD hS => ?_)
            obtain ⟨e0, e1⟩ := Prod.mk.inj hE
            obtain ⟨-, e2⟩ := Prod.mk.inj e1
            subst e2
            exact cx_throwW (k := 3) rfl hx hb hst hts hown (by decide +kernel) xn_fit (by decide +kernel) (by decide +kernel) (ZC_t317 hZ) (fun w h => List.mem_cons_of_mem _ (List.mem_append_left _ (List.mem_append_right _ h))) xb_3 xg_3 (ZC_d1 hZ) (ZC_d2 hZ) (ZC_d3 hZ) (ZC_x3 hZ) (ZC_us hZ M) (ZC_ss hZ M) hS hP (hl.1.trans hml.symm) dX8_read_226 dX8_read_229 dX8_read_230 dX8_read_233 dX8_read_236 hout (Nat.le_of_ble_eq_true rfl) (Nat.le_of_ble_eq_true rfl) (Nat.le_of_ble_eq_true rfl) (Nat.le_of_ble_eq_true rfl) hlocks (by decide) e0 (Nat.le_of_ble_eq_true rfl) (Nat.le_of_ble_eq_true rfl)
        · rw [if_neg b4] at hE
          simp only [zq_c b4] at hl ⊢
          refine lv_ifnull hx hb dX8_read_67 ?_
          refine lv_iload_n hx hb dX8_read_70 rfl (lv_at hl 2 rfl) ?_
          refine z_if_ne hx hb dX8_read_71 (tgt := 187) rfl (by omega) (fun b7 => ?_) (fun b7 => ?_)
          · rw [if_neg b7] at hE
            refine lv_aload_n hx hb dX8_read_187 rfl (lv_at hl 0 rfl) ?_
            refine va_get (own := RX8) (ref := "NapkinSyntax") (C := RX8) (T := TX8) (N := 12) hx hb hts hinX8 hown hK hP 0 VC_0 rfl 4 (Nat.le_of_ble_eq_true rfl) (hts (.fieldLink RX8 38 "NapkinSyntax" "text" "LNapkinSyntax$Text;") (by decide +kernel)) (fun _ h => h) (v := .ref (E 13)) rfl dX8_read_188 ?_
            refine ct_Vv (VC_fix E cI cC) (ZC_ok E cI cC T) (ZC_bl E cI cC T) hZ S0 (kX7_empty l D E cI cC (ZC E cI cC T) (ZC_ok E cI cC T) (ZC_bl E cI cC T) Mx  (fX7_empty Mx) rfl) (cwV 0 hts gX8_read_X7_empty rfl rfl rfl (by decide +kernel) ⟨(Nat.le_of_ble_eq_true rfl), (Nat.le_of_ble_eq_true rfl)⟩) hK hP hD hS rfl rfl VC_13 rfl hl.1 rfl (Nat.le_of_ble_eq_true rfl) dX8_read_191 ⟨(Nat.le_of_ble_eq_true rfl), (Nat.le_of_ble_eq_true rfl)⟩ (fun H locs hP hD hS => ?_)
            refine lv_iload_n hx hb dX8_read_194 rfl (lv_at hl 2 rfl) ?_
            refine z_if_eq hx hb dX8_read_195 (tgt := 237) rfl (by omega) (fun b8 => ?_) (fun b8 => ?_)
            · rw [if_pos b8] at hE
              refine lv_aload_n hx hb dX8_read_237 rfl (lv_at hl 0 rfl) ?_
              refine va_get (own := RX8) (ref := "NapkinSyntax") (C := RX8) (T := TX8) (N := 12) hx hb hts hinX8 hown hK hP 0 VC_0 rfl 3 (Nat.le_of_ble_eq_true rfl) (hts (.fieldLink RX8 31 "NapkinSyntax" "history" "LNapkinSyntax$History;") (by decide +kernel)) (fun _ h => h) (v := .ref (E 11)) rfl dX8_read_238 ?_
              refine lv_aload_n hx hb dX8_read_241 rfl (lv_at hl 0 rfl) ?_
              refine va_get (own := RX8) (ref := "NapkinSyntax") (C := RX8) (T := TX8) (N := 12) hx hb hts hinX8 hown hK hP 0 VC_0 rfl 6 (Nat.le_of_ble_eq_true rfl) (hts (.fieldLink RX8 51 "NapkinSyntax" "before" "[I") (by decide +kernel)) (fun _ h => h) (v := .ref (E 17)) rfl dX8_read_242 ?_
              refine ct_Vv (VC_fix E cI cC) (ZC_ok E cI cC T) (ZC_bl E cI cC T) hZ S0 (kX2_push l D E cI cC (ZC E cI cC T) (ZC_ok E cI cC T) (ZC_bl E cI cC T) (fX7_empty Mx) (HN_of (fr_fX7_empty  rfl) jH) (fX2_push (fX7_empty Mx)) rfl) (cwV 1 hts gX8_read_X2_push rfl rfl rfl (by decide +kernel) ⟨(Nat.le_of_ble_eq_true rfl), (Nat.le_of_ble_eq_true rfl)⟩) hK hP hD hS rfl rfl VC_11 rfl hl.1 rfl (Nat.le_of_ble_eq_true rfl) dX8_read_245 ⟨(Nat.le_of_ble_eq_true rfl), (Nat.le_of_ble_eq_true rfl)⟩ (fun H locs hP hD hS => ?_)
              refine lv_iload_n hx hb dX8_read_248 rfl (lv_at hl 3 rfl) ?_
              obtain ⟨e0, e9⟩ := Prod.mk.inj hE
              obtain ⟨e1, e2⟩ := Prod.mk.inj e9
              subst e2
              exact cx_i hx hb hr hlocks e0 e1 rfl hS hP (Nat.le_of_ble_eq_true rfl) (Nat.le_of_ble_eq_true rfl) dX8_read_249
            · rw [if_neg b8] at hE
              refine lv_aload_n hx hb dX8_read_198 rfl (lv_at hl 0 rfl) ?_
              refine va_get (own := RX8) (ref := "NapkinSyntax") (C := RX8) (T := TX8) (N := 12) hx hb hts hinX8 hown hK hP 0 VC_0 rfl 1 (Nat.le_of_ble_eq_true rfl) (hts (.fieldLink RX8 20 "NapkinSyntax" "now" "LNapkinSyntax$State;") (by decide +kernel)) (fun _ h => h) (v := .ref (E 2)) rfl dX8_read_199 ?_
              refine lv_aload_n hx hb dX8_read_202 rfl (lv_at hl 0 rfl) ?_
              refine va_get (own := RX8) (ref := "NapkinSyntax") (C := RX8) (T := TX8) (N := 12) hx hb hts hinX8 hown hK hP 0 VC_0 rfl 6 (Nat.le_of_ble_eq_true rfl) (hts (.fieldLink RX8 51 "NapkinSyntax" "before" "[I") (by decide +kernel)) (fun _ h => h) (v := .ref (E 17)) rfl dX8_read_203 ?_
              refine ct_Vv (VC_fix E cI cC) (ZC_ok E cI cC T) (ZC_bl E cI cC T) hZ S0 (kX6_copyFrom_b l D E cI cC (ZC E cI cC T) (ZC_ok E cI cC T) (ZC_bl E cI cC T) (fX7_empty Mx)  (fX6_copyFrom_b (fX7_empty Mx)) rfl) (cwV 1 hts gX8_read_X6_copyFrom rfl rfl rfl (by decide +kernel) ⟨(Nat.le_of_ble_eq_true rfl), (Nat.le_of_ble_eq_true rfl)⟩) hK hP hD hS rfl rfl VC_2 rfl hl.1 rfl (Nat.le_of_ble_eq_true rfl) dX8_read_206 ⟨(Nat.le_of_ble_eq_true rfl), (Nat.le_of_ble_eq_true rfl)⟩ (fun H locs hP hD hS => ?_)
              refine lv_aload_n hx hb dX8_read_209 rfl (lv_at hl 0 rfl) ?_
              refine z_bipush hx hb dX8_read_210 (by decide +kernel) ?_
              refine lv_iload_n hx hb dX8_read_212 rfl (lv_at hl 3 rfl) ?_
              refine z_iconst hx hb dX8_read_213 ?_
              refine z_isub hx hb dX8_read_214 ?_
              refine ct_Si (VC_fix E cI cC) (ZC_ok E cI cC T) (ZC_bl E cI cC T) hZ S0 (kX8_refusedFor l D E cI cC (ZC E cI cC T) (ZC_ok E cI cC T) (ZC_bl E cI cC T) (fX6_copyFrom_b (fX7_empty Mx)) (9) (number - (1))  (fX8_refusedFor (9) (number - (1))) rfl) (va_cwS 2 hts gX8_read_X8_refusedFor rfl rfl rfl (by decide +kernel) ⟨(Nat.le_of_ble_eq_true rfl), (Nat.le_of_ble_eq_true rfl)⟩) hK hP hD hS rfl hl.1 rfl (Nat.le_of_ble_eq_true rfl) dX8_read_215 ⟨(Nat.le_of_ble_eq_true rfl), (Nat.le_of_ble_eq_true rfl)⟩ (fun H locs hP hD hS => ?_)
              refine lv_iload_n hx hb dX8_read_218 rfl (lv_at hl 2 rfl) ?_
              refine z_iconst hx hb dX8_read_219 ?_
              refine z_mmax hx hb (hml.trans hl.1.symm) hown (hts (.methodLink RX8 306 Lib.Math.max.name) (by decide +kernel)) (hts (.static Lib.Math.max.name) (by decide +kernel)) (hts (.initialized "java/lang/Math") (by decide +kernel)) (hts (.code Lib.Math.max.name Lib.Math.max.code 2 (some .int)) (by decide +kernel)) (Nat.le_of_ble_eq_true rfl) (Nat.le_of_ble_eq_true rfl) (Nat.zero_le _) (Nat.zero_le _) (by omega) (by omega) dX8_read_220 ?_
              have q9 := zmax_r verdict (0)
              refine ct_Vv (VC_fix E cI cC) (ZC_ok E cI cC T) (ZC_bl E cI cC T) hZ S0 (kX8_refuse l D E cI cC (ZC E cI cC T) (ZC_ok E cI cC T) (ZC_bl E cI cC T) (fX6_copyFrom_b (fX7_empty Mx)) (fX8_refusedFor (9) (number - (1))) (zmax verdict (0))  (fX8_refuse (fX6_copyFrom_b (fX7_empty Mx)) (fX8_refusedFor (9) (number - (1))) (zmax verdict (0))) rfl) (cwV 2 hts gX8_read_X8_refuse rfl rfl rfl (by decide +kernel) ⟨(Nat.le_of_ble_eq_true rfl), (Nat.le_of_ble_eq_true rfl)⟩) hK hP hD hS rfl rfl VC_0 rfl hl.1 rfl (Nat.le_of_ble_eq_true rfl) dX8_read_223 ⟨(Nat.le_of_ble_eq_true rfl), (Nat.le_of_ble_eq_true rfl)⟩ (fun H locs hP hD hS => ?_)
              obtain ⟨e0, e1⟩ := Prod.mk.inj hE
              obtain ⟨-, e2⟩ := Prod.mk.inj e1
              subst e2
              exact cx_throwW (k := 3) rfl hx hb hst hts hown (by decide +kernel) xn_fit (by decide +kernel) (by decide +kernel) (ZC_t317 hZ) (fun w h => List.mem_cons_of_mem _ (List.mem_append_left _ (List.mem_append_right _ h))) xb_3 xg_3 (ZC_d1 hZ) (ZC_d2 hZ) (ZC_d3 hZ) (ZC_x3 hZ) (ZC_us hZ M) (ZC_ss hZ M) hS hP (hl.1.trans hml.symm) dX8_read_226 dX8_read_229 dX8_read_230 dX8_read_233 dX8_read_236 hout (Nat.le_of_ble_eq_true rfl) (Nat.le_of_ble_eq_true rfl) (Nat.le_of_ble_eq_true rfl) (Nat.le_of_ble_eq_true rfl) hlocks (by decide) e0 (Nat.le_of_ble_eq_true rfl) (Nat.le_of_ble_eq_true rfl)
          · rw [if_pos b7] at hE
            refine lv_iload_n hx hb dX8_read_74 rfl (lv_at hl 3 rfl) ?_
            refine z_bipush hx hb dX8_read_75 (by decide +kernel) ?_
            refine z_icmp_ge hx hb dX8_read_77 (tgt := 187) rfl (by omega) (by omega) (fun b10 => ?_) (fun b10 => ?_)
            · rw [if_pos b10] at hE
              refine lv_aload_n hx hb dX8_read_187 rfl (lv_at hl 0 rfl) ?_
              refine va_get (own := RX8) (ref := "NapkinSyntax") (C := RX8) (T := TX8) (N := 12) hx hb hts hinX8 hown hK hP 0 VC_0 rfl 4 (Nat.le_of_ble_eq_true rfl) (hts (.fieldLink RX8 38 "NapkinSyntax" "text" "LNapkinSyntax$Text;") (by decide +kernel)) (fun _ h => h) (v := .ref (E 13)) rfl dX8_read_188 ?_
              refine ct_Vv (VC_fix E cI cC) (ZC_ok E cI cC T) (ZC_bl E cI cC T) hZ S0 (kX7_empty l D E cI cC (ZC E cI cC T) (ZC_ok E cI cC T) (ZC_bl E cI cC T) Mx  (fX7_empty Mx) rfl) (cwV 0 hts gX8_read_X7_empty rfl rfl rfl (by decide +kernel) ⟨(Nat.le_of_ble_eq_true rfl), (Nat.le_of_ble_eq_true rfl)⟩) hK hP hD hS rfl rfl VC_13 rfl hl.1 rfl (Nat.le_of_ble_eq_true rfl) dX8_read_191 ⟨(Nat.le_of_ble_eq_true rfl), (Nat.le_of_ble_eq_true rfl)⟩ (fun H locs hP hD hS => ?_)
              refine lv_iload_n hx hb dX8_read_194 rfl (lv_at hl 2 rfl) ?_
              refine z_if_eq hx hb dX8_read_195 (tgt := 237) rfl (by omega) (fun b11 => ?_) (fun b11 => ?_)
              · rw [if_pos b11] at hE
                refine lv_aload_n hx hb dX8_read_237 rfl (lv_at hl 0 rfl) ?_
                refine va_get (own := RX8) (ref := "NapkinSyntax") (C := RX8) (T := TX8) (N := 12) hx hb hts hinX8 hown hK hP 0 VC_0 rfl 3 (Nat.le_of_ble_eq_true rfl) (hts (.fieldLink RX8 31 "NapkinSyntax" "history" "LNapkinSyntax$History;") (by decide +kernel)) (fun _ h => h) (v := .ref (E 11)) rfl dX8_read_238 ?_
                refine lv_aload_n hx hb dX8_read_241 rfl (lv_at hl 0 rfl) ?_
                refine va_get (own := RX8) (ref := "NapkinSyntax") (C := RX8) (T := TX8) (N := 12) hx hb hts hinX8 hown hK hP 0 VC_0 rfl 6 (Nat.le_of_ble_eq_true rfl) (hts (.fieldLink RX8 51 "NapkinSyntax" "before" "[I") (by decide +kernel)) (fun _ h => h) (v := .ref (E 17)) rfl dX8_read_242 ?_
                refine ct_Vv (VC_fix E cI cC) (ZC_ok E cI cC T) (ZC_bl E cI cC T) hZ S0 (kX2_push l D E cI cC (ZC E cI cC T) (ZC_ok E cI cC T) (ZC_bl E cI cC T) (fX7_empty Mx) (HN_of (fr_fX7_empty  rfl) jH) (fX2_push (fX7_empty Mx)) rfl) (cwV 1 hts gX8_read_X2_push rfl rfl rfl (by decide +kernel) ⟨(Nat.le_of_ble_eq_true rfl), (Nat.le_of_ble_eq_true rfl)⟩) hK hP hD hS rfl rfl VC_11 rfl hl.1 rfl (Nat.le_of_ble_eq_true rfl) dX8_read_245 ⟨(Nat.le_of_ble_eq_true rfl), (Nat.le_of_ble_eq_true rfl)⟩ (fun H locs hP hD hS => ?_)
                refine lv_iload_n hx hb dX8_read_248 rfl (lv_at hl 3 rfl) ?_
                obtain ⟨e0, e9⟩ := Prod.mk.inj hE
                obtain ⟨e1, e2⟩ := Prod.mk.inj e9
                subst e2
                exact cx_i hx hb hr hlocks e0 e1 rfl hS hP (Nat.le_of_ble_eq_true rfl) (Nat.le_of_ble_eq_true rfl) dX8_read_249
              · rw [if_neg b11] at hE
                refine lv_aload_n hx hb dX8_read_198 rfl (lv_at hl 0 rfl) ?_
                refine va_get (own := RX8) (ref := "NapkinSyntax") (C := RX8) (T := TX8) (N := 12) hx hb hts hinX8 hown hK hP 0 VC_0 rfl 1 (Nat.le_of_ble_eq_true rfl) (hts (.fieldLink RX8 20 "NapkinSyntax" "now" "LNapkinSyntax$State;") (by decide +kernel)) (fun _ h => h) (v := .ref (E 2)) rfl dX8_read_199 ?_
                refine lv_aload_n hx hb dX8_read_202 rfl (lv_at hl 0 rfl) ?_
                refine va_get (own := RX8) (ref := "NapkinSyntax") (C := RX8) (T := TX8) (N := 12) hx hb hts hinX8 hown hK hP 0 VC_0 rfl 6 (Nat.le_of_ble_eq_true rfl) (hts (.fieldLink RX8 51 "NapkinSyntax" "before" "[I") (by decide +kernel)) (fun _ h => h) (v := .ref (E 17)) rfl dX8_read_203 ?_
                refine ct_Vv (VC_fix E cI cC) (ZC_ok E cI cC T) (ZC_bl E cI cC T) hZ S0 (kX6_copyFrom_b l D E cI cC (ZC E cI cC T) (ZC_ok E cI cC T) (ZC_bl E cI cC T) (fX7_empty Mx)  (fX6_copyFrom_b (fX7_empty Mx)) rfl) (cwV 1 hts gX8_read_X6_copyFrom rfl rfl rfl (by decide +kernel) ⟨(Nat.le_of_ble_eq_true rfl), (Nat.le_of_ble_eq_true rfl)⟩) hK hP hD hS rfl rfl VC_2 rfl hl.1 rfl (Nat.le_of_ble_eq_true rfl) dX8_read_206 ⟨(Nat.le_of_ble_eq_true rfl), (Nat.le_of_ble_eq_true rfl)⟩ (fun H locs hP hD hS => ?_)
                refine lv_aload_n hx hb dX8_read_209 rfl (lv_at hl 0 rfl) ?_
                refine z_bipush hx hb dX8_read_210 (by decide +kernel) ?_
                refine lv_iload_n hx hb dX8_read_212 rfl (lv_at hl 3 rfl) ?_
                refine z_iconst hx hb dX8_read_213 ?_
                refine z_isub hx hb dX8_read_214 ?_
                refine ct_Si (VC_fix E cI cC) (ZC_ok E cI cC T) (ZC_bl E cI cC T) hZ S0 (kX8_refusedFor l D E cI cC (ZC E cI cC T) (ZC_ok E cI cC T) (ZC_bl E cI cC T) (fX6_copyFrom_b (fX7_empty Mx)) (9) (number - (1))  (fX8_refusedFor (9) (number - (1))) rfl) (va_cwS 2 hts gX8_read_X8_refusedFor rfl rfl rfl (by decide +kernel) ⟨(Nat.le_of_ble_eq_true rfl), (Nat.le_of_ble_eq_true rfl)⟩) hK hP hD hS rfl hl.1 rfl (Nat.le_of_ble_eq_true rfl) dX8_read_215 ⟨(Nat.le_of_ble_eq_true rfl), (Nat.le_of_ble_eq_true rfl)⟩ (fun H locs hP hD hS => ?_)
                refine lv_iload_n hx hb dX8_read_218 rfl (lv_at hl 2 rfl) ?_
                refine z_iconst hx hb dX8_read_219 ?_
                refine z_mmax hx hb (hml.trans hl.1.symm) hown (hts (.methodLink RX8 306 Lib.Math.max.name) (by decide +kernel)) (hts (.static Lib.Math.max.name) (by decide +kernel)) (hts (.initialized "java/lang/Math") (by decide +kernel)) (hts (.code Lib.Math.max.name Lib.Math.max.code 2 (some .int)) (by decide +kernel)) (Nat.le_of_ble_eq_true rfl) (Nat.le_of_ble_eq_true rfl) (Nat.zero_le _) (Nat.zero_le _) (by omega) (by omega) dX8_read_220 ?_
                have q12 := zmax_r verdict (0)
                refine ct_Vv (VC_fix E cI cC) (ZC_ok E cI cC T) (ZC_bl E cI cC T) hZ S0 (kX8_refuse l D E cI cC (ZC E cI cC T) (ZC_ok E cI cC T) (ZC_bl E cI cC T) (fX6_copyFrom_b (fX7_empty Mx)) (fX8_refusedFor (9) (number - (1))) (zmax verdict (0))  (fX8_refuse (fX6_copyFrom_b (fX7_empty Mx)) (fX8_refusedFor (9) (number - (1))) (zmax verdict (0))) rfl) (cwV 2 hts gX8_read_X8_refuse rfl rfl rfl (by decide +kernel) ⟨(Nat.le_of_ble_eq_true rfl), (Nat.le_of_ble_eq_true rfl)⟩) hK hP hD hS rfl rfl VC_0 rfl hl.1 rfl (Nat.le_of_ble_eq_true rfl) dX8_read_223 ⟨(Nat.le_of_ble_eq_true rfl), (Nat.le_of_ble_eq_true rfl)⟩ (fun H locs hP hD hS => ?_)
                obtain ⟨e0, e1⟩ := Prod.mk.inj hE
                obtain ⟨-, e2⟩ := Prod.mk.inj e1
                subst e2
                exact cx_throwW (k := 3) rfl hx hb hst hts hown (by decide +kernel) xn_fit (by decide +kernel) (by decide +kernel) (ZC_t317 hZ) (fun w h => List.mem_cons_of_mem _ (List.mem_append_left _ (List.mem_append_right _ h))) xb_3 xg_3 (ZC_d1 hZ) (ZC_d2 hZ) (ZC_d3 hZ) (ZC_x3 hZ) (ZC_us hZ M) (ZC_ss hZ M) hS hP (hl.1.trans hml.symm) dX8_read_226 dX8_read_229 dX8_read_230 dX8_read_233 dX8_read_236 hout (Nat.le_of_ble_eq_true rfl) (Nat.le_of_ble_eq_true rfl) (Nat.le_of_ble_eq_true rfl) (Nat.le_of_ble_eq_true rfl) hlocks (by decide) e0 (Nat.le_of_ble_eq_true rfl) (Nat.le_of_ble_eq_true rfl)
            · rw [if_neg b10] at hE
              refine lv_aload_n hx hb dX8_read_80 rfl (lv_at hl 0 rfl) ?_
              refine va_get (own := RX8) (ref := "NapkinSyntax") (C := RX8) (T := TX8) (N := 12) hx hb hts hinX8 hown hK hP 0 VC_0 rfl 4 (Nat.le_of_ble_eq_true rfl) (hts (.fieldLink RX8 38 "NapkinSyntax" "text" "LNapkinSyntax$Text;") (by decide +kernel)) (fun _ h => h) (v := .ref (E 13)) rfl dX8_read_81 ?_
              refine lv_aload hx hb dX8_read_84 (lv_at hl 5 rfl) ?_
              refine lv_iload hx hb dX8_read_86 (lv_at hl 4 rfl) ?_
              refine z_iconst hx hb dX8_read_88 ?_
              refine ct_Vi (VC_fix E cI cC) (ZC_ok E cI cC T) (ZC_bl E cI cC T) hZ S0 (kX7_argument l D E cI cC T Mx co start (0) (by omega) (by omega) (by omega) jT (fX7_argument Mx co start (0)) rfl) (cwV 3 hts gX8_read_X7_argument rfl rfl rfl (by decide +kernel) ⟨(Nat.le_of_ble_eq_true rfl), (Nat.le_of_ble_eq_true rfl)⟩) hK hP hD hS rfl rfl VC_13 rfl hl.1 rfl (Nat.le_of_ble_eq_true rfl) dX8_read_89 ⟨(Nat.le_of_ble_eq_true rfl), (Nat.le_of_ble_eq_true rfl)⟩ (fun H locs hP hD hS => ?_)
              have q13 := rg_X7_argument Mx co start (0)
              refine lv_istore hx hb dX8_read_92 hl (Nat.le_of_ble_eq_true rfl) (lv' := [(6, .int (iI (fX7_argument Mx co start (0)))), (0, .ref (E 0)), (1, .int (iI (fX7_errorAt M))), (2, .int (iI verdict)), (3, .int (iI number)), (4, .int (iI start)), (5, .ref (T (co).toNat))]) rfl (fun ls hl => ?_)
              refine lv_aload_n hx hb dX8_read_94 rfl (lv_at hl 1 rfl) ?_
              refine va_get (own := RX8) (ref := "NapkinSyntax") (C := RX8) (T := TX8) (N := 12) hx hb hts hinX8 hown hK hP 0 VC_0 rfl 4 (Nat.le_of_ble_eq_true rfl) (hts (.fieldLink RX8 38 "NapkinSyntax" "text" "LNapkinSyntax$Text;") (by decide +kernel)) (fun _ h => h) (v := .ref (E 13)) rfl dX8_read_95 ?_
              refine lv_aload hx hb dX8_read_98 (lv_at hl 6 rfl) ?_
              refine lv_iload hx hb dX8_read_100 (lv_at hl 5 rfl) ?_
              refine z_iconst hx hb dX8_read_102 ?_
              refine ct_Vi (VC_fix E cI cC) (ZC_ok E cI cC T) (ZC_bl E cI cC T) hZ S0 (kX7_argument l D E cI cC T Mx co start (1) (by omega) (by omega) (by omega) jT (fX7_argument Mx co start (1)) rfl) (cwV 3 hts gX8_read_X7_argument rfl rfl rfl (by decide +kernel) ⟨(Nat.le_of_ble_eq_true rfl), (Nat.le_of_ble_eq_true rfl)⟩) hK hP hD hS rfl rfl VC_13 rfl hl.1 rfl (Nat.le_of_ble_eq_true rfl) dX8_read_103 ⟨(Nat.le_of_ble_eq_true rfl), (Nat.le_of_ble_eq_true rfl)⟩ (fun H locs hP hD hS => ?_)
              have q14 := rg_X7_argument Mx co start (1)
              refine lv_istore hx hb dX8_read_106 hl (Nat.le_of_ble_eq_true rfl) (lv' := [(7, .int (iI (fX7_argument Mx co start (1)))), (6, .int (iI (fX7_argument Mx co start (0)))), (0, .ref (E 0)), (1, .int (iI (fX7_errorAt M))), (2, .int (iI verdict)), (3, .int (iI number)), (4, .int (iI start)), (5, .ref (T (co).toNat))]) rfl (fun ls hl => ?_)
              refine lv_aload_n hx hb dX8_read_108 rfl (lv_at hl 2 rfl) ?_
              refine va_get (own := RX8) (ref := "NapkinSyntax") (C := RX8) (T := TX8) (N := 12) hx hb hts hinX8 hown hK hP 0 VC_0 rfl 4 (Nat.le_of_ble_eq_true rfl) (hts (.fieldLink RX8 38 "NapkinSyntax" "text" "LNapkinSyntax$Text;") (by decide +kernel)) (fun _ h => h) (v := .ref (E 13)) rfl dX8_read_109 ?_
              refine lv_aload hx hb dX8_read_112 (lv_at hl 7 rfl) ?_
              refine lv_iload hx hb dX8_read_114 (lv_at hl 6 rfl) ?_
              refine z_iconst hx hb dX8_read_116 ?_
              refine ct_Vi (VC_fix E cI cC) (ZC_ok E cI cC T) (ZC_bl E cI cC T) hZ S0 (kX7_argument l D E cI cC T Mx co start (2) (by omega) (by omega) (by omega) jT (fX7_argument Mx co start (2)) rfl) (cwV 3 hts gX8_read_X7_argument rfl rfl rfl (by decide +kernel) ⟨(Nat.le_of_ble_eq_true rfl), (Nat.le_of_ble_eq_true rfl)⟩) hK hP hD hS rfl rfl VC_13 rfl hl.1 rfl (Nat.le_of_ble_eq_true rfl) dX8_read_117 ⟨(Nat.le_of_ble_eq_true rfl), (Nat.le_of_ble_eq_true rfl)⟩ (fun H locs hP hD hS => ?_)
              have q15 := rg_X7_argument Mx co start (2)
              refine lv_istore hx hb dX8_read_120 hl (Nat.le_of_ble_eq_true rfl) (lv' := [(8, .int (iI (fX7_argument Mx co start (2)))), (7, .int (iI (fX7_argument Mx co start (1)))), (6, .int (iI (fX7_argument Mx co start (0)))), (0, .ref (E 0)), (1, .int (iI (fX7_errorAt M))), (2, .int (iI verdict)), (3, .int (iI number)), (4, .int (iI start)), (5, .ref (T (co).toNat))]) rfl (fun ls hl => ?_)
              refine lv_aload_n hx hb dX8_read_122 rfl (lv_at hl 3 rfl) ?_
              refine va_get (own := RX8) (ref := "NapkinSyntax") (C := RX8) (T := TX8) (N := 12) hx hb hts hinX8 hown hK hP 0 VC_0 rfl 0 (Nat.le_of_ble_eq_true rfl) (hts (.fieldLink RX8 10 "NapkinSyntax" "service" "LNapkinSyntax$Service;") (by decide +kernel)) (fun _ h => h) (v := .ref (E 1)) rfl dX8_read_123 ?_
              refine lv_aload hx hb dX8_read_126 (lv_at hl 8 rfl) ?_
              refine lv_iload hx hb dX8_read_128 (lv_at hl 2 rfl) ?_
              refine lv_iload hx hb dX8_read_130 (lv_at hl 1 rfl) ?_
              refine lv_iload hx hb dX8_read_132 (lv_at hl 0 rfl) ?_
              refine ct_Vi (VC_fix E cI cC) (ZC_ok E cI cC T) (ZC_bl E cI cC T) hZ S0 (kX5_judge l D E cI cC T Mx co (fX7_argument Mx co start (0)) (fX7_argument Mx co start (1)) (fX7_argument Mx co start (2)) (by omega) (by omega) (by omega) (by omega) jC jQ (fX5_judge Mx co (fX7_argument Mx co start (0)) (fX7_argument Mx co start (1)) (fX7_argument Mx co start (2))).1 (fX5_judge Mx co (fX7_argument Mx co start (0)) (fX7_argument Mx co start (1)) (fX7_argument Mx co start (2))).2 (Prod.ext rfl rfl)) (cwV 4 hts gX8_read_X5_judge rfl rfl rfl (by decide +kernel) ⟨(Nat.le_of_ble_eq_true rfl), (Nat.le_of_ble_eq_true rfl)⟩) hK hP hD hS rfl rfl VC_1 rfl hl.1 rfl (Nat.le_of_ble_eq_true rfl) dX8_read_134 ⟨(Nat.le_of_ble_eq_true rfl), (Nat.le_of_ble_eq_true rfl)⟩ (fun H locs hP hD hS => ?_)
              have q16 := rg_X5_judge jC co (fX7_argument Mx co start (0)) (fX7_argument Mx co start (1)) (fX7_argument Mx co start (2))
              refine lv_istore_n hx hb dX8_read_137 rfl hl (Nat.le_of_ble_eq_true rfl) (lv' := [(2, .int (iI (fX5_judge Mx co (fX7_argument Mx co start (0)) (fX7_argument Mx co start (1)) (fX7_argument Mx co start (2))).1)), (8, .int (iI (fX7_argument Mx co start (2)))), (7, .int (iI (fX7_argument Mx co start (1)))), (6, .int (iI (fX7_argument Mx co start (0)))), (0, .ref (E 0)), (1, .int (iI (fX7_errorAt M))), (3, .int (iI number)), (4, .int (iI start)), (5, .ref (T (co).toNat))]) rfl (fun ls hl => ?_)
              refine lv_iload_n hx hb dX8_read_138 rfl (lv_at hl 0 rfl) ?_
              refine z_if_ne hx hb dX8_read_139 (tgt := 158) rfl (by omega) (fun b17 => ?_) (fun b17 => ?_)
              · rw [if_neg b17] at hE
                refine z_iinc hx hb dX8_read_158 hl (k := 6) rfl (Nat.le_of_ble_eq_true rfl) (lv' := [(3, .int (iI (number + 1))), (2, .int (iI (fX5_judge Mx co (fX7_argument Mx co start (0)) (fX7_argument Mx co start (1)) (fX7_argument Mx co start (2))).1)), (8, .int (iI (fX7_argument Mx co start (2)))), (7, .int (iI (fX7_argument Mx co start (1)))), (6, .int (iI (fX7_argument Mx co start (0)))), (0, .ref (E 0)), (1, .int (iI (fX7_errorAt M))), (4, .int (iI start)), (5, .ref (T (co).toNat))]) rfl (fun ls hl => ?_)
                refine lv_iload hx hb dX8_read_161 (lv_at hl 7 rfl) ?_
                refine lv_aload hx hb dX8_read_163 (lv_at hl 8 rfl) ?_
                refine ct_Oi (VC_fix E cI cC) (ZC_ok E cI cC T) (ZC_bl E cI cC T) hZ S0 (kX1_length l D E cI cC T (fX5_judge Mx co (fX7_argument Mx co start (0)) (fX7_argument Mx co start (1)) (fX7_argument Mx co start (2))).2 co (by omega) (fX1_length co) rfl) (cwV 0 hts gX8_read_X1_length rfl rfl rfl (by decide +kernel) ⟨(Nat.le_of_ble_eq_true rfl), (Nat.le_of_ble_eq_true rfl)⟩) hK hP hD hS (va_Orecv (ZC_cmo hZ M (co).toNat (by omega)) hS) rfl hl.1 rfl (Nat.le_of_ble_eq_true rfl) dX8_read_165 ⟨(Nat.le_of_ble_eq_true rfl), (Nat.le_of_ble_eq_true rfl)⟩ (fun H locs hP hD hS => ?_)
                have q18 := rg_X1_length co
                refine z_iconst hx hb dX8_read_168 ?_
                refine z_iadd hx hb dX8_read_169 ?_
                refine z_iadd hx hb dX8_read_170 ?_
                refine lv_istore hx hb dX8_read_171 hl (Nat.le_of_ble_eq_true rfl) (lv' := [(4, .int (iI (start + ((fX1_length co) + (1))))), (3, .int (iI (number + 1))), (2, .int (iI (fX5_judge Mx co (fX7_argument Mx co start (0)) (fX7_argument Mx co start (1)) (fX7_argument Mx co start (2))).1)), (8, .int (iI (fX7_argument Mx co start (2)))), (7, .int (iI (fX7_argument Mx co start (1)))), (6, .int (iI (fX7_argument Mx co start (0)))), (0, .ref (E 0)), (1, .int (iI (fX7_errorAt M))), (5, .ref (T (co).toNat))]) rfl (fun ls hl => ?_)
                refine lv_aload_n hx hb dX8_read_173 rfl (lv_at hl 6 rfl) ?_
                refine va_get (own := RX8) (ref := "NapkinSyntax") (C := RX8) (T := TX8) (N := 12) hx hb hts hinX8 hown hK hP 0 VC_0 rfl 4 (Nat.le_of_ble_eq_true rfl) (hts (.fieldLink RX8 38 "NapkinSyntax" "text" "LNapkinSyntax$Text;") (by decide +kernel)) (fun _ h => h) (v := .ref (E 13)) rfl dX8_read_174 ?_
                refine lv_iload hx hb dX8_read_177 (lv_at hl 0 rfl) ?_
                refine ct_Vr (VC_fix E cI cC) (ZC_ok E cI cC T) (ZC_bl E cI cC T) hZ S0 (kX7_commandAt l D E cI cC T (fX5_judge Mx co (fX7_argument Mx co start (0)) (fX7_argument Mx co start (1)) (fX7_argument Mx co start (2))).2 (start + ((fX1_length co) + (1))) (by omega) (TI_of (fr_fX5_judge co (fX7_argument Mx co start (0)) (fX7_argument Mx co start (1)) (fX7_argument Mx co start (2)) rfl rfl rfl rfl rfl) (fr_fX5_judge co (fX7_argument Mx co start (0)) (fX7_argument Mx co start (1)) (fX7_argument Mx co start (2)) rfl rfl rfl rfl rfl) jT) (fX7_commandAt (fX5_judge Mx co (fX7_argument Mx co start (0)) (fX7_argument Mx co start (1)) (fX7_argument Mx co start (2))).2 (start + ((fX1_length co) + (1)))) rfl) (cwV 1 hts gX8_read_X7_commandAt rfl rfl rfl (by decide +kernel) ⟨(Nat.le_of_ble_eq_true rfl), (Nat.le_of_ble_eq_true rfl)⟩) hK hP hD hS rfl rfl VC_13 rfl hl.1 rfl (Nat.le_of_ble_eq_true rfl) dX8_read_179 ⟨(Nat.le_of_ble_eq_true rfl), (Nat.le_of_ble_eq_true rfl)⟩ (fun H locs hP hD hS => ?_)
                have q19 := rg_X7_commandAt (fX5_judge Mx co (fX7_argument Mx co start (0)) (fX7_argument Mx co start (1)) (fX7_argument Mx co start (2))).2 (start + ((fX1_length co) + (1)))
                refine z_astoreq hx hb dX8_read_182 hl (Nat.le_of_ble_eq_true rfl) (lv' := [(5, zq T (fX7_commandAt (fX5_judge Mx co (fX7_argument Mx co start (0)) (fX7_argument Mx co start (1)) (fX7_argument Mx co start (2))).2 (start + ((fX1_length co) + (1))))), (4, .int (iI (start + ((fX1_length co) + (1))))), (3, .int (iI (number + 1))), (2, .int (iI (fX5_judge Mx co (fX7_argument Mx co start (0)) (fX7_argument Mx co start (1)) (fX7_argument Mx co start (2))).1)), (8, .int (iI (fX7_argument Mx co start (2)))), (7, .int (iI (fX7_argument Mx co start (1)))), (6, .int (iI (fX7_argument Mx co start (0)))), (0, .ref (E 0)), (1, .int (iI (fX7_errorAt M)))]) rfl (fun ls hl => ?_)
                refine lv_goto hx hb dX8_read_184 (tgt := 65) rfl ?_
                exact ih1 (fX5_judge Mx co (fX7_argument Mx co start (0)) (fX7_argument Mx co start (1)) (fX7_argument Mx co start (2))).2 (fX5_judge Mx co (fX7_argument Mx co start (0)) (fX7_argument Mx co start (1)) (fX7_argument Mx co start (2))).1 (number + 1) (start + ((fX1_length co) + (1))) (fX7_commandAt (fX5_judge Mx co (fX7_argument Mx co start (0)) (fX7_argument Mx co start (1)) (fX7_argument Mx co start (2))).2 (start + ((fX1_length co) + (1)))) ls _ _ (lv_sub hl [7, 8, 3, 2, 1, 0] rfl) hP hD hS (by omega) (by omega) (by omega) (by omega) (CI_of0 (fr_fX5_judge co (fX7_argument Mx co start (0)) (fX7_argument Mx co start (1)) (fX7_argument Mx co start (2)) rfl rfl rfl rfl rfl) jC) (SI_judge jC jQ co (fX7_argument Mx co start (0)) (fX7_argument Mx co start (1)) (fX7_argument Mx co start (2))) (TI_of (fr_fX5_judge co (fX7_argument Mx co start (0)) (fX7_argument Mx co start (1)) (fX7_argument Mx co start (2)) rfl rfl rfl rfl rfl) (fr_fX5_judge co (fX7_argument Mx co start (0)) (fX7_argument Mx co start (1)) (fX7_argument Mx co start (2)) rfl rfl rfl rfl rfl) jT) (HN_of (fr_fX5_judge co (fX7_argument Mx co start (0)) (fX7_argument Mx co start (1)) (fX7_argument Mx co start (2)) rfl rfl rfl rfl rfl) jH) hE
              · rw [if_pos b17] at hE
                refine lv_aload_n hx hb dX8_read_142 rfl (lv_at hl 4 rfl) ?_
                refine va_get (own := RX8) (ref := "NapkinSyntax") (C := RX8) (T := TX8) (N := 12) hx hb hts hinX8 hown hK hP 0 VC_0 rfl 0 (Nat.le_of_ble_eq_true rfl) (hts (.fieldLink RX8 10 "NapkinSyntax" "service" "LNapkinSyntax$Service;") (by decide +kernel)) (fun _ h => h) (v := .ref (E 1)) rfl dX8_read_143 ?_
                refine lv_aload hx hb dX8_read_146 (lv_at hl 8 rfl) ?_
                refine lv_iload hx hb dX8_read_148 (lv_at hl 3 rfl) ?_
                refine lv_iload hx hb dX8_read_150 (lv_at hl 2 rfl) ?_
                refine lv_iload hx hb dX8_read_152 (lv_at hl 1 rfl) ?_
                refine ct_Vi (VC_fix E cI cC) (ZC_ok E cI cC T) (ZC_bl E cI cC T) hZ S0 (kX5_carryOut l D E cI cC T (fX5_judge Mx co (fX7_argument Mx co start (0)) (fX7_argument Mx co start (1)) (fX7_argument Mx co start (2))).2 co (fX7_argument Mx co start (0)) (fX7_argument Mx co start (1)) (fX7_argument Mx co start (2)) (by omega) (by omega) (by omega) (by omega) (CI_of0 (fr_fX5_judge co (fX7_argument Mx co start (0)) (fX7_argument Mx co start (1)) (fX7_argument Mx co start (2)) rfl rfl rfl rfl rfl) jC) (SI_judge jC jQ co (fX7_argument Mx co start (0)) (fX7_argument Mx co start (1)) (fX7_argument Mx co start (2))) (fun hs => judge_move jC (by assumption) hs) (fX5_carryOut (fX5_judge Mx co (fX7_argument Mx co start (0)) (fX7_argument Mx co start (1)) (fX7_argument Mx co start (2))).2 co (fX7_argument Mx co start (0)) (fX7_argument Mx co start (1)) (fX7_argument Mx co start (2))).1 (fX5_carryOut (fX5_judge Mx co (fX7_argument Mx co start (0)) (fX7_argument Mx co start (1)) (fX7_argument Mx co start (2))).2 co (fX7_argument Mx co start (0)) (fX7_argument Mx co start (1)) (fX7_argument Mx co start (2))).2 (Prod.ext rfl rfl)) (cwV 4 hts gX8_read_X5_carryOut rfl rfl rfl (by decide +kernel) ⟨(Nat.le_of_ble_eq_true rfl), (Nat.le_of_ble_eq_true rfl)⟩) hK hP hD hS rfl rfl VC_1 rfl hl.1 rfl (Nat.le_of_ble_eq_true rfl) dX8_read_154 ⟨(Nat.le_of_ble_eq_true rfl), (Nat.le_of_ble_eq_true rfl)⟩ (fun H locs hP hD hS => ?_)
                refine lv_pop hx hb dX8_read_157 rfl ?_
                refine z_iinc hx hb dX8_read_158 hl (k := 6) rfl (Nat.le_of_ble_eq_true rfl) (lv' := [(3, .int (iI (number + 1))), (2, .int (iI (fX5_judge Mx co (fX7_argument Mx co start (0)) (fX7_argument Mx co start (1)) (fX7_argument Mx co start (2))).1)), (8, .int (iI (fX7_argument Mx co start (2)))), (7, .int (iI (fX7_argument Mx co start (1)))), (6, .int (iI (fX7_argument Mx co start (0)))), (0, .ref (E 0)), (1, .int (iI (fX7_errorAt M))), (4, .int (iI start)), (5, .ref (T (co).toNat))]) rfl (fun ls hl => ?_)
                refine lv_iload hx hb dX8_read_161 (lv_at hl 7 rfl) ?_
                refine lv_aload hx hb dX8_read_163 (lv_at hl 8 rfl) ?_
                refine ct_Oi (VC_fix E cI cC) (ZC_ok E cI cC T) (ZC_bl E cI cC T) hZ S0 (kX1_length l D E cI cC T (fX5_carryOut (fX5_judge Mx co (fX7_argument Mx co start (0)) (fX7_argument Mx co start (1)) (fX7_argument Mx co start (2))).2 co (fX7_argument Mx co start (0)) (fX7_argument Mx co start (1)) (fX7_argument Mx co start (2))).2 co (by omega) (fX1_length co) rfl) (cwV 0 hts gX8_read_X1_length rfl rfl rfl (by decide +kernel) ⟨(Nat.le_of_ble_eq_true rfl), (Nat.le_of_ble_eq_true rfl)⟩) hK hP hD hS (va_Orecv (ZC_cmo hZ M (co).toNat (by omega)) hS) rfl hl.1 rfl (Nat.le_of_ble_eq_true rfl) dX8_read_165 ⟨(Nat.le_of_ble_eq_true rfl), (Nat.le_of_ble_eq_true rfl)⟩ (fun H locs hP hD hS => ?_)
                have q20 := rg_X1_length co
                refine z_iconst hx hb dX8_read_168 ?_
                refine z_iadd hx hb dX8_read_169 ?_
                refine z_iadd hx hb dX8_read_170 ?_
                refine lv_istore hx hb dX8_read_171 hl (Nat.le_of_ble_eq_true rfl) (lv' := [(4, .int (iI (start + ((fX1_length co) + (1))))), (3, .int (iI (number + 1))), (2, .int (iI (fX5_judge Mx co (fX7_argument Mx co start (0)) (fX7_argument Mx co start (1)) (fX7_argument Mx co start (2))).1)), (8, .int (iI (fX7_argument Mx co start (2)))), (7, .int (iI (fX7_argument Mx co start (1)))), (6, .int (iI (fX7_argument Mx co start (0)))), (0, .ref (E 0)), (1, .int (iI (fX7_errorAt M))), (5, .ref (T (co).toNat))]) rfl (fun ls hl => ?_)
                refine lv_aload_n hx hb dX8_read_173 rfl (lv_at hl 6 rfl) ?_
                refine va_get (own := RX8) (ref := "NapkinSyntax") (C := RX8) (T := TX8) (N := 12) hx hb hts hinX8 hown hK hP 0 VC_0 rfl 4 (Nat.le_of_ble_eq_true rfl) (hts (.fieldLink RX8 38 "NapkinSyntax" "text" "LNapkinSyntax$Text;") (by decide +kernel)) (fun _ h => h) (v := .ref (E 13)) rfl dX8_read_174 ?_
                refine lv_iload hx hb dX8_read_177 (lv_at hl 0 rfl) ?_
                refine ct_Vr (VC_fix E cI cC) (ZC_ok E cI cC T) (ZC_bl E cI cC T) hZ S0 (kX7_commandAt l D E cI cC T (fX5_carryOut (fX5_judge Mx co (fX7_argument Mx co start (0)) (fX7_argument Mx co start (1)) (fX7_argument Mx co start (2))).2 co (fX7_argument Mx co start (0)) (fX7_argument Mx co start (1)) (fX7_argument Mx co start (2))).2 (start + ((fX1_length co) + (1))) (by omega) (TI_of (fr_fX5_carryOut co (fX7_argument Mx co start (0)) (fX7_argument Mx co start (1)) (fX7_argument Mx co start (2)) rfl rfl rfl rfl rfl rfl) (fr_fX5_carryOut co (fX7_argument Mx co start (0)) (fX7_argument Mx co start (1)) (fX7_argument Mx co start (2)) rfl rfl rfl rfl rfl rfl) (TI_of (fr_fX5_judge co (fX7_argument Mx co start (0)) (fX7_argument Mx co start (1)) (fX7_argument Mx co start (2)) rfl rfl rfl rfl rfl) (fr_fX5_judge co (fX7_argument Mx co start (0)) (fX7_argument Mx co start (1)) (fX7_argument Mx co start (2)) rfl rfl rfl rfl rfl) jT)) (fX7_commandAt (fX5_carryOut (fX5_judge Mx co (fX7_argument Mx co start (0)) (fX7_argument Mx co start (1)) (fX7_argument Mx co start (2))).2 co (fX7_argument Mx co start (0)) (fX7_argument Mx co start (1)) (fX7_argument Mx co start (2))).2 (start + ((fX1_length co) + (1)))) rfl) (cwV 1 hts gX8_read_X7_commandAt rfl rfl rfl (by decide +kernel) ⟨(Nat.le_of_ble_eq_true rfl), (Nat.le_of_ble_eq_true rfl)⟩) hK hP hD hS rfl rfl VC_13 rfl hl.1 rfl (Nat.le_of_ble_eq_true rfl) dX8_read_179 ⟨(Nat.le_of_ble_eq_true rfl), (Nat.le_of_ble_eq_true rfl)⟩ (fun H locs hP hD hS => ?_)
                have q21 := rg_X7_commandAt (fX5_carryOut (fX5_judge Mx co (fX7_argument Mx co start (0)) (fX7_argument Mx co start (1)) (fX7_argument Mx co start (2))).2 co (fX7_argument Mx co start (0)) (fX7_argument Mx co start (1)) (fX7_argument Mx co start (2))).2 (start + ((fX1_length co) + (1)))
                refine z_astoreq hx hb dX8_read_182 hl (Nat.le_of_ble_eq_true rfl) (lv' := [(5, zq T (fX7_commandAt (fX5_carryOut (fX5_judge Mx co (fX7_argument Mx co start (0)) (fX7_argument Mx co start (1)) (fX7_argument Mx co start (2))).2 co (fX7_argument Mx co start (0)) (fX7_argument Mx co start (1)) (fX7_argument Mx co start (2))).2 (start + ((fX1_length co) + (1))))), (4, .int (iI (start + ((fX1_length co) + (1))))), (3, .int (iI (number + 1))), (2, .int (iI (fX5_judge Mx co (fX7_argument Mx co start (0)) (fX7_argument Mx co start (1)) (fX7_argument Mx co start (2))).1)), (8, .int (iI (fX7_argument Mx co start (2)))), (7, .int (iI (fX7_argument Mx co start (1)))), (6, .int (iI (fX7_argument Mx co start (0)))), (0, .ref (E 0)), (1, .int (iI (fX7_errorAt M)))]) rfl (fun ls hl => ?_)
                refine lv_goto hx hb dX8_read_184 (tgt := 65) rfl ?_
                exact ih1 (fX5_carryOut (fX5_judge Mx co (fX7_argument Mx co start (0)) (fX7_argument Mx co start (1)) (fX7_argument Mx co start (2))).2 co (fX7_argument Mx co start (0)) (fX7_argument Mx co start (1)) (fX7_argument Mx co start (2))).2 (fX5_judge Mx co (fX7_argument Mx co start (0)) (fX7_argument Mx co start (1)) (fX7_argument Mx co start (2))).1 (number + 1) (start + ((fX1_length co) + (1))) (fX7_commandAt (fX5_carryOut (fX5_judge Mx co (fX7_argument Mx co start (0)) (fX7_argument Mx co start (1)) (fX7_argument Mx co start (2))).2 co (fX7_argument Mx co start (0)) (fX7_argument Mx co start (1)) (fX7_argument Mx co start (2))).2 (start + ((fX1_length co) + (1)))) ls _ _ (lv_sub hl [7, 8, 3, 2, 1, 0] rfl) hP hD hS (by omega) (by omega) (by omega) (by omega) (CI_carryOut jC (judge_0 _ _ _ _ _) (by assumption)) (SI_carryOut (CI_of0 (fr_fX5_judge co (fX7_argument Mx co start (0)) (fX7_argument Mx co start (1)) (fX7_argument Mx co start (2)) rfl rfl rfl rfl rfl) jC) (SI_judge jC jQ co (fX7_argument Mx co start (0)) (fX7_argument Mx co start (1)) (fX7_argument Mx co start (2))) co (fX7_argument Mx co start (0)) (fX7_argument Mx co start (1)) (fX7_argument Mx co start (2))) (TI_of (fr_fX5_carryOut co (fX7_argument Mx co start (0)) (fX7_argument Mx co start (1)) (fX7_argument Mx co start (2)) rfl rfl rfl rfl rfl rfl) (fr_fX5_carryOut co (fX7_argument Mx co start (0)) (fX7_argument Mx co start (1)) (fX7_argument Mx co start (2)) rfl rfl rfl rfl rfl rfl) (TI_of (fr_fX5_judge co (fX7_argument Mx co start (0)) (fX7_argument Mx co start (1)) (fX7_argument Mx co start (2)) rfl rfl rfl rfl rfl) (fr_fX5_judge co (fX7_argument Mx co start (0)) (fX7_argument Mx co start (1)) (fX7_argument Mx co start (2)) rfl rfl rfl rfl rfl) jT)) (HN_of (fr_fX5_carryOut co (fX7_argument Mx co start (0)) (fX7_argument Mx co start (1)) (fX7_argument Mx co start (2)) rfl rfl rfl rfl rfl rfl) (HN_of (fr_fX5_judge co (fX7_argument Mx co start (0)) (fX7_argument Mx co start (1)) (fX7_argument Mx co start (2)) rfl rfl rfl rfl rfl) jH)) hE
    exact L1 62 (fX6_copyTo_b M) (0) (0) (0) (fX7_commandAt (fX6_copyTo_b M) (0)) ls _ _ (lv_sub hl [5, 4, 3, 2, 1, 0] rfl) hP hD hS (by omega) (by omega) (by omega) (by omega) (CI_of0 (fr_fX6_copyTo_b rfl) hC) (SI_of (fr_fX6_copyTo_b rfl) (fr_fX6_copyTo_b rfl) (fr_fX6_copyTo_b rfl) (fr_fX6_copyTo_b rfl) (fr_fX6_copyTo_b rfl) hQ) (TI_of (fr_fX6_copyTo_b rfl) (fr_fX6_copyTo_b rfl) hT) (HN_of (fr_fX6_copyTo_b rfl) hH) hE
  · rw [if_neg b2] at hE
    refine lv_aload_n hx hb dX8_read_13 rfl (lv_at hl 1 rfl) ?_
    refine va_get (own := RX8) (ref := "NapkinSyntax") (C := RX8) (T := TX8) (N := 12) hx hb hts hinX8 hown hK hP 0 VC_0 rfl 4 (Nat.le_of_ble_eq_true rfl) (hts (.fieldLink RX8 38 "NapkinSyntax" "text" "LNapkinSyntax$Text;") (by decide +kernel)) (fun _ h => h) (v := .ref (E 13)) rfl dX8_read_14 ?_
    refine ct_Vv (VC_fix E cI cC) (ZC_ok E cI cC T) (ZC_bl E cI cC T) hZ S0 (kX7_empty l D E cI cC (ZC E cI cC T) (ZC_ok E cI cC T) (ZC_bl E cI cC T) M  (fX7_empty M) rfl) (cwV 0 hts gX8_read_X7_empty rfl rfl rfl (by decide +kernel) ⟨(Nat.le_of_ble_eq_true rfl), (Nat.le_of_ble_eq_true rfl)⟩) hK hP hD hS rfl rfl VC_13 rfl hl.1 rfl (Nat.le_of_ble_eq_true rfl) dX8_read_17 ⟨(Nat.le_of_ble_eq_true rfl), (Nat.le_of_ble_eq_true rfl)⟩ (fun H locs hP hD hS => ?_)
    refine lv_aload_n hx hb dX8_read_20 rfl (lv_at hl 1 rfl) ?_
    refine lv_iload_n hx hb dX8_read_21 rfl (lv_at hl 0 rfl) ?_
    refine va_put (own := RX8) (ref := "NapkinSyntax") (C := RX8) (T := TX8) (N := 12) hx hb hts hinX8 tyX8 tyX8_ok nmX8 hown hK hP hD hS 0 VC_0 rfl 9 (Nat.le_of_ble_eq_true rfl) (hts (.fieldLink RX8 62 "NapkinSyntax" "malformedAt" "I") (by decide +kernel)) (fun _ h => h) rfl (ty := .int) (v := .int (iI (fX7_errorAt M))) (by decide +kernel) rfl rfl (Nat.le_of_ble_eq_true rfl) dX8_read_22 (fun H locs hP hD hS => ?_)
    rw [VCf_17] at hP hD
    obtain ⟨e0, e1⟩ := Prod.mk.inj hE
    obtain ⟨-, e2⟩ := Prod.mk.inj e1
    subst e2
    exact cx_throwW (k := 2) rfl hx hb hst hts hown (by decide +kernel) xn_fit (by decide +kernel) (by decide +kernel) (ZC_t279 hZ) (fun w h => List.mem_cons_of_mem _ (List.mem_append_left _ (List.mem_append_left _ (List.mem_append_right _ h)))) xb_2 xg_2 (ZC_d1 hZ) (ZC_d2 hZ) (ZC_d3 hZ) (ZC_x2 hZ) (ZC_us hZ M) (ZC_ss hZ M) hS hP (hl.1.trans hml.symm) dX8_read_25 dX8_read_28 dX8_read_29 dX8_read_32 dX8_read_35 hout (Nat.le_of_ble_eq_true rfl) (Nat.le_of_ble_eq_true rfl) (Nat.le_of_ble_eq_true rfl) (Nat.le_of_ble_eq_true rfl) hlocks (by decide) e0 (Nat.le_of_ble_eq_true rfl) (Nat.le_of_ble_eq_true rfl)

theorem fr_fX8_read_L1 (M : Mem) {r : Nat} (h0 : Nat.beq r 0 = false) (h1 : Nat.beq r 1 = false) (h2 : Nat.beq r 2 = false) (h3 : Nat.beq r 3 = false) (h4 : Nat.beq r 4 = false) (h7 : Nat.beq r 7 = false) (h8 : Nat.beq r 8 = false) (h9 : Nat.beq r 9 = false) (h11 : Nat.beq r 11 = false) (h14 : Nat.beq r 14 = false) (h17 : Nat.beq r 17 = false) (h18 : Nat.beq r 18 = false) (h19 : Nat.beq r 19 = false) : ∀ (k : Nat) (Mx : Mem) (verdict number start co : Int), (fX8_read_L1 M k Mx verdict number start co).2.2 r = Mx r := by
  intro k
  induction k with
  | zero => intros; rfl
  | succ k ih =>
    intro Mx verdict number start co
    rw [fX8_read_L1]
    (repeat' with_reducible refine frite_x (fun _ => ?_) (fun _ => ?_)) <;> first | with_reducible rfl | simp only [ih, mst_o, msf_o, mcp_o, fr_fX2_push, fr_fX5_carryOut, fr_fX5_judge, fr_fX6_copyFrom_b, fr_fX6_copyTo_b, fr_fX7_empty, fr_fX8_refuse, h0, h1, h2, h3, h4, h7, h8, h9, h11, h14, h17, h18, h19]
theorem fr_fX8_read {M : Mem} {r : Nat} (h0 : Nat.beq r 0 = false) (h1 : Nat.beq r 1 = false) (h2 : Nat.beq r 2 = false) (h3 : Nat.beq r 3 = false) (h4 : Nat.beq r 4 = false) (h7 : Nat.beq r 7 = false) (h8 : Nat.beq r 8 = false) (h9 : Nat.beq r 9 = false) (h11 : Nat.beq r 11 = false) (h14 : Nat.beq r 14 = false) (h17 : Nat.beq r 17 = false) (h18 : Nat.beq r 18 = false) (h19 : Nat.beq r 19 = false) : (fX8_read M).2.2 r = M r := by
  unfold fX8_read
  (repeat' with_reducible refine frite_x (fun _ => ?_) (fun _ => ?_)) <;> first | with_reducible rfl | simp only [mst_o, msf_o, mcp_o, fr_fX2_push, fr_fX5_carryOut, fr_fX5_judge, fr_fX6_copyFrom_b, fr_fX6_copyTo_b, fr_fX7_empty, fr_fX8_refuse, h0, h1, h2, h3, h4, h7, h8, h9, h11, h14, h17, h18, h19, fr_fX8_read_L1]
