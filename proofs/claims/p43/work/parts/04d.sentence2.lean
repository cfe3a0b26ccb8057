/-! the class Sentence: what it writes -/

theorem laid_le {M : Mem} (h : CI M) (t : Int) : fX6_laidOn M t ≤ 6 := (rg_X6_laidOn h t).2

def fX4_hear_L1 (M : Mem) (table : Int) : Nat → Mem → Int → (Mem)
  | 0, Mx, _ => Mx
  | k1 + 1, Mx, place => if ((fX6_laidOn Mx table) ≤ place) then Mx else if ((fX6_foldOf Mx (fX6_seatedAt Mx table place)) = 0) then fX4_hear_L1 M table k1 Mx (place + 1) else if ((6) ≤ (Mx 7 0)) then fX4_hear_L1 M table k1 Mx (place + 1) else fX4_hear_L1 M table k1 (msf (mst (mst (mst (mst Mx 1 (Mx 7 0) (fX6_seatedAt Mx table place)) 2 (Mx 7 0) (fX6_foldOf Mx (fX6_seatedAt Mx table place))) 3 (Mx 7 0) (fX6_colourOf Mx (fX6_seatedAt Mx table place))) 4 (Mx 7 0) (fX6_stainsOf Mx (fX6_seatedAt Mx table place))) 7 ((Mx 7 0) + (1))) (place + 1)
def fX4_hear (M : Mem) (table : Int) : Mem := fX4_hear_L1 M table 8 (msf M 7 (0)) (0)
set_option maxRecDepth 100000 in
set_option maxHeartbeats 4000000 in
theorem kX4_hear (l : Launch) (D : va_G) (E : Nat → Nat) (cI cC : ClassId) (Z : State → Prop) (hZo : ∀ M : Mem, ZOk (VC E cI cC M) Z) (hZb : ZBl Z) (M : Mem) (table : Int) (h1 : -2147483648 ≤ table ∧ table < 2147483648) (hC : CI M) (M' : Mem) (hE : fX4_hear M table = M') : Cv l yX4_hear wsX4_hear 2 43 [.ref (E 4), .ref (E 2), .int (iI table)] D (TY cI cC) (VC E cI cC) Z M M' := by
  refine Cv.of (cc := cX4_hear) (maxL := 5) (ret := none) (by decide +kernel) rfl (Nat.le_of_ble_eq_true rfl) ?_
  intro p e s m args below meth c ls hx hb hml hr hown hts hlocks hP hK hD hZ hS hl
  have hl : lv_has ls 5 [(0, .ref (E 4)), (1, .ref (E 2)), (2, .int (iI table))] := hl
  have S0 : CallFix p m c cX4_hear 5 s args wsX4_hear RX4 := ⟨hx, hb, hml, hown, hts⟩
  have hinX4 : ∀ w ∈ u_ws RX4 TX4 7, w ∈ wsX4_hear := by decide +kernel
  rw [fX4_hear] at hE
  refine lv_aload_n hx hb dX4_hear_0 rfl (lv_at hl 0 rfl) ?_
  refine z_iconst hx hb dX4_hear_1 ?_
  refine va_put (own := RX4) (ref := "NapkinSyntax$Sentence") (C := RX4) (T := TX4) (N := 7) hx hb hts hinX4 tyX4 tyX4_ok nmX4 hown hK hP hD hS 4 VC_4 rfl 6 (Nat.le_of_ble_eq_true rfl) (hts (.fieldLink RX4 30 "NapkinSyntax$Sentence" "size" "I") (by decide +kernel)) (fun _ h => h) rfl (ty := .int) (v := .int (iI (0))) (by decide +kernel) rfl rfl (Nat.le_of_ble_eq_true rfl) dX4_hear_2 (fun H locs hP hD hS => ?_)
  rw [VCf_7] at hP hD
  refine z_iconst hx hb dX4_hear_5 ?_
  refine lv_istore_n hx hb dX4_hear_6 rfl hl (Nat.le_of_ble_eq_true rfl) (lv' := [(3, .int (iI (0))), (0, .ref (E 4)), (1, .ref (E 2)), (2, .int (iI table))]) rfl (fun ls hl => ?_)
  have L1 : ∀ (k1 : Nat) (Mx : Mem) (place : Int) (ls : Array Slot) (H : Heap) (locs : List Loc), lv_has ls 5 [(0, .ref (E 4)), (1, .ref (E 2)), (2, .int (iI table)), (3, .int (iI place))] → va_P D vwCl (VC E cI cC Mx) H → va_D (wA (VC E cI cC M)) (VC E cI cC Mx) → va_S (wA (VC E cI cC M)) s.heap H locs → (0 ≤ place ∧ place ≤ 6) → (CI Mx) → (0 ≤ Mx 7 0 ∧ Mx 7 0 ≤ place) → (fX6_laidOn Mx table - place < (k1 : Int) ∧ 0 < (k1 : Int)) → fX4_hear_L1 M table k1 Mx place = M' → W p l e (zRm 2 43) s m args below meth c H locs 0 0 (MQ below (cvQ D (VC E cI cC) M M') args s 0 0 (wA (VC E cI cC M))) (F0 m 7 ls []) := by
    intro k1
    induction k1 with
    | zero => intro Mx place ls H locs hl hP hD hS i1 jC jn i3 hE; exfalso; omega
    | succ k1 ih1 =>
      intro Mx place ls H locs hl hP hD hS i1 jC jn i3 hE
      have q98 := rg_X6_laidOn jC table
      rw [fX4_hear_L1] at hE
      refine lv_iload_n hx hb dX4_hear_7 rfl (lv_at hl 3 rfl) ?_
      refine lv_aload_n hx hb dX4_hear_8 rfl (lv_at hl 1 rfl) ?_
      refine lv_iload_n hx hb dX4_hear_9 rfl (lv_at hl 2 rfl) ?_
      refine ct_Vi (VC_fix E cI cC) hZo hZb hZ S0 (kX6_laidOn l D E cI cC Z hZo hZb Mx table (by omega) (fX6_laidOn Mx table) rfl) (cwV 1 hts gX4_hear_X6_laidOn rfl rfl rfl (by decide +kernel) ⟨(Nat.le_of_ble_eq_true rfl), (Nat.le_of_ble_eq_true rfl)⟩) hK hP hD hS rfl rfl VC_2 rfl hl.1 rfl (Nat.le_of_ble_eq_true rfl) dX4_hear_10 ⟨Nat.zero_le _, Nat.zero_le _⟩ (fun H locs hP hD hS => ?_)
      have q1 := rg_X6_laidOn jC table
      refine z_icmp_ge hx hb dX4_hear_13 (tgt := 114) rfl (by omega) (by omega) (fun b2 => ?_) (fun b2 => ?_)
      · rw [if_pos b2] at hE
        subst hE
        exact cv_v hx hb hr hlocks hS hP dX4_hear_114
      · rw [if_neg b2] at hE
        refine lv_aload_n hx hb dX4_hear_16 rfl (lv_at hl 1 rfl) ?_
        refine lv_iload_n hx hb dX4_hear_17 rfl (lv_at hl 2 rfl) ?_
        refine lv_iload_n hx hb dX4_hear_18 rfl (lv_at hl 3 rfl) ?_
        refine ct_Vi (VC_fix E cI cC) hZo hZb hZ S0 (kX6_seatedAt l D E cI cC Z hZo hZb Mx table place (by omega) (by omega) (fX6_seatedAt Mx table place) rfl) (cwV 2 hts gX4_hear_X6_seatedAt rfl rfl rfl (by decide +kernel) ⟨(Nat.le_of_ble_eq_true rfl), (Nat.le_of_ble_eq_true rfl)⟩) hK hP hD hS rfl rfl VC_2 rfl hl.1 rfl (Nat.le_of_ble_eq_true rfl) dX4_hear_19 ⟨Nat.zero_le _, Nat.zero_le _⟩ (fun H locs hP hD hS => ?_)
        have q3 := rg_X6_seatedAt jC table place
        refine lv_istore hx hb dX4_hear_22 hl (Nat.le_of_ble_eq_true rfl) (lv' := [(4, .int (iI (fX6_seatedAt Mx table place))), (0, .ref (E 4)), (1, .ref (E 2)), (2, .int (iI table)), (3, .int (iI place))]) rfl (fun ls hl => ?_)
        refine lv_aload_n hx hb dX4_hear_24 rfl (lv_at hl 2 rfl) ?_
        refine lv_iload hx hb dX4_hear_25 (lv_at hl 0 rfl) ?_
        refine ct_Vi (VC_fix E cI cC) hZo hZb hZ S0 (kX6_foldOf l D E cI cC Z hZo hZb Mx (fX6_seatedAt Mx table place) (by omega) (fX6_foldOf Mx (fX6_seatedAt Mx table place)) rfl) (cwV 1 hts gX4_hear_X6_foldOf rfl rfl rfl (by decide +kernel) ⟨(Nat.le_of_ble_eq_true rfl), (Nat.le_of_ble_eq_true rfl)⟩) hK hP hD hS rfl rfl VC_2 rfl hl.1 rfl (Nat.le_of_ble_eq_true rfl) dX4_hear_27 ⟨Nat.zero_le _, Nat.zero_le _⟩ (fun H locs hP hD hS => ?_)
        have q4 := rg_X6_foldOf jC (fX6_seatedAt Mx table place)
        refine z_if_eq hx hb dX4_hear_30 (tgt := 108) rfl (by omega) (fun b5 => ?_) (fun b5 => ?_)
        · rw [if_pos b5] at hE
          refine z_iinc hx hb dX4_hear_108 hl (k := 4) rfl (Nat.le_of_ble_eq_true rfl) (lv' := [(3, .int (iI (place + 1))), (4, .int (iI (fX6_seatedAt Mx table place))), (0, .ref (E 4)), (1, .ref (E 2)), (2, .int (iI table))]) rfl (fun ls hl => ?_)
          refine lv_goto hx hb dX4_hear_111 (tgt := 7) rfl ?_
          exact ih1 Mx (place + 1) ls _ _ (lv_sub hl [2, 3, 4, 0] rfl) hP hD hS (by omega) jC (by first | omega | (show 0 ≤ Mx 7 0 + 1 ∧ Mx 7 0 + 1 ≤ place + 1; omega)) (by show fX6_laidOn Mx table - (place + 1) < _ ∧ _; omega) hE
        · rw [if_neg b5] at hE
          refine lv_aload_n hx hb dX4_hear_33 rfl (lv_at hl 1 rfl) ?_
          refine va_get (own := RX4) (ref := "NapkinSyntax$Sentence") (C := RX4) (T := TX4) (N := 7) hx hb hts hinX4 hown hK hP 4 VC_4 rfl 6 (Nat.le_of_ble_eq_true rfl) (hts (.fieldLink RX4 30 "NapkinSyntax$Sentence" "size" "I") (by decide +kernel)) (fun _ h => h) (v := .int (iI (Mx 7 0))) rfl dX4_hear_34 ?_
          have q6 := jn
          refine z_bipush hx hb dX4_hear_37 (by decide +kernel) ?_
          refine z_icmp_ge hx hb dX4_hear_39 (tgt := 108) rfl (by omega) (by omega) (fun b7 => ?_) (fun b7 => ?_)
          · rw [if_pos b7] at hE
            refine z_iinc hx hb dX4_hear_108 hl (k := 4) rfl (Nat.le_of_ble_eq_true rfl) (lv' := [(3, .int (iI (place + 1))), (4, .int (iI (fX6_seatedAt Mx table place))), (0, .ref (E 4)), (1, .ref (E 2)), (2, .int (iI table))]) rfl (fun ls hl => ?_)
            refine lv_goto hx hb dX4_hear_111 (tgt := 7) rfl ?_
            exact ih1 Mx (place + 1) ls _ _ (lv_sub hl [2, 3, 4, 0] rfl) hP hD hS (by omega) jC (by first | omega | (show 0 ≤ Mx 7 0 + 1 ∧ Mx 7 0 + 1 ≤ place + 1; omega)) (by show fX6_laidOn Mx table - (place + 1) < _ ∧ _; omega) hE
          · rw [if_neg b7] at hE
            refine lv_aload_n hx hb dX4_hear_42 rfl (lv_at hl 1 rfl) ?_
            refine va_get (own := RX4) (ref := "NapkinSyntax$Sentence") (C := RX4) (T := TX4) (N := 7) hx hb hts hinX4 hown hK hP 4 VC_4 rfl 0 (Nat.le_of_ble_eq_true rfl) (hts (.fieldLink RX4 9 "NapkinSyntax$Sentence" "napkins" "[I") (by decide +kernel)) (fun _ h => h) (v := .ref (E 5)) rfl dX4_hear_43 ?_
            refine lv_aload_n hx hb dX4_hear_46 rfl (lv_at hl 1 rfl) ?_
            refine va_get (own := RX4) (ref := "NapkinSyntax$Sentence") (C := RX4) (T := TX4) (N := 7) hx hb hts hinX4 hown hK hP 4 VC_4 rfl 6 (Nat.le_of_ble_eq_true rfl) (hts (.fieldLink RX4 30 "NapkinSyntax$Sentence" "size" "I") (by decide +kernel)) (fun _ h => h) (v := .int (iI (Mx 7 0))) rfl dX4_hear_47 ?_
            have q8 := jn
            refine lv_iload hx hb dX4_hear_50 (lv_at hl 0 rfl) ?_
            refine z_iast hx hb hK hP hD hS 5 0 VC_5 rfl (by omega) (by omega) (by decide) dX4_hear_52 VCw_1 (fun H locs hP hD hS => ?_)
            refine lv_aload_n hx hb dX4_hear_53 rfl (lv_at hl 1 rfl) ?_
            refine va_get (own := RX4) (ref := "NapkinSyntax$Sentence") (C := RX4) (T := TX4) (N := 7) hx hb hts hinX4 hown hK hP 4 VC_4 rfl 1 (Nat.le_of_ble_eq_true rfl) (hts (.fieldLink RX4 15 "NapkinSyntax$Sentence" "folds" "[I") (by decide +kernel)) (fun _ h => h) (v := .ref (E 6)) rfl dX4_hear_54 ?_
            refine lv_aload_n hx hb dX4_hear_57 rfl (lv_at hl 1 rfl) ?_
            refine va_get (own := RX4) (ref := "NapkinSyntax$Sentence") (C := RX4) (T := TX4) (N := 7) hx hb hts hinX4 hown hK hP 4 VC_4 rfl 6 (Nat.le_of_ble_eq_true rfl) (hts (.fieldLink RX4 30 "NapkinSyntax$Sentence" "size" "I") (by decide +kernel)) (fun _ h => h) (v := .int (iI (Mx 7 0))) rfl dX4_hear_58 ?_
            have q9 := jn
            refine lv_aload_n hx hb dX4_hear_61 rfl (lv_at hl 2 rfl) ?_
            refine lv_iload hx hb dX4_hear_62 (lv_at hl 0 rfl) ?_
            refine ct_Vi (VC_fix E cI cC) hZo hZb hZ S0 (kX6_foldOf l D E cI cC Z hZo hZb (mst Mx 1 (Mx 7 0) (fX6_seatedAt Mx table place)) (fX6_seatedAt Mx table place) (by omega) (fX6_foldOf Mx (fX6_seatedAt Mx table place)) rfl) (cwV 1 hts gX4_hear_X6_foldOf rfl rfl rfl (by decide +kernel) ⟨(Nat.le_of_ble_eq_true rfl), (Nat.le_of_ble_eq_true rfl)⟩) hK hP hD hS rfl rfl VC_2 rfl hl.1 rfl (Nat.le_of_ble_eq_true rfl) dX4_hear_64 ⟨Nat.zero_le _, Nat.zero_le _⟩ (fun H locs hP hD hS => ?_)
            have q10 := rg_X6_foldOf jC (fX6_seatedAt Mx table place)
            refine z_iast hx hb hK hP hD hS 6 0 VC_6 rfl (by omega) (by omega) (by decide) dX4_hear_67 VCw_2 (fun H locs hP hD hS => ?_)
            refine lv_aload_n hx hb dX4_hear_68 rfl (lv_at hl 1 rfl) ?_
            refine va_get (own := RX4) (ref := "NapkinSyntax$Sentence") (C := RX4) (T := TX4) (N := 7) hx hb hts hinX4 hown hK hP 4 VC_4 rfl 2 (Nat.le_of_ble_eq_true rfl) (hts (.fieldLink RX4 18 "NapkinSyntax$Sentence" "colours" "[I") (by decide +kernel)) (fun _ h => h) (v := .ref (E 7)) rfl dX4_hear_69 ?_
            refine lv_aload_n hx hb dX4_hear_72 rfl (lv_at hl 1 rfl) ?_
            refine va_get (own := RX4) (ref := "NapkinSyntax$Sentence") (C := RX4) (T := TX4) (N := 7) hx hb hts hinX4 hown hK hP 4 VC_4 rfl 6 (Nat.le_of_ble_eq_true rfl) (hts (.fieldLink RX4 30 "NapkinSyntax$Sentence" "size" "I") (by decide +kernel)) (fun _ h => h) (v := .int (iI (Mx 7 0))) rfl dX4_hear_73 ?_
            have q11 := jn
            refine lv_aload_n hx hb dX4_hear_76 rfl (lv_at hl 2 rfl) ?_
            refine lv_iload hx hb dX4_hear_77 (lv_at hl 0 rfl) ?_
            refine ct_Vi (VC_fix E cI cC) hZo hZb hZ S0 (kX6_colourOf l D E cI cC Z hZo hZb (mst (mst Mx 1 (Mx 7 0) (fX6_seatedAt Mx table place)) 2 (Mx 7 0) (fX6_foldOf Mx (fX6_seatedAt Mx table place))) (fX6_seatedAt Mx table place) (by omega) (fX6_colourOf Mx (fX6_seatedAt Mx table place)) rfl) (cwV 1 hts gX4_hear_X6_colourOf rfl rfl rfl (by decide +kernel) ⟨(Nat.le_of_ble_eq_true rfl), (Nat.le_of_ble_eq_true rfl)⟩) hK hP hD hS rfl rfl VC_2 rfl hl.1 rfl (Nat.le_of_ble_eq_true rfl) dX4_hear_79 ⟨Nat.zero_le _, Nat.zero_le _⟩ (fun H locs hP hD hS => ?_)
            have q12 := rg_X6_colourOf jC (fX6_seatedAt Mx table place)
            refine z_iast hx hb hK hP hD hS 7 0 VC_7 rfl (by omega) (by omega) (by decide) dX4_hear_82 VCw_3 (fun H locs hP hD hS => ?_)
            refine lv_aload_n hx hb dX4_hear_83 rfl (lv_at hl 1 rfl) ?_
            refine va_get (own := RX4) (ref := "NapkinSyntax$Sentence") (C := RX4) (T := TX4) (N := 7) hx hb hts hinX4 hown hK hP 4 VC_4 rfl 3 (Nat.le_of_ble_eq_true rfl) (hts (.fieldLink RX4 21 "NapkinSyntax$Sentence" "stains" "[I") (by decide +kernel)) (fun _ h => h) (v := .ref (E 8)) rfl dX4_hear_84 ?_
            refine lv_aload_n hx hb dX4_hear_87 rfl (lv_at hl 1 rfl) ?_
            refine va_get (own := RX4) (ref := "NapkinSyntax$Sentence") (C := RX4) (T := TX4) (N := 7) hx hb hts hinX4 hown hK hP 4 VC_4 rfl 6 (Nat.le_of_ble_eq_true rfl) (hts (.fieldLink RX4 30 "NapkinSyntax$Sentence" "size" "I") (by decide +kernel)) (fun _ h => h) (v := .int (iI (Mx 7 0))) rfl dX4_hear_88 ?_
            have q13 := jn
            refine lv_aload_n hx hb dX4_hear_91 rfl (lv_at hl 2 rfl) ?_
            refine lv_iload hx hb dX4_hear_92 (lv_at hl 0 rfl) ?_
            refine ct_Vi (VC_fix E cI cC) hZo hZb hZ S0 (kX6_stainsOf l D E cI cC Z hZo hZb (mst (mst (mst Mx 1 (Mx 7 0) (fX6_seatedAt Mx table place)) 2 (Mx 7 0) (fX6_foldOf Mx (fX6_seatedAt Mx table place))) 3 (Mx 7 0) (fX6_colourOf Mx (fX6_seatedAt Mx table place))) (fX6_seatedAt Mx table place) (by omega) (fX6_stainsOf Mx (fX6_seatedAt Mx table place)) rfl) (cwV 1 hts gX4_hear_X6_stainsOf rfl rfl rfl (by decide +kernel) ⟨(Nat.le_of_ble_eq_true rfl), (Nat.le_of_ble_eq_true rfl)⟩) hK hP hD hS rfl rfl VC_2 rfl hl.1 rfl (Nat.le_of_ble_eq_true rfl) dX4_hear_94 ⟨Nat.zero_le _, Nat.zero_le _⟩ (fun H locs hP hD hS => ?_)
            have q14 := rg_X6_stainsOf jC (fX6_seatedAt Mx table place)
            refine z_iast hx hb hK hP hD hS 8 0 VC_8 rfl (by omega) (by omega) (by decide) dX4_hear_97 VCw_4 (fun H locs hP hD hS => ?_)
            refine lv_aload_n hx hb dX4_hear_98 rfl (lv_at hl 1 rfl) ?_
            refine lv_dup hx hb dX4_hear_99 rfl ?_
            refine va_get (own := RX4) (ref := "NapkinSyntax$Sentence") (C := RX4) (T := TX4) (N := 7) hx hb hts hinX4 hown hK hP 4 VC_4 rfl 6 (Nat.le_of_ble_eq_true rfl) (hts (.fieldLink RX4 30 "NapkinSyntax$Sentence" "size" "I") (by decide +kernel)) (fun _ h => h) (v := .int (iI (Mx 7 0))) rfl dX4_hear_100 ?_
            have q15 := jn
            refine z_iconst hx hb dX4_hear_103 ?_
            refine z_iadd hx hb dX4_hear_104 ?_
            refine va_put (own := RX4) (ref := "NapkinSyntax$Sentence") (C := RX4) (T := TX4) (N := 7) hx hb hts hinX4 tyX4 tyX4_ok nmX4 hown hK hP hD hS 4 VC_4 rfl 6 (Nat.le_of_ble_eq_true rfl) (hts (.fieldLink RX4 30 "NapkinSyntax$Sentence" "size" "I") (by decide +kernel)) (fun _ h => h) rfl (ty := .int) (v := .int (iI ((Mx 7 0) + (1)))) (by decide +kernel) rfl rfl (Nat.le_of_ble_eq_true rfl) dX4_hear_105 (fun H locs hP hD hS => ?_)
            rw [VCf_7] at hP hD
            refine z_iinc hx hb dX4_hear_108 hl (k := 4) rfl (Nat.le_of_ble_eq_true rfl) (lv' := [(3, .int (iI (place + 1))), (4, .int (iI (fX6_seatedAt Mx table place))), (0, .ref (E 4)), (1, .ref (E 2)), (2, .int (iI table))]) rfl (fun ls hl => ?_)
            refine lv_goto hx hb dX4_hear_111 (tgt := 7) rfl ?_
            exact ih1 (msf (mst (mst (mst (mst Mx 1 (Mx 7 0) (fX6_seatedAt Mx table place)) 2 (Mx 7 0) (fX6_foldOf Mx (fX6_seatedAt Mx table place))) 3 (Mx 7 0) (fX6_colourOf Mx (fX6_seatedAt Mx table place))) 4 (Mx 7 0) (fX6_stainsOf Mx (fX6_seatedAt Mx table place))) 7 ((Mx 7 0) + (1))) (place + 1) ls _ _ (lv_sub hl [2, 3, 4, 0] rfl) hP hD hS (by omega) jC (by first | omega | (show 0 ≤ Mx 7 0 + 1 ∧ Mx 7 0 + 1 ≤ place + 1; omega)) (by show fX6_laidOn Mx table - (place + 1) < _ ∧ _; omega) hE
  exact L1 8 (msf M 7 (0)) (0) ls _ _ (lv_sub hl [1, 2, 3, 0] rfl) hP hD hS (by omega) hC ⟨(by decide : (0 : Int) ≤ 0), (by decide : (0 : Int) ≤ 0)⟩ ⟨(by have := laid_le hC table; show fX6_laidOn M table - 0 < 8; omega), by decide⟩ hE

theorem fr_fX4_hear_L1 (M : Mem) (table : Int) {r : Nat} (h1 : Nat.beq r 1 = false) (h2 : Nat.beq r 2 = false) (h3 : Nat.beq r 3 = false) (h4 : Nat.beq r 4 = false) (h7 : Nat.beq r 7 = false) : ∀ (k : Nat) (Mx : Mem) (place : Int), (fX4_hear_L1 M table k Mx place) r = Mx r := by
  intro k
  induction k with
  | zero => intros; rfl
  | succ k ih =>
    intro Mx place
    rw [fX4_hear_L1]
    (repeat' with_reducible refine frite_v (fun _ => ?_) (fun _ => ?_)) <;> first | with_reducible rfl | simp only [ih, mst_o, msf_o, mcp_o, h1, h2, h3, h4, h7]
theorem fr_fX4_hear {M : Mem} (table : Int) {r : Nat} (h1 : Nat.beq r 1 = false) (h2 : Nat.beq r 2 = false) (h3 : Nat.beq r 3 = false) (h4 : Nat.beq r 4 = false) (h7 : Nat.beq r 7 = false) : (fX4_hear M table) r = M r := by
  unfold fX4_hear
  (repeat' with_reducible refine frite_v (fun _ => ?_) (fun _ => ?_)) <;> first | with_reducible rfl | simp only [mst_o, msf_o, mcp_o, h1, h2, h3, h4, h7, fr_fX4_hear_L1]

def fJ6_bitCount_0f7a4 (i : Int) : Int := (zand (((zand (((zand (i - (zand (zush i (1)) (1431655765))) (858993459)) + (zand (zush (i - (zand (zush i (1)) (1431655765))) (2)) (858993459))) + (zush ((zand (i - (zand (zush i (1)) (1431655765))) (858993459)) + (zand (zush (i - (zand (zush i (1)) (1431655765))) (2)) (858993459))) (4))) (252645135)) + (zush (zand (((zand (i - (zand (zush i (1)) (1431655765))) (858993459)) + (zand (zush (i - (zand (zush i (1)) (1431655765))) (2)) (858993459))) + (zush ((zand (i - (zand (zush i (1)) (1431655765))) (858993459)) + (zand (zush (i - (zand (zush i (1)) (1431655765))) (2)) (858993459))) (4))) (252645135)) (8))) + (zush ((zand (((zand (i - (zand (zush i (1)) (1431655765))) (858993459)) + (zand (zush (i - (zand (zush i (1)) (1431655765))) (2)) (858993459))) + (zush ((zand (i - (zand (zush i (1)) (1431655765))) (858993459)) + (zand (zush (i - (zand (zush i (1)) (1431655765))) (2)) (858993459))) (4))) (252645135)) + (zush (zand (((zand (i - (zand (zush i (1)) (1431655765))) (858993459)) + (zand (zush (i - (zand (zush i (1)) (1431655765))) (2)) (858993459))) + (zush ((zand (i - (zand (zush i (1)) (1431655765))) (858993459)) + (zand (zush (i - (zand (zush i (1)) (1431655765))) (2)) (858993459))) (4))) (252645135)) (8))) (16))) (63))
set_option maxRecDepth 100000 in
set_option maxHeartbeats 4000000 in
theorem kJ6_bitCount_0f7a4 (l : Launch) (D : va_G) (E : Nat → Nat) (cI cC : ClassId) (Z : State → Prop) (hZo : ∀ M : Mem, ZOk (VC E cI cC M) Z) (hZb : ZBl Z) (M : Mem) (i : Int) (h1 : -2147483648 ≤ i ∧ i < 2147483648) (r : Int) (hE : fJ6_bitCount_0f7a4 i = r) : Ci l yJ6_bitCount_0f7a4 wsJ6_bitCount_0f7a4 0 0 [.int (iI i)] D (TY cI cC) (VC E cI cC) Z M r M := by
  refine Ci.of (cc := cJ6_bitCount_0f7a4) (maxL := 1) (ret := (some .int)) (by decide +kernel) rfl (Nat.le_of_ble_eq_true rfl) ?_
  intro p e s m args below meth c ls hx hb hml hr hown hts hlocks hP hK hD hZ hS hl
  have hl : lv_has ls 1 [(0, .int (iI i))] := hl
  have S0 : CallFix p m c cJ6_bitCount_0f7a4 1 s args wsJ6_bitCount_0f7a4 RJ6 := ⟨hx, hb, hml, hown, hts⟩
  rw [fJ6_bitCount_0f7a4] at hE
  refine lv_iload_n hx hb dJ6_bitCount_0f7a4_0 rfl (lv_at hl 0 rfl) ?_
  refine lv_iload_n hx hb dJ6_bitCount_0f7a4_1 rfl (lv_at hl 0 rfl) ?_
  refine z_iconst hx hb dJ6_bitCount_0f7a4_2 ?_
  refine z_iushr hx hb dJ6_bitCount_0f7a4_3 ?_
  have q1 := zush_I i (1)
  refine z_ldc_w (n := (1431655765)) hx hb hown (hts (.constant RJ6 265 (1431655765)) (by decide +kernel)) (by decide +kernel) dJ6_bitCount_0f7a4_4 ?_
  refine z_iand hx hb dJ6_bitCount_0f7a4_7 ?_
  have q2 := zand_I (zush i (1)) (1431655765)
  refine z_isub hx hb dJ6_bitCount_0f7a4_8 ?_
  refine lv_istore_n hx hb dJ6_bitCount_0f7a4_9 rfl hl (Nat.le_of_ble_eq_true rfl) (lv' := [(0, .int (iI (i - (zand (zush i (1)) (1431655765)))))]) rfl (fun ls hl => ?_)
  refine lv_iload_n hx hb dJ6_bitCount_0f7a4_10 rfl (lv_at hl 0 rfl) ?_
  refine z_ldc_w (n := (858993459)) hx hb hown (hts (.constant RJ6 266 (858993459)) (by decide +kernel)) (by decide +kernel) dJ6_bitCount_0f7a4_11 ?_
  refine z_iand hx hb dJ6_bitCount_0f7a4_14 ?_
  have q3 := zand_I (i - (zand (zush i (1)) (1431655765))) (858993459)
  refine lv_iload_n hx hb dJ6_bitCount_0f7a4_15 rfl (lv_at hl 0 rfl) ?_
  refine z_iconst hx hb dJ6_bitCount_0f7a4_16 ?_
  refine z_iushr hx hb dJ6_bitCount_0f7a4_17 ?_
  have q4 := zush_I (i - (zand (zush i (1)) (1431655765))) (2)
  refine z_ldc_w (n := (858993459)) hx hb hown (hts (.constant RJ6 266 (858993459)) (by decide +kernel)) (by decide +kernel) dJ6_bitCount_0f7a4_18 ?_
  refine z_iand hx hb dJ6_bitCount_0f7a4_21 ?_
  have q5 := zand_I (zush (i - (zand (zush i (1)) (1431655765))) (2)) (858993459)
  refine z_iadd hx hb dJ6_bitCount_0f7a4_22 ?_
  refine lv_istore_n hx hb dJ6_bitCount_0f7a4_23 rfl hl (Nat.le_of_ble_eq_true rfl) (lv' := [(0, .int (iI ((zand (i - (zand (zush i (1)) (1431655765))) (858993459)) + (zand (zush (i - (zand (zush i (1)) (1431655765))) (2)) (858993459)))))]) rfl (fun ls hl => ?_)
  refine lv_iload_n hx hb dJ6_bitCount_0f7a4_24 rfl (lv_at hl 0 rfl) ?_
  refine lv_iload_n hx hb dJ6_bitCount_0f7a4_25 rfl (lv_at hl 0 rfl) ?_
  refine z_iconst hx hb dJ6_bitCount_0f7a4_26 ?_
  refine z_iushr hx hb dJ6_bitCount_0f7a4_27 ?_
  have q6 := zush_I ((zand (i - (zand (zush i (1)) (1431655765))) (858993459)) + (zand (zush (i - (zand (zush i (1)) (1431655765))) (2)) (858993459))) (4)
  refine z_iadd hx hb dJ6_bitCount_0f7a4_28 ?_
  refine z_ldc_w (n := (252645135)) hx hb hown (hts (.constant RJ6 267 (252645135)) (by decide +kernel)) (by decide +kernel) dJ6_bitCount_0f7a4_29 ?_
  refine z_iand hx hb dJ6_bitCount_0f7a4_32 ?_
  have q7 := zand_I (((zand (i - (zand (zush i (1)) (1431655765))) (858993459)) + (zand (zush (i - (zand (zush i (1)) (1431655765))) (2)) (858993459))) + (zush ((zand (i - (zand (zush i (1)) (1431655765))) (858993459)) + (zand (zush (i - (zand (zush i (1)) (1431655765))) (2)) (858993459))) (4))) (252645135)
  refine lv_istore_n hx hb dJ6_bitCount_0f7a4_33 rfl hl (Nat.le_of_ble_eq_true rfl) (lv' := [(0, .int (iI (zand (((zand (i - (zand (zush i (1)) (1431655765))) (858993459)) + (zand (zush (i - (zand (zush i (1)) (1431655765))) (2)) (858993459))) + (zush ((zand (i - (zand (zush i (1)) (1431655765))) (858993459)) + (zand (zush (i - (zand (zush i (1)) (1431655765))) (2)) (858993459))) (4))) (252645135))))]) rfl (fun ls hl => ?_)
  refine lv_iload_n hx hb dJ6_bitCount_0f7a4_34 rfl (lv_at hl 0 rfl) ?_
  refine lv_iload_n hx hb dJ6_bitCount_0f7a4_35 rfl (lv_at hl 0 rfl) ?_
  refine z_bipush hx hb dJ6_bitCount_0f7a4_36 (by decide +kernel) ?_
  refine z_iushr hx hb dJ6_bitCount_0f7a4_38 ?_
  have q8 := zush_I (zand (((zand (i - (zand (zush i (1)) (1431655765))) (858993459)) + (zand (zush (i - (zand (zush i (1)) (1431655765))) (2)) (858993459))) + (zush ((zand (i - (zand (zush i (1)) (1431655765))) (858993459)) + (zand (zush (i - (zand (zush i (1)) (1431655765))) (2)) (858993459))) (4))) (252645135)) (8)
  refine z_iadd hx hb dJ6_bitCount_0f7a4_39 ?_
  refine lv_istore_n hx hb dJ6_bitCount_0f7a4_40 rfl hl (Nat.le_of_ble_eq_true rfl) (lv' := [(0, .int (iI ((zand (((zand (i - (zand (zush i (1)) (1431655765))) (858993459)) + (zand (zush (i - (zand (zush i (1)) (1431655765))) (2)) (858993459))) + (zush ((zand (i - (zand (zush i (1)) (1431655765))) (858993459)) + (zand (zush (i - (zand (zush i (1)) (1431655765))) (2)) (858993459))) (4))) (252645135)) + (zush (zand (((zand (i - (zand (zush i (1)) (1431655765))) (858993459)) + (zand (zush (i - (zand (zush i (1)) (1431655765))) (2)) (858993459))) + (zush ((zand (i - (zand (zush i (1)) (1431655765))) (858993459)) + (zand (zush (i - (zand (zush i (1)) (1431655765))) (2)) (858993459))) (4))) (252645135)) (8)))))]) rfl (fun ls hl => ?_)
  refine lv_iload_n hx hb dJ6_bitCount_0f7a4_41 rfl (lv_at hl 0 rfl) ?_
  refine lv_iload_n hx hb dJ6_bitCount_0f7a4_42 rfl (lv_at hl 0 rfl) ?_
  refine z_bipush hx hb dJ6_bitCount_0f7a4_43 (by decide +kernel) ?_
  refine z_iushr hx hb dJ6_bitCount_0f7a4_45 ?_
  have q9 := zush_I ((zand (((zand (i - (zand (zush i (1)) (1431655765))) (858993459)) + (zand (zush (i - (zand (zush i (1)) (1431655765))) (2)) (858993459))) + (zush ((zand (i - (zand (zush i (1)) (1431655765))) (858993459)) + (zand (zush (i - (zand (zush i (1)) (1431655765))) (2)) (858993459))) (4))) (252645135)) + (zush (zand (((zand (i - (zand (zush i (1)) (1431655765))) (858993459)) + (zand (zush (i - (zand (zush i (1)) (1431655765))) (2)) (858993459))) + (zush ((zand (i - (zand (zush i (1)) (1431655765))) (858993459)) + (zand (zush (i - (zand (zush i (1)) (1431655765))) (2)) (858993459))) (4))) (252645135)) (8))) (16)
  refine z_iadd hx hb dJ6_bitCount_0f7a4_46 ?_
  refine lv_istore_n hx hb dJ6_bitCount_0f7a4_47 rfl hl (Nat.le_of_ble_eq_true rfl) (lv' := [(0, .int (iI (((zand (((zand (i - (zand (zush i (1)) (1431655765))) (858993459)) + (zand (zush (i - (zand (zush i (1)) (1431655765))) (2)) (858993459))) + (zush ((zand (i - (zand (zush i (1)) (1431655765))) (858993459)) + (zand (zush (i - (zand (zush i (1)) (1431655765))) (2)) (858993459))) (4))) (252645135)) + (zush (zand (((zand (i - (zand (zush i (1)) (1431655765))) (858993459)) + (zand (zush (i - (zand (zush i (1)) (1431655765))) (2)) (858993459))) + (zush ((zand (i - (zand (zush i (1)) (1431655765))) (858993459)) + (zand (zush (i - (zand (zush i (1)) (1431655765))) (2)) (858993459))) (4))) (252645135)) (8))) + (zush ((zand (((zand (i - (zand (zush i (1)) (1431655765))) (858993459)) + (zand (zush (i - (zand (zush i (1)) (1431655765))) (2)) (858993459))) + (zush ((zand (i - (zand (zush i (1)) (1431655765))) (858993459)) + (zand (zush (i - (zand (zush i (1)) (1431655765))) (2)) (858993459))) (4))) (252645135)) + (zush (zand (((zand (i - (zand (zush i (1)) (1431655765))) (858993459)) + (zand (zush (i - (zand (zush i (1)) (1431655765))) (2)) (858993459))) + (zush ((zand (i - (zand (zush i (1)) (1431655765))) (858993459)) + (zand (zush (i - (zand (zush i (1)) (1431655765))) (2)) (858993459))) (4))) (252645135)) (8))) (16)))))]) rfl (fun ls hl => ?_)
  refine lv_iload_n hx hb dJ6_bitCount_0f7a4_48 rfl (lv_at hl 0 rfl) ?_
  refine z_bipush hx hb dJ6_bitCount_0f7a4_49 (by decide +kernel) ?_
  refine z_iand hx hb dJ6_bitCount_0f7a4_51 ?_
  have q10 := zand_I (((zand (((zand (i - (zand (zush i (1)) (1431655765))) (858993459)) + (zand (zush (i - (zand (zush i (1)) (1431655765))) (2)) (858993459))) + (zush ((zand (i - (zand (zush i (1)) (1431655765))) (858993459)) + (zand (zush (i - (zand (zush i (1)) (1431655765))) (2)) (858993459))) (4))) (252645135)) + (zush (zand (((zand (i - (zand (zush i (1)) (1431655765))) (858993459)) + (zand (zush (i - (zand (zush i (1)) (1431655765))) (2)) (858993459))) + (zush ((zand (i - (zand (zush i (1)) (1431655765))) (858993459)) + (zand (zush (i - (zand (zush i (1)) (1431655765))) (2)) (858993459))) (4))) (252645135)) (8))) + (zush ((zand (((zand (i - (zand (zush i (1)) (1431655765))) (858993459)) + (zand (zush (i - (zand (zush i (1)) (1431655765))) (2)) (858993459))) + (zush ((zand (i - (zand (zush i (1)) (1431655765))) (858993459)) + (zand (zush (i - (zand (zush i (1)) (1431655765))) (2)) (858993459))) (4))) (252645135)) + (zush (zand (((zand (i - (zand (zush i (1)) (1431655765))) (858993459)) + (zand (zush (i - (zand (zush i (1)) (1431655765))) (2)) (858993459))) + (zush ((zand (i - (zand (zush i (1)) (1431655765))) (858993459)) + (zand (zush (i - (zand (zush i (1)) (1431655765))) (2)) (858993459))) (4))) (252645135)) (8))) (16))) (63)
  exact ci_i hx hb hr hlocks hE rfl hS hP dJ6_bitCount_0f7a4_52


theorem zand63 (a : Int) : 0 ≤ zand a 63 ∧ zand a 63 ≤ 63 := by
  unfold zand
  have h : (iI a &&& iI 63).toInt = ((iI a &&& iI 63).toBitVec.toNat : Int) ∧ (iI a &&& iI 63).toBitVec.toNat ≤ 63 := by
    have e : (iI a &&& iI 63).toBitVec = (iI a).toBitVec &&& 63#32 := rfl
    have hle : (iI a &&& iI 63).toBitVec.toNat ≤ 63 := by
      rw [e, BitVec.toNat_and]
      exact Nat.and_le_right
    refine ⟨?_, hle⟩
    show (iI a &&& iI 63).toBitVec.toInt = _
    rw [BitVec.toInt_eq_toNat_cond, if_pos (by omega)]
  omega
theorem rg_J6_bitCount (a : Int) : 0 ≤ fJ6_bitCount_0f7a4 a ∧ fJ6_bitCount_0f7a4 a ≤ 63 := zand63 _

def fX4_fewestBySets_L1 (M : Mem) : Nat → Int → Int → (Int)
  | 0, _, _ => 0
  | k1 + 1, fewest, opened => if ((64) ≤ opened) then fewest else if ((zshl (1) (M 7 0)) ≤ opened) then fewest else if ((fX4_isEnd (fX4_pointAtEnd M opened)) = 0) then fX4_fewestBySets_L1 M k1 fewest (opened + 1) else if (fewest = (-1)) then fX4_fewestBySets_L1 M k1 (fJ6_bitCount_0f7a4 opened) (opened + 1) else if (fewest ≤ (fJ6_bitCount_0f7a4 opened)) then fX4_fewestBySets_L1 M k1 fewest (opened + 1) else fX4_fewestBySets_L1 M k1 (fJ6_bitCount_0f7a4 opened) (opened + 1)
def fX4_fewestBySets (M : Mem) : Int := fX4_fewestBySets_L1 M 65 (-1) (0)
set_option maxRecDepth 100000 in
set_option maxHeartbeats 4000000 in
theorem kX4_fewestBySets (l : Launch) (D : va_G) (E : Nat → Nat) (cI cC : ClassId) (Z : State → Prop) (hZo : ∀ M : Mem, ZOk (VC E cI cC M) Z) (hZb : ZBl Z) (M : Mem) (hQ : SI M) (r : Int) (hE : fX4_fewestBySets M = r) : Ci l yX4_fewestBySets wsX4_fewestBySets 2 44 [.ref (E 4)] D (TY cI cC) (VC E cI cC) Z M r M := by
  refine Ci.of (cc := cX4_fewestBySets) (maxL := 4) (ret := (some .int)) (by decide +kernel) rfl (Nat.le_of_ble_eq_true rfl) ?_
  intro p e s m args below meth c ls hx hb hml hr hown hts hlocks hP hK hD hZ hS hl
  have hl : lv_has ls 4 [(0, .ref (E 4))] := hl
  have S0 : CallFix p m c cX4_fewestBySets 4 s args wsX4_fewestBySets RX4 := ⟨hx, hb, hml, hown, hts⟩
  have hinX4 : ∀ w ∈ u_ws RX4 TX4 7, w ∈ wsX4_fewestBySets := by decide +kernel
  rw [fX4_fewestBySets] at hE
  refine z_iconst hx hb dX4_fewestBySets_0 ?_
  refine lv_istore_n hx hb dX4_fewestBySets_1 rfl hl (Nat.le_of_ble_eq_true rfl) (lv' := [(1, .int (iI (-1))), (0, .ref (E 4))]) rfl (fun ls hl => ?_)
  refine z_iconst hx hb dX4_fewestBySets_2 ?_
  refine lv_istore_n hx hb dX4_fewestBySets_3 rfl hl (Nat.le_of_ble_eq_true rfl) (lv' := [(2, .int (iI (0))), (1, .int (iI (-1))), (0, .ref (E 4))]) rfl (fun ls hl => ?_)
  have L1 : ∀ (k1 : Nat) (fewest opened : Int) (ls : Array Slot) (H : Heap) (locs : List Loc), lv_has ls 4 [(0, .ref (E 4)), (1, .int (iI fewest)), (2, .int (iI opened))] → va_P D vwCl (VC E cI cC M) H → va_D (wA (VC E cI cC M)) (VC E cI cC M) → va_S (wA (VC E cI cC M)) s.heap H locs → (0 ≤ opened ∧ opened ≤ 64) → (-1 ≤ fewest ∧ fewest ≤ 63) → (64 - opened < (k1 : Int)) → fX4_fewestBySets_L1 M k1 fewest opened = r → W p l e (zRm 2 44) s m args below meth c H locs 0 0 (MQ below (ciQ D (VC E cI cC) M r M) args s 0 0 (wA (VC E cI cC M))) (F0 m 4 ls []) := by
    intro k1
    induction k1 with
    | zero => intro fewest opened ls H locs hl hP hD hS i1 i2 i3 hE; exfalso; omega
    | succ k1 ih1 =>
      intro fewest opened ls H locs hl hP hD hS i1 i2 i3 hE
      have q94 := rg_X4_pointAtEnd hQ opened
      have q93 := zshl_I 1 (M 7 0)
      rw [fX4_fewestBySets_L1] at hE
      refine lv_iload_n hx hb dX4_fewestBySets_4 rfl (lv_at hl 2 rfl) ?_
      refine z_bipush hx hb dX4_fewestBySets_5 (by decide +kernel) ?_
      refine z_icmp_ge hx hb dX4_fewestBySets_7 (tgt := 54) rfl (by omega) (by omega) (fun b1 => ?_) (fun b1 => ?_)
      · rw [if_pos b1] at hE
        refine lv_iload_n hx hb dX4_fewestBySets_54 rfl (lv_at hl 1 rfl) ?_
        exact ci_i hx hb hr hlocks hE rfl hS hP dX4_fewestBySets_55
      · rw [if_neg b1] at hE
        refine lv_iload_n hx hb dX4_fewestBySets_10 rfl (lv_at hl 2 rfl) ?_
        refine z_iconst hx hb dX4_fewestBySets_11 ?_
        refine lv_aload_n hx hb dX4_fewestBySets_12 rfl (lv_at hl 0 rfl) ?_
        refine va_get (own := RX4) (ref := "NapkinSyntax$Sentence") (C := RX4) (T := TX4) (N := 7) hx hb hts hinX4 hown hK hP 4 VC_4 rfl 6 (Nat.le_of_ble_eq_true rfl) (hts (.fieldLink RX4 30 "NapkinSyntax$Sentence" "size" "I") (by decide +kernel)) (fun _ h => h) (v := .int (iI (M 7 0))) rfl dX4_fewestBySets_13 ?_
        have q2 := SI_n hQ
        refine z_ishl hx hb dX4_fewestBySets_16 ?_
        have q3 := zshl_I (1) (M 7 0)
        refine z_icmp_ge hx hb dX4_fewestBySets_17 (tgt := 54) rfl (by omega) (by omega) (fun b4 => ?_) (fun b4 => ?_)
        · rw [if_pos b4] at hE
          refine lv_iload_n hx hb dX4_fewestBySets_54 rfl (lv_at hl 1 rfl) ?_
          exact ci_i hx hb hr hlocks hE rfl hS hP dX4_fewestBySets_55
        · rw [if_neg b4] at hE
          refine lv_iload_n hx hb dX4_fewestBySets_20 rfl (lv_at hl 2 rfl) ?_
          refine ct_Si (VC_fix E cI cC) hZo hZb hZ S0 (kJ6_bitCount_0f7a4 l D E cI cC Z hZo hZb M opened (by omega) (fJ6_bitCount_0f7a4 opened) rfl) (va_cwS 1 hts gX4_fewestBySets_J6_bitCount_0f7a4 rfl rfl rfl (by decide +kernel) ⟨(Nat.le_of_ble_eq_true rfl), (Nat.le_of_ble_eq_true rfl)⟩) hK hP hD hS rfl hl.1 rfl (Nat.le_of_ble_eq_true rfl) dX4_fewestBySets_21 ⟨Nat.zero_le _, Nat.zero_le _⟩ (fun H locs hP hD hS => ?_)
          have q5 := rg_J6_bitCount opened
          refine lv_istore_n hx hb dX4_fewestBySets_24 rfl hl (Nat.le_of_ble_eq_true rfl) (lv' := [(3, .int (iI (fJ6_bitCount_0f7a4 opened))), (0, .ref (E 4)), (1, .int (iI fewest)), (2, .int (iI opened))]) rfl (fun ls hl => ?_)
          refine lv_aload_n hx hb dX4_fewestBySets_25 rfl (lv_at hl 1 rfl) ?_
          refine lv_iload_n hx hb dX4_fewestBySets_26 rfl (lv_at hl 3 rfl) ?_
          refine ct_Vi (VC_fix E cI cC) hZo hZb hZ S0 (kX4_pointAtEnd l D E cI cC Z hZo hZb M opened (by omega) hQ (fX4_pointAtEnd M opened) rfl) (cwV 1 hts gX4_fewestBySets_X4_pointAtEnd rfl rfl rfl (by decide +kernel) ⟨(Nat.le_of_ble_eq_true rfl), (Nat.le_of_ble_eq_true rfl)⟩) hK hP hD hS rfl rfl VC_4 rfl hl.1 rfl (Nat.le_of_ble_eq_true rfl) dX4_fewestBySets_27 ⟨Nat.zero_le _, Nat.zero_le _⟩ (fun H locs hP hD hS => ?_)
          have q6 := rg_X4_pointAtEnd hQ opened
          refine ct_Si (VC_fix E cI cC) hZo hZb hZ S0 (kX4_isEnd l D E cI cC Z hZo hZb M (fX4_pointAtEnd M opened) (by omega) (fX4_isEnd (fX4_pointAtEnd M opened)) rfl) (va_cwS 1 hts gX4_fewestBySets_X4_isEnd rfl rfl rfl (by decide +kernel) ⟨(Nat.le_of_ble_eq_true rfl), (Nat.le_of_ble_eq_true rfl)⟩) hK hP hD hS rfl hl.1 rfl (Nat.le_of_ble_eq_true rfl) dX4_fewestBySets_30 ⟨Nat.zero_le _, Nat.zero_le _⟩ (fun H locs hP hD hS => ?_)
          have q7 := bX4_isEnd (fX4_pointAtEnd M opened)
          refine z_if_eq hx hb dX4_fewestBySets_33 (tgt := 48) rfl (by omega) (fun b8 => ?_) (fun b8 => ?_)
          · rw [if_pos b8] at hE
            refine z_iinc hx hb dX4_fewestBySets_48 hl (k := 3) rfl (Nat.le_of_ble_eq_true rfl) (lv' := [(2, .int (iI (opened + 1))), (3, .int (iI (fJ6_bitCount_0f7a4 opened))), (0, .ref (E 4)), (1, .int (iI fewest))]) rfl (fun ls hl => ?_)
            refine lv_goto hx hb dX4_fewestBySets_51 (tgt := 4) rfl ?_
            exact ih1 fewest (opened + 1) ls _ _ (lv_sub hl [2, 3, 0] rfl) hP hD hS (by omega) (by omega) (by omega) hE
          · rw [if_neg b8] at hE
            refine lv_iload_n hx hb dX4_fewestBySets_36 rfl (lv_at hl 2 rfl) ?_
            refine z_iconst hx hb dX4_fewestBySets_37 ?_
            refine z_icmp_eq hx hb dX4_fewestBySets_38 (tgt := 46) rfl (by omega) (by omega) (fun b9 => ?_) (fun b9 => ?_)
            · rw [if_pos b9] at hE
              refine lv_iload_n hx hb dX4_fewestBySets_46 rfl (lv_at hl 0 rfl) ?_
              refine lv_istore_n hx hb dX4_fewestBySets_47 rfl hl (Nat.le_of_ble_eq_true rfl) (lv' := [(1, .int (iI (fJ6_bitCount_0f7a4 opened))), (3, .int (iI (fJ6_bitCount_0f7a4 opened))), (0, .ref (E 4)), (2, .int (iI opened))]) rfl (fun ls hl => ?_)
              refine z_iinc hx hb dX4_fewestBySets_48 hl (k := 3) rfl (Nat.le_of_ble_eq_true rfl) (lv' := [(2, .int (iI (opened + 1))), (1, .int (iI (fJ6_bitCount_0f7a4 opened))), (3, .int (iI (fJ6_bitCount_0f7a4 opened))), (0, .ref (E 4))]) rfl (fun ls hl => ?_)
              refine lv_goto hx hb dX4_fewestBySets_51 (tgt := 4) rfl ?_
              exact ih1 (fJ6_bitCount_0f7a4 opened) (opened + 1) ls _ _ (lv_sub hl [3, 1, 0] rfl) hP hD hS (by omega) (by omega) (by omega) hE
            · rw [if_neg b9] at hE
              refine lv_iload_n hx hb dX4_fewestBySets_41 rfl (lv_at hl 0 rfl) ?_
              refine lv_iload_n hx hb dX4_fewestBySets_42 rfl (lv_at hl 2 rfl) ?_
              refine z_icmp_ge hx hb dX4_fewestBySets_43 (tgt := 48) rfl (by omega) (by omega) (fun b10 => ?_) (fun b10 => ?_)
              · rw [if_pos b10] at hE
                refine z_iinc hx hb dX4_fewestBySets_48 hl (k := 3) rfl (Nat.le_of_ble_eq_true rfl) (lv' := [(2, .int (iI (opened + 1))), (3, .int (iI (fJ6_bitCount_0f7a4 opened))), (0, .ref (E 4)), (1, .int (iI fewest))]) rfl (fun ls hl => ?_)
                refine lv_goto hx hb dX4_fewestBySets_51 (tgt := 4) rfl ?_
                exact ih1 fewest (opened + 1) ls _ _ (lv_sub hl [2, 3, 0] rfl) hP hD hS (by omega) (by omega) (by omega) hE
              · rw [if_neg b10] at hE
                refine lv_iload_n hx hb dX4_fewestBySets_46 rfl (lv_at hl 0 rfl) ?_
                refine lv_istore_n hx hb dX4_fewestBySets_47 rfl hl (Nat.le_of_ble_eq_true rfl) (lv' := [(1, .int (iI (fJ6_bitCount_0f7a4 opened))), (3, .int (iI (fJ6_bitCount_0f7a4 opened))), (0, .ref (E 4)), (2, .int (iI opened))]) rfl (fun ls hl => ?_)
                refine z_iinc hx hb dX4_fewestBySets_48 hl (k := 3) rfl (Nat.le_of_ble_eq_true rfl) (lv' := [(2, .int (iI (opened + 1))), (1, .int (iI (fJ6_bitCount_0f7a4 opened))), (3, .int (iI (fJ6_bitCount_0f7a4 opened))), (0, .ref (E 4))]) rfl (fun ls hl => ?_)
                refine lv_goto hx hb dX4_fewestBySets_51 (tgt := 4) rfl ?_
                exact ih1 (fJ6_bitCount_0f7a4 opened) (opened + 1) ls _ _ (lv_sub hl [3, 1, 0] rfl) hP hD hS (by omega) (by omega) (by omega) hE
  exact L1 65 (-1) (0) ls _ _ (lv_sub hl [2, 1, 0] rfl) hP hD hS (by omega) (by omega) (by omega) hE


theorem rg_X4_fewestBySets_L (M : Mem) : ∀ (k : Nat) (f n : Int), -1 ≤ f → f ≤ 63 → -1 ≤ fX4_fewestBySets_L1 M k f n ∧ fX4_fewestBySets_L1 M k f n ≤ 63 := by
  intro k
  induction k with
  | zero => intro f n _ _; exact ⟨(by decide : (-1 : Int) ≤ 0), (by decide : (0 : Int) ≤ 63)⟩
  | succ k ih =>
    intro f n h1 h2
    rw [fX4_fewestBySets_L1]
    have := rg_J6_bitCount n
    (repeat' split) <;> first | omega | exact ih _ _ (by omega) (by omega)
theorem rg_X4_fewestBySets {M : Mem} (_ : SI M) : -1 ≤ fX4_fewestBySets M ∧ fX4_fewestBySets M ≤ 63 := rg_X4_fewestBySets_L M 65 (-1) 0 (by decide) (by decide)

def fX4_goOnWith_L2 (M : Mem) (fold : Int) (point : Int) : Nat → Mem → Int → (Mem)
  | 0, Mx, _ => Mx
  | k2 + 1, Mx, point2 => if ((4) ≤ point2) then (mcp Mx 6 (0) 5 (0) (4)) else if ((fX4_pointAfter point2 fold) < 0) then fX4_goOnWith_L2 M fold point k2 Mx (point2 + 1) else if ((4) ≤ (fX4_pointAfter point2 fold)) then fX4_goOnWith_L2 M fold point k2 Mx (point2 + 1) else fX4_goOnWith_L2 M fold point k2 (mst Mx 6 (fX4_pointAfter point2 fold) (zmin (Mx 6 (fX4_pointAfter point2 fold)) (Mx 5 point2))) (point2 + 1)
def fX4_goOnWith_L1 (M : Mem) (fold : Int) : Nat → Mem → Int → (Mem)
  | 0, Mx, _ => Mx
  | k1 + 1, Mx, point => if ((4) ≤ point) then fX4_goOnWith_L2 M fold point 5 Mx (0) else fX4_goOnWith_L1 M fold k1 (mst Mx 6 point ((Mx 5 point) + (1))) (point + 1)
def fX4_goOnWith (M : Mem) (fold : Int) : Mem := fX4_goOnWith_L1 M fold 5 M (0)
set_option maxRecDepth 100000 in
set_option maxHeartbeats 4000000 in
theorem kX4_goOnWith (l : Launch) (D : va_G) (E : Nat → Nat) (cI cC : ClassId) (Z : State → Prop) (hZo : ∀ M : Mem, ZOk (VC E cI cC M) Z) (hZb : ZBl Z) (M : Mem) (fold : Int) (h1 : 0 ≤ fold ∧ fold ≤ 5) (hB : ∀ j : Int, 0 ≤ j → j < 4 → 0 ≤ M 5 j ∧ M 5 j ≤ 1010) (M' : Mem) (hE : fX4_goOnWith M fold = M') : Cv l yX4_goOnWith wsX4_goOnWith 1 26 [.ref (E 4), .int (iI fold)] D (TY cI cC) (VC E cI cC) Z M M' := by
  refine Cv.of (cc := cX4_goOnWith) (maxL := 4) (ret := none) (by decide +kernel) rfl (Nat.le_of_ble_eq_true rfl) ?_
  intro p e s m args below meth c ls hx hb hml hr hown hts hlocks hP hK hD hZ hS hl
  have hl : lv_has ls 4 [(0, .ref (E 4)), (1, .int (iI fold))] := hl
  have S0 : CallFix p m c cX4_goOnWith 4 s args wsX4_goOnWith RX4 := ⟨hx, hb, hml, hown, hts⟩
  have hinX4 : ∀ w ∈ u_ws RX4 TX4 7, w ∈ wsX4_goOnWith := by decide +kernel
  rw [fX4_goOnWith] at hE
  refine z_iconst hx hb dX4_goOnWith_0 ?_
  refine lv_istore_n hx hb dX4_goOnWith_1 rfl hl (Nat.le_of_ble_eq_true rfl) (lv' := [(2, .int (iI (0))), (0, .ref (E 4)), (1, .int (iI fold))]) rfl (fun ls hl => ?_)
  have L1 : ∀ (k1 : Nat) (Mx : Mem) (point : Int) (ls : Array Slot) (H : Heap) (locs : List Loc), lv_has ls 4 [(0, .ref (E 4)), (1, .int (iI fold)), (2, .int (iI point))] → va_P D vwCl (VC E cI cC Mx) H → va_D (wA (VC E cI cC M)) (VC E cI cC Mx) → va_S (wA (VC E cI cC M)) s.heap H locs → (0 ≤ point ∧ point ≤ 4) → (4 - point < (k1 : Int)) → (∀ j : Int, 0 ≤ j → j < 4 → 0 ≤ Mx 5 j ∧ Mx 5 j ≤ 1010) → (∀ j : Int, 0 ≤ j → j < point → 0 ≤ Mx 6 j ∧ Mx 6 j ≤ 1011) → fX4_goOnWith_L1 M fold k1 Mx point = M' → W p l e (zRm 1 26) s m args below meth c H locs 0 0 (MQ below (cvQ D (VC E cI cC) M M') args s 0 0 (wA (VC E cI cC M))) (F0 m 2 ls []) := by
    intro k1
    induction k1 with
    | zero => intro Mx point ls H locs hl hP hD hS i1 i3 jB jL hE; exfalso; omega
    | succ k1 ih1 =>
      intro Mx point ls H locs hl hP hD hS i1 i3 jB jL hE
      rw [fX4_goOnWith_L1] at hE
      refine lv_iload_n hx hb dX4_goOnWith_2 rfl (lv_at hl 2 rfl) ?_
      refine z_iconst hx hb dX4_goOnWith_3 ?_
      refine z_icmp_ge hx hb dX4_goOnWith_4 (tgt := 27) rfl (by omega) (by omega) (fun b1 => ?_) (fun b1 => ?_)
      · rw [if_pos b1] at hE
        refine z_iconst hx hb dX4_goOnWith_27 ?_
        refine lv_istore_n hx hb dX4_goOnWith_28 rfl hl (Nat.le_of_ble_eq_true rfl) (lv' := [(2, .int (iI (0))), (0, .ref (E 4)), (1, .int (iI fold))]) rfl (fun ls hl => ?_)
        have L2 : ∀ (k2 : Nat) (Mx : Mem) (point2 : Int) (ls : Array Slot) (H : Heap) (locs : List Loc), lv_has ls 4 [(0, .ref (E 4)), (1, .int (iI fold)), (2, .int (iI point2))] → va_P D vwCl (VC E cI cC Mx) H → va_D (wA (VC E cI cC M)) (VC E cI cC Mx) → va_S (wA (VC E cI cC M)) s.heap H locs → (0 ≤ point2 ∧ point2 ≤ 4) → (4 - point2 < (k2 : Int)) → (∀ j : Int, 0 ≤ j → j < 4 → 0 ≤ Mx 5 j ∧ Mx 5 j ≤ 1010) → (∀ j : Int, 0 ≤ j → j < 4 → 0 ≤ Mx 6 j ∧ Mx 6 j ≤ 1011) → fX4_goOnWith_L2 M fold point k2 Mx point2 = M' → W p l e (zRm 1 26) s m args below meth c H locs 0 0 (MQ below (cvQ D (VC E cI cC) M M') args s 0 0 (wA (VC E cI cC M))) (F0 m 29 ls []) := by
          intro k2
          induction k2 with
          | zero => intro Mx point2 ls H locs hl hP hD hS i1 i3 jB jL hE; exfalso; omega
          | succ k2 ih2 =>
            intro Mx point2 ls H locs hl hP hD hS i1 i3 jB jL hE
            rw [fX4_goOnWith_L2] at hE
            refine lv_iload_n hx hb dX4_goOnWith_29 rfl (lv_at hl 2 rfl) ?_
            refine z_iconst hx hb dX4_goOnWith_30 ?_
            refine z_icmp_ge hx hb dX4_goOnWith_31 (tgt := 76) rfl (by omega) (by omega) (fun b2 => ?_) (fun b2 => ?_)
            · rw [if_pos b2] at hE
              refine lv_aload_n hx hb dX4_goOnWith_76 rfl (lv_at hl 0 rfl) ?_
              refine va_get (own := RX4) (ref := "NapkinSyntax$Sentence") (C := RX4) (T := TX4) (N := 7) hx hb hts hinX4 hown hK hP 4 VC_4 rfl 5 (Nat.le_of_ble_eq_true rfl) (hts (.fieldLink RX4 27 "NapkinSyntax$Sentence" "laterCosts" "[I") (by decide +kernel)) (fun _ h => h) (v := .ref (E 10)) rfl dX4_goOnWith_77 ?_
              refine z_iconst hx hb dX4_goOnWith_80 ?_
              refine lv_aload_n hx hb dX4_goOnWith_81 rfl (lv_at hl 0 rfl) ?_
              refine va_get (own := RX4) (ref := "NapkinSyntax$Sentence") (C := RX4) (T := TX4) (N := 7) hx hb hts hinX4 hown hK hP 4 VC_4 rfl 4 (Nat.le_of_ble_eq_true rfl) (hts (.fieldLink RX4 24 "NapkinSyntax$Sentence" "costs" "[I") (by decide +kernel)) (fun _ h => h) (v := .ref (E 9)) rfl dX4_goOnWith_82 ?_
              refine z_iconst hx hb dX4_goOnWith_85 ?_
              refine z_iconst hx hb dX4_goOnWith_86 ?_
              refine z_copyi hx hb (hml.trans hl.1.symm) hown (hts (.methodLink RX4 120 arraycopyName) (by decide +kernel)) (hts (.native arraycopyName) (by decide +kernel)) (hts (.static arraycopyName) (by decide +kernel)) (hts (.initialized "java/lang/System") (by decide +kernel)) hK hP hD hS 10 9 0 VC_10 VC_9 rfl (by omega) (by omega) (by omega) (by omega) (by omega) (by decide) (by decide) (Nat.le_of_ble_eq_true rfl) (Nat.le_of_ble_eq_true rfl) dX4_goOnWith_87 VCc_6_5 (fun H locs hP hD hS => ?_)
              subst hE
              exact cv_v hx hb hr hlocks hS hP dX4_goOnWith_90
            · rw [if_neg b2] at hE
              refine lv_iload_n hx hb dX4_goOnWith_34 rfl (lv_at hl 2 rfl) ?_
              refine lv_iload_n hx hb dX4_goOnWith_35 rfl (lv_at hl 1 rfl) ?_
              refine ct_Si (VC_fix E cI cC) hZo hZb hZ S0 (kX4_pointAfter l D E cI cC Z hZo hZb Mx point2 fold (by omega) (by omega) (fX4_pointAfter point2 fold) rfl) (va_cwS 2 hts gX4_goOnWith_X4_pointAfter rfl rfl rfl (by decide +kernel) ⟨(Nat.le_of_ble_eq_true rfl), (Nat.le_of_ble_eq_true rfl)⟩) hK hP hD hS rfl hl.1 rfl (Nat.le_of_ble_eq_true rfl) dX4_goOnWith_36 ⟨Nat.zero_le _, Nat.zero_le _⟩ (fun H locs hP hD hS => ?_)
              have q3 := rg_X4_pointAfter point2 fold
              refine lv_istore_n hx hb dX4_goOnWith_39 rfl hl (Nat.le_of_ble_eq_true rfl) (lv' := [(3, .int (iI (fX4_pointAfter point2 fold))), (0, .ref (E 4)), (1, .int (iI fold)), (2, .int (iI point2))]) rfl (fun ls hl => ?_)
              refine lv_iload_n hx hb dX4_goOnWith_40 rfl (lv_at hl 0 rfl) ?_
              refine z_if_lt hx hb dX4_goOnWith_41 (tgt := 70) rfl (by omega) (fun b4 => ?_) (fun b4 => ?_)
              · rw [if_pos b4] at hE
                refine z_iinc hx hb dX4_goOnWith_70 hl (k := 3) rfl (Nat.le_of_ble_eq_true rfl) (lv' := [(2, .int (iI (point2 + 1))), (3, .int (iI (fX4_pointAfter point2 fold))), (0, .ref (E 4)), (1, .int (iI fold))]) rfl (fun ls hl => ?_)
                refine lv_goto hx hb dX4_goOnWith_73 (tgt := 29) rfl ?_
                exact ih2 Mx (point2 + 1) ls _ _ (lv_sub hl [2, 3, 0] rfl) hP hD hS (by omega) (by omega) jB (by first | exact jL | exact mst_r jL (by omega) (by omega)) hE
              · rw [if_neg b4] at hE
                refine lv_iload_n hx hb dX4_goOnWith_44 rfl (lv_at hl 0 rfl) ?_
                refine z_iconst hx hb dX4_goOnWith_45 ?_
                refine z_icmp_ge hx hb dX4_goOnWith_46 (tgt := 70) rfl (by omega) (by omega) (fun b5 => ?_) (fun b5 => ?_)
                · rw [if_pos b5] at hE
                  refine z_iinc hx hb dX4_goOnWith_70 hl (k := 3) rfl (Nat.le_of_ble_eq_true rfl) (lv' := [(2, .int (iI (point2 + 1))), (3, .int (iI (fX4_pointAfter point2 fold))), (0, .ref (E 4)), (1, .int (iI fold))]) rfl (fun ls hl => ?_)
                  refine lv_goto hx hb dX4_goOnWith_73 (tgt := 29) rfl ?_
                  exact ih2 Mx (point2 + 1) ls _ _ (lv_sub hl [2, 3, 0] rfl) hP hD hS (by omega) (by omega) jB (by first | exact jL | exact mst_r jL (by omega) (by omega)) hE
                · rw [if_neg b5] at hE
                  refine lv_aload_n hx hb dX4_goOnWith_49 rfl (lv_at hl 1 rfl) ?_
                  refine va_get (own := RX4) (ref := "NapkinSyntax$Sentence") (C := RX4) (T := TX4) (N := 7) hx hb hts hinX4 hown hK hP 4 VC_4 rfl 5 (Nat.le_of_ble_eq_true rfl) (hts (.fieldLink RX4 27 "NapkinSyntax$Sentence" "laterCosts" "[I") (by decide +kernel)) (fun _ h => h) (v := .ref (E 10)) rfl dX4_goOnWith_50 ?_
                  refine lv_iload_n hx hb dX4_goOnWith_53 rfl (lv_at hl 0 rfl) ?_
                  refine lv_aload_n hx hb dX4_goOnWith_54 rfl (lv_at hl 1 rfl) ?_
                  refine va_get (own := RX4) (ref := "NapkinSyntax$Sentence") (C := RX4) (T := TX4) (N := 7) hx hb hts hinX4 hown hK hP 4 VC_4 rfl 5 (Nat.le_of_ble_eq_true rfl) (hts (.fieldLink RX4 27 "NapkinSyntax$Sentence" "laterCosts" "[I") (by decide +kernel)) (fun _ h => h) (v := .ref (E 10)) rfl dX4_goOnWith_55 ?_
                  refine lv_iload_n hx hb dX4_goOnWith_58 rfl (lv_at hl 0 rfl) ?_
                  refine z_iald hx hb hK hP 10 0 VC_10 rfl (by omega) (by omega) (by decide) dX4_goOnWith_59 ?_
                  have q6 := jL (fX4_pointAfter point2 fold) (by omega) (by omega)
                  refine lv_aload_n hx hb dX4_goOnWith_60 rfl (lv_at hl 1 rfl) ?_
                  refine va_get (own := RX4) (ref := "NapkinSyntax$Sentence") (C := RX4) (T := TX4) (N := 7) hx hb hts hinX4 hown hK hP 4 VC_4 rfl 4 (Nat.le_of_ble_eq_true rfl) (hts (.fieldLink RX4 24 "NapkinSyntax$Sentence" "costs" "[I") (by decide +kernel)) (fun _ h => h) (v := .ref (E 9)) rfl dX4_goOnWith_61 ?_
                  refine lv_iload_n hx hb dX4_goOnWith_64 rfl (lv_at hl 3 rfl) ?_
                  refine z_iald hx hb hK hP 9 0 VC_9 rfl (by omega) (by omega) (by decide) dX4_goOnWith_65 ?_
                  have q7 := jB point2 (by omega) (by omega)
                  refine z_mmin hx hb (hml.trans hl.1.symm) hown (hts (.methodLink RX4 109 Lib.Math.min.name) (by decide +kernel)) (hts (.static Lib.Math.min.name) (by decide +kernel)) (hts (.initialized "java/lang/Math") (by decide +kernel)) (hts (.code Lib.Math.min.name Lib.Math.min.code 2 (some .int)) (by decide +kernel)) (Nat.le_of_ble_eq_true rfl) (Nat.le_of_ble_eq_true rfl) (Nat.zero_le _) (Nat.zero_le _) (by omega) (by omega) dX4_goOnWith_66 ?_
                  have q8 := zmin_r (Mx 6 (fX4_pointAfter point2 fold)) (Mx 5 point2)
                  refine z_iast hx hb hK hP hD hS 10 0 VC_10 rfl (by omega) (by omega) (by decide) dX4_goOnWith_69 VCw_6 (fun H locs hP hD hS => ?_)
                  refine z_iinc hx hb dX4_goOnWith_70 hl (k := 3) rfl (Nat.le_of_ble_eq_true rfl) (lv' := [(2, .int (iI (point2 + 1))), (3, .int (iI (fX4_pointAfter point2 fold))), (0, .ref (E 4)), (1, .int (iI fold))]) rfl (fun ls hl => ?_)
                  refine lv_goto hx hb dX4_goOnWith_73 (tgt := 29) rfl ?_
                  exact ih2 (mst Mx 6 (fX4_pointAfter point2 fold) (zmin (Mx 6 (fX4_pointAfter point2 fold)) (Mx 5 point2))) (point2 + 1) ls _ _ (lv_sub hl [2, 3, 0] rfl) hP hD hS (by omega) (by omega) jB (by first | exact jL | exact mst_r jL (by omega) (by omega)) hE
        exact L2 5 Mx (0) ls _ _ (lv_sub hl [1, 2, 0] rfl) hP hD hS (by omega) (by omega) jB (by intro j h1 h2; exact jL j h1 (by omega)) hE
      · rw [if_neg b1] at hE
        refine lv_aload_n hx hb dX4_goOnWith_7 rfl (lv_at hl 0 rfl) ?_
        refine va_get (own := RX4) (ref := "NapkinSyntax$Sentence") (C := RX4) (T := TX4) (N := 7) hx hb hts hinX4 hown hK hP 4 VC_4 rfl 5 (Nat.le_of_ble_eq_true rfl) (hts (.fieldLink RX4 27 "NapkinSyntax$Sentence" "laterCosts" "[I") (by decide +kernel)) (fun _ h => h) (v := .ref (E 10)) rfl dX4_goOnWith_8 ?_
        refine lv_iload_n hx hb dX4_goOnWith_11 rfl (lv_at hl 2 rfl) ?_
        refine lv_aload_n hx hb dX4_goOnWith_12 rfl (lv_at hl 0 rfl) ?_
        refine va_get (own := RX4) (ref := "NapkinSyntax$Sentence") (C := RX4) (T := TX4) (N := 7) hx hb hts hinX4 hown hK hP 4 VC_4 rfl 4 (Nat.le_of_ble_eq_true rfl) (hts (.fieldLink RX4 24 "NapkinSyntax$Sentence" "costs" "[I") (by decide +kernel)) (fun _ h => h) (v := .ref (E 9)) rfl dX4_goOnWith_13 ?_
        refine lv_iload_n hx hb dX4_goOnWith_16 rfl (lv_at hl 2 rfl) ?_
        refine z_iald hx hb hK hP 9 0 VC_9 rfl (by omega) (by omega) (by decide) dX4_goOnWith_17 ?_
        have q9 := jB point (by omega) (by omega)
        refine z_iconst hx hb dX4_goOnWith_18 ?_
        refine z_iadd hx hb dX4_goOnWith_19 ?_
        refine z_iast hx hb hK hP hD hS 10 0 VC_10 rfl (by omega) (by omega) (by decide) dX4_goOnWith_20 VCw_6 (fun H locs hP hD hS => ?_)
        refine z_iinc hx hb dX4_goOnWith_21 hl (k := 2) rfl (Nat.le_of_ble_eq_true rfl) (lv' := [(2, .int (iI (point + 1))), (0, .ref (E 4)), (1, .int (iI fold))]) rfl (fun ls hl => ?_)
        refine lv_goto hx hb dX4_goOnWith_24 (tgt := 2) rfl ?_
        exact ih1 (mst Mx 6 point ((Mx 5 point) + (1))) (point + 1) ls _ _ (lv_sub hl [1, 2, 0] rfl) hP hD hS (by omega) (by omega) jB (mst_r jL (by omega) (by omega)) hE
  exact L1 5 M (0) ls _ _ (lv_sub hl [1, 2, 0] rfl) hP hD hS (by omega) (by omega) hB (by intro j h1 h2; omega) hE

theorem fr_fX4_goOnWith_L2 (M : Mem) (fold : Int) (point : Int) {r : Nat} (h5 : Nat.beq r 5 = false) (h6 : Nat.beq r 6 = false) : ∀ (k : Nat) (Mx : Mem) (point2 : Int), (fX4_goOnWith_L2 M fold point k Mx point2) r = Mx r := by
  intro k
  induction k with
  | zero => intros; rfl
  | succ k ih =>
    intro Mx point2
    rw [fX4_goOnWith_L2]
    (repeat' with_reducible refine frite_v (fun _ => ?_) (fun _ => ?_)) <;> first | with_reducible rfl | simp only [ih, mst_o, msf_o, mcp_o, h5, h6]
theorem fr_fX4_goOnWith_L1 (M : Mem) (fold : Int) {r : Nat} (h5 : Nat.beq r 5 = false) (h6 : Nat.beq r 6 = false) : ∀ (k : Nat) (Mx : Mem) (point : Int), (fX4_goOnWith_L1 M fold k Mx point) r = Mx r := by
  intro k
  induction k with
  | zero => intros; rfl
  | succ k ih =>
    intro Mx point
    rw [fX4_goOnWith_L1]
    (repeat' with_reducible refine frite_v (fun _ => ?_) (fun _ => ?_)) <;> first | with_reducible rfl | simp only [ih, mst_o, msf_o, mcp_o, h5, h6, fr_fX4_goOnWith_L2]
theorem fr_fX4_goOnWith {M : Mem} (fold : Int) {r : Nat} (h5 : Nat.beq r 5 = false) (h6 : Nat.beq r 6 = false) : (fX4_goOnWith M fold) r = M r := by
  unfold fX4_goOnWith
  (repeat' with_reducible refine frite_v (fun _ => ?_) (fun _ => ?_)) <;> first | with_reducible rfl | simp only [mst_o, msf_o, mcp_o, h5, h6, fr_fX4_goOnWith_L2, fr_fX4_goOnWith_L1]


theorem goOn_L2 {M0 : Mem} {b f q : Int} : ∀ (k : Nat) (Mx : Mem) (p : Int), 0 ≤ p → (∀ j : Int, 0 ≤ j → j < 4 → 0 ≤ Mx 5 j ∧ Mx 5 j ≤ b) → (∀ j : Int, 0 ≤ j → j < 4 → 0 ≤ Mx 6 j ∧ Mx 6 j ≤ b + 1) → ∀ j : Int, 0 ≤ j → j < 4 → 0 ≤ fX4_goOnWith_L2 M0 f q k Mx p 5 j ∧ fX4_goOnWith_L2 M0 f q k Mx p 5 j ≤ b + 1 := by
  intro k
  induction k with
  | zero =>
    intro Mx p _ h5 _ j g1 g2
    have := h5 j g1 g2
    show 0 ≤ Mx 5 j ∧ Mx 5 j ≤ b + 1
    omega
  | succ k ih =>
    intro Mx p hp h5 h6 j g1 g2
    rw [fX4_goOnWith_L2]
    split
    · show 0 ≤ cpI (Mx 6) (Mx 5) 0 0 4 j ∧ cpI (Mx 6) (Mx 5) 0 0 4 j ≤ b + 1
      unfold cpI
      rw [if_pos (by omega)]
      exact h6 _ (by omega) (by omega)
    · split
      · exact ih Mx _ (by omega) h5 h6 j g1 g2
      · split
        · exact ih Mx _ (by omega) h5 h6 j g1 g2
        · have a := h6 (fX4_pointAfter p f) (by omega) (by omega)
          have c := h5 p hp (by omega)
          have z := zmin_r (Mx 6 (fX4_pointAfter p f)) (Mx 5 p)
          exact ih (mst Mx 6 (fX4_pointAfter p f) (zmin (Mx 6 (fX4_pointAfter p f)) (Mx 5 p))) _ (by omega) h5 (mst_r h6 (by omega) (fun _ _ h => Or.inr h)) j g1 g2
theorem goOn_L1 {M0 : Mem} {b f : Int} : ∀ (k : Nat) (Mx : Mem) (p : Int), 0 ≤ p → p ≤ 4 → 4 - p < k → (∀ j : Int, 0 ≤ j → j < 4 → 0 ≤ Mx 5 j ∧ Mx 5 j ≤ b) → (∀ j : Int, 0 ≤ j → j < p → 0 ≤ Mx 6 j ∧ Mx 6 j ≤ b + 1) → ∀ j : Int, 0 ≤ j → j < 4 → 0 ≤ fX4_goOnWith_L1 M0 f k Mx p 5 j ∧ fX4_goOnWith_L1 M0 f k Mx p 5 j ≤ b + 1 := by
  intro k
  induction k with
  | zero => intro Mx p _ _ h9; omega
  | succ k ih =>
    intro Mx p hp hp4 hk h5 h6 j g1 g2
    rw [fX4_goOnWith_L1]
    split
    · exact goOn_L2 5 Mx 0 (by decide) h5 (fun j a c => h6 j a (by omega)) j g1 g2
    · have c := h5 p hp (by omega)
      exact ih (mst Mx 6 p (Mx 5 p + 1)) (p + 1) (by omega) (by omega) (by omega) h5 (mst_r h6 (by omega) (by omega)) j g1 g2
theorem goOn_b {M : Mem} {b f : Int} (h : ∀ j : Int, 0 ≤ j → j < 4 → 0 ≤ M 5 j ∧ M 5 j ≤ b) : ∀ j : Int, 0 ≤ j → j < 4 → 0 ≤ fX4_goOnWith M f 5 j ∧ fX4_goOnWith M f 5 j ≤ b + 1 :=
  goOn_L1 5 M 0 (by decide) (by decide) (by decide) h (fun j a c => by omega)

def fX4_fewestByPoints_L2 (M : Mem) (point : Int) : Nat → Mem → Int → (Int × Mem)
  | 0, Mx, _ => (0, Mx)
  | k2 + 1, Mx, number => if ((Mx 7 0) ≤ number) then if ((1000) ≤ (zmin (Mx 5 (2)) (Mx 5 (3)))) then ((-1), Mx) else ((zmin (Mx 5 (2)) (Mx 5 (3))), Mx) else fX4_fewestByPoints_L2 M point k2 (fX4_goOnWith Mx (fX4_foldAt Mx number)) (number + 1)
def fX4_fewestByPoints_L1 (M : Mem) : Nat → Mem → Int → (Int × Mem)
  | 0, Mx, _ => (0, Mx)
  | k1 + 1, Mx, point => if ((4) ≤ point) then fX4_fewestByPoints_L2 M point 8 Mx (0) else if (point = 0) then fX4_fewestByPoints_L1 M k1 (mst Mx 5 point (0)) (point + 1) else fX4_fewestByPoints_L1 M k1 (mst Mx 5 point (1000)) (point + 1)
def fX4_fewestByPoints (M : Mem) : Int × Mem := fX4_fewestByPoints_L1 M 5 M (0)
set_option maxRecDepth 100000 in
set_option maxHeartbeats 4000000 in
theorem kX4_fewestByPoints (l : Launch) (D : va_G) (E : Nat → Nat) (cI cC : ClassId) (Z : State → Prop) (hZo : ∀ M : Mem, ZOk (VC E cI cC M) Z) (hZb : ZBl Z) (M : Mem) (hQ : SI M) (r : Int) (M' : Mem) (hE : fX4_fewestByPoints M = (r, M')) : Ci l yX4_fewestByPoints wsX4_fewestByPoints 2 49 [.ref (E 4)] D (TY cI cC) (VC E cI cC) Z M r M' := by
  refine Ci.of (cc := cX4_fewestByPoints) (maxL := 2) (ret := (some .int)) (by decide +kernel) rfl (Nat.le_of_ble_eq_true rfl) ?_
  intro p e s m args below meth c ls hx hb hml hr hown hts hlocks hP hK hD hZ hS hl
  have hl : lv_has ls 2 [(0, .ref (E 4))] := hl
  have S0 : CallFix p m c cX4_fewestByPoints 2 s args wsX4_fewestByPoints RX4 := ⟨hx, hb, hml, hown, hts⟩
  have hinX4 : ∀ w ∈ u_ws RX4 TX4 7, w ∈ wsX4_fewestByPoints := by decide +kernel
  rw [fX4_fewestByPoints] at hE
  refine z_iconst hx hb dX4_fewestByPoints_0 ?_
  refine lv_istore_n hx hb dX4_fewestByPoints_1 rfl hl (Nat.le_of_ble_eq_true rfl) (lv' := [(1, .int (iI (0))), (0, .ref (E 4))]) rfl (fun ls hl => ?_)
  have L1 : ∀ (k1 : Nat) (Mx : Mem) (point : Int) (ls : Array Slot) (H : Heap) (locs : List Loc), lv_has ls 2 [(0, .ref (E 4)), (1, .int (iI point))] → va_P D vwCl (VC E cI cC Mx) H → va_D (wA (VC E cI cC M)) (VC E cI cC Mx) → va_S (wA (VC E cI cC M)) s.heap H locs → (0 ≤ point ∧ point ≤ 4) → (4 - point < (k1 : Int)) → (∀ j : Int, 0 ≤ j → j < point → 0 ≤ Mx 5 j ∧ Mx 5 j ≤ 1000) → (SI Mx) → fX4_fewestByPoints_L1 M k1 Mx point = (r, M') → W p l e (zRm 2 49) s m args below meth c H locs 0 0 (MQ below (ciQ D (VC E cI cC) M r M') args s 0 0 (wA (VC E cI cC M))) (F0 m 2 ls []) := by
    intro k1
    induction k1 with
    | zero => intro Mx point ls H locs hl hP hD hS i1 i3 jB0 jQ hE; exfalso; omega
    | succ k1 ih1 =>
      intro Mx point ls H locs hl hP hD hS i1 i3 jB0 jQ hE
      rw [fX4_fewestByPoints_L1] at hE
      refine lv_iload_n hx hb dX4_fewestByPoints_2 rfl (lv_at hl 1 rfl) ?_
      refine z_iconst hx hb dX4_fewestByPoints_3 ?_
      refine z_icmp_ge hx hb dX4_fewestByPoints_4 (tgt := 30) rfl (by omega) (by omega) (fun b1 => ?_) (fun b1 => ?_)
      · rw [if_pos b1] at hE
        refine z_iconst hx hb dX4_fewestByPoints_30 ?_
        refine lv_istore_n hx hb dX4_fewestByPoints_31 rfl hl (Nat.le_of_ble_eq_true rfl) (lv' := [(1, .int (iI (0))), (0, .ref (E 4))]) rfl (fun ls hl => ?_)
        have L2 : ∀ (k2 : Nat) (Mx : Mem) (number : Int) (ls : Array Slot) (H : Heap) (locs : List Loc), lv_has ls 2 [(0, .ref (E 4)), (1, .int (iI number))] → va_P D vwCl (VC E cI cC Mx) H → va_D (wA (VC E cI cC M)) (VC E cI cC Mx) → va_S (wA (VC E cI cC M)) s.heap H locs → (0 ≤ number) → (number ≤ Mx 7 0) → (Mx 7 0 - number < (k2 : Int)) → (∀ j : Int, 0 ≤ j → j < 4 → 0 ≤ Mx 5 j ∧ Mx 5 j ≤ 1000 + number) → (SI Mx) → fX4_fewestByPoints_L2 M point k2 Mx number = (r, M') → W p l e (zRm 2 49) s m args below meth c H locs 0 0 (MQ below (ciQ D (VC E cI cC) M r M') args s 0 0 (wA (VC E cI cC M))) (F0 m 32 ls []) := by
          intro k2
          induction k2 with
          | zero => intro Mx number ls H locs hl hP hD hS i1 i2 i3 jB jQ hE; exfalso; omega
          | succ k2 ih2 =>
            intro Mx number ls H locs hl hP hD hS i1 i2 i3 jB jQ hE
            have q97 := SI_n jQ
            rw [fX4_fewestByPoints_L2] at hE
            refine lv_iload_n hx hb dX4_fewestByPoints_32 rfl (lv_at hl 1 rfl) ?_
            refine lv_aload_n hx hb dX4_fewestByPoints_33 rfl (lv_at hl 0 rfl) ?_
            refine va_get (own := RX4) (ref := "NapkinSyntax$Sentence") (C := RX4) (T := TX4) (N := 7) hx hb hts hinX4 hown hK hP 4 VC_4 rfl 6 (Nat.le_of_ble_eq_true rfl) (hts (.fieldLink RX4 30 "NapkinSyntax$Sentence" "size" "I") (by decide +kernel)) (fun _ h => h) (v := .int (iI (Mx 7 0))) rfl dX4_fewestByPoints_34 ?_
            have q2 := SI_n jQ
            refine z_icmp_ge hx hb dX4_fewestByPoints_37 (tgt := 55) rfl (by omega) (by omega) (fun b3 => ?_) (fun b3 => ?_)
            · rw [if_pos b3] at hE
              refine lv_aload_n hx hb dX4_fewestByPoints_55 rfl (lv_at hl 0 rfl) ?_
              refine va_get (own := RX4) (ref := "NapkinSyntax$Sentence") (C := RX4) (T := TX4) (N := 7) hx hb hts hinX4 hown hK hP 4 VC_4 rfl 4 (Nat.le_of_ble_eq_true rfl) (hts (.fieldLink RX4 24 "NapkinSyntax$Sentence" "costs" "[I") (by decide +kernel)) (fun _ h => h) (v := .ref (E 9)) rfl dX4_fewestByPoints_56 ?_
              refine z_iconst hx hb dX4_fewestByPoints_59 ?_
              refine z_iald hx hb hK hP 9 0 VC_9 rfl (by omega) (by omega) (by decide) dX4_fewestByPoints_60 ?_
              have q4 := jB (2) (by omega) (by omega)
              refine lv_aload_n hx hb dX4_fewestByPoints_61 rfl (lv_at hl 0 rfl) ?_
              refine va_get (own := RX4) (ref := "NapkinSyntax$Sentence") (C := RX4) (T := TX4) (N := 7) hx hb hts hinX4 hown hK hP 4 VC_4 rfl 4 (Nat.le_of_ble_eq_true rfl) (hts (.fieldLink RX4 24 "NapkinSyntax$Sentence" "costs" "[I") (by decide +kernel)) (fun _ h => h) (v := .ref (E 9)) rfl dX4_fewestByPoints_62 ?_
              refine z_iconst hx hb dX4_fewestByPoints_65 ?_
              refine z_iald hx hb hK hP 9 0 VC_9 rfl (by omega) (by omega) (by decide) dX4_fewestByPoints_66 ?_
              have q5 := jB (3) (by omega) (by omega)
              refine z_mmin hx hb (hml.trans hl.1.symm) hown (hts (.methodLink RX4 109 Lib.Math.min.name) (by decide +kernel)) (hts (.static Lib.Math.min.name) (by decide +kernel)) (hts (.initialized "java/lang/Math") (by decide +kernel)) (hts (.code Lib.Math.min.name Lib.Math.min.code 2 (some .int)) (by decide +kernel)) (Nat.le_of_ble_eq_true rfl) (Nat.le_of_ble_eq_true rfl) (Nat.zero_le _) (Nat.zero_le _) (by omega) (by omega) dX4_fewestByPoints_67 ?_
              have q6 := zmin_r (Mx 5 (2)) (Mx 5 (3))
              refine lv_istore_n hx hb dX4_fewestByPoints_70 rfl hl (Nat.le_of_ble_eq_true rfl) (lv' := [(1, .int (iI (zmin (Mx 5 (2)) (Mx 5 (3))))), (0, .ref (E 4))]) rfl (fun ls hl => ?_)
              refine lv_iload_n hx hb dX4_fewestByPoints_71 rfl (lv_at hl 0 rfl) ?_
              refine z_sipush hx hb dX4_fewestByPoints_72 (by decide +kernel) ?_
              refine z_icmp_ge hx hb dX4_fewestByPoints_75 (tgt := 82) rfl (by omega) (by omega) (fun b7 => ?_) (fun b7 => ?_)
              · rw [if_pos b7] at hE
                refine z_iconst hx hb dX4_fewestByPoints_82 ?_
                obtain ⟨e1, e2⟩ := Prod.mk.inj hE
                subst e2
                exact ci_i hx hb hr hlocks e1 rfl hS hP dX4_fewestByPoints_83
              · rw [if_neg b7] at hE
                refine lv_iload_n hx hb dX4_fewestByPoints_78 rfl (lv_at hl 0 rfl) ?_
                refine lv_goto hx hb dX4_fewestByPoints_79 (tgt := 83) rfl ?_
                obtain ⟨e1, e2⟩ := Prod.mk.inj hE
                subst e2
                exact ci_i hx hb hr hlocks e1 rfl hS hP dX4_fewestByPoints_83
            · rw [if_neg b3] at hE
              refine lv_aload_n hx hb dX4_fewestByPoints_40 rfl (lv_at hl 0 rfl) ?_
              refine lv_aload_n hx hb dX4_fewestByPoints_41 rfl (lv_at hl 0 rfl) ?_
              refine lv_iload_n hx hb dX4_fewestByPoints_42 rfl (lv_at hl 1 rfl) ?_
              refine ct_Vi (VC_fix E cI cC) hZo hZb hZ S0 (kX4_foldAt l D E cI cC Z hZo hZb Mx number (by omega) jQ (fX4_foldAt Mx number) rfl) (cwV 1 hts gX4_fewestByPoints_X4_foldAt rfl rfl rfl (by decide +kernel) ⟨(Nat.le_of_ble_eq_true rfl), (Nat.le_of_ble_eq_true rfl)⟩) hK hP hD hS rfl rfl VC_4 rfl hl.1 rfl (Nat.le_of_ble_eq_true rfl) dX4_fewestByPoints_43 ⟨Nat.zero_le _, Nat.zero_le _⟩ (fun H locs hP hD hS => ?_)
              have q8 := rg_X4_foldAt jQ number
              refine ct_Vv (VC_fix E cI cC) hZo hZb hZ S0 (kX4_goOnWith l D E cI cC Z hZo hZb Mx (fX4_foldAt Mx number) (by omega) (fun j a c => by have := jB j a c; omega) (fX4_goOnWith Mx (fX4_foldAt Mx number)) rfl) (cwV 1 hts gX4_fewestByPoints_X4_goOnWith rfl rfl rfl (by decide +kernel) ⟨(Nat.le_of_ble_eq_true rfl), (Nat.le_of_ble_eq_true rfl)⟩) hK hP hD hS rfl rfl VC_4 rfl hl.1 rfl (Nat.le_of_ble_eq_true rfl) dX4_fewestByPoints_46 ⟨Nat.zero_le _, Nat.zero_le _⟩ (fun H locs hP hD hS => ?_)
              refine z_iinc hx hb dX4_fewestByPoints_49 hl (k := 1) rfl (Nat.le_of_ble_eq_true rfl) (lv' := [(1, .int (iI (number + 1))), (0, .ref (E 4))]) rfl (fun ls hl => ?_)
              refine lv_goto hx hb dX4_fewestByPoints_52 (tgt := 32) rfl ?_
              exact ih2 (fX4_goOnWith Mx (fX4_foldAt Mx number)) (number + 1) ls _ _ (lv_sub hl [1, 0] rfl) hP hD hS (by omega) (by rw [fr_fX4_goOnWith _ rfl rfl]; omega) (by rw [fr_fX4_goOnWith _ rfl rfl]; omega) (fun j a c => by have := goOn_b (f := fX4_foldAt Mx number) jB j a c; omega) (SI_of (fr_fX4_goOnWith _ rfl rfl) (fr_fX4_goOnWith _ rfl rfl) (fr_fX4_goOnWith _ rfl rfl) (fr_fX4_goOnWith _ rfl rfl) (fr_fX4_goOnWith _ rfl rfl) jQ) hE
        exact L2 8 Mx (0) ls _ _ (lv_sub hl [1, 0] rfl) hP hD hS (by omega) (by have := SI_n jQ; omega) (by have := SI_n jQ; omega) (fun j a c => by have := jB0 j a (by omega); omega) jQ hE
      · rw [if_neg b1] at hE
        refine lv_aload_n hx hb dX4_fewestByPoints_7 rfl (lv_at hl 0 rfl) ?_
        refine va_get (own := RX4) (ref := "NapkinSyntax$Sentence") (C := RX4) (T := TX4) (N := 7) hx hb hts hinX4 hown hK hP 4 VC_4 rfl 4 (Nat.le_of_ble_eq_true rfl) (hts (.fieldLink RX4 24 "NapkinSyntax$Sentence" "costs" "[I") (by decide +kernel)) (fun _ h => h) (v := .ref (E 9)) rfl dX4_fewestByPoints_8 ?_
        refine lv_iload_n hx hb dX4_fewestByPoints_11 rfl (lv_at hl 1 rfl) ?_
        refine lv_iload_n hx hb dX4_fewestByPoints_12 rfl (lv_at hl 1 rfl) ?_
        refine z_if_ne hx hb dX4_fewestByPoints_13 (tgt := 20) rfl (by omega) (fun b9 => ?_) (fun b9 => ?_)
        · rw [if_neg b9] at hE
          refine z_sipush hx hb dX4_fewestByPoints_20 (by decide +kernel) ?_
          refine z_iast hx hb hK hP hD hS 9 0 VC_9 rfl (by omega) (by omega) (by decide) dX4_fewestByPoints_23 VCw_5 (fun H locs hP hD hS => ?_)
          refine z_iinc hx hb dX4_fewestByPoints_24 hl (k := 1) rfl (Nat.le_of_ble_eq_true rfl) (lv' := [(1, .int (iI (point + 1))), (0, .ref (E 4))]) rfl (fun ls hl => ?_)
          refine lv_goto hx hb dX4_fewestByPoints_27 (tgt := 2) rfl ?_
          exact ih1 (mst Mx 5 point (1000)) (point + 1) ls _ _ (lv_sub hl [1, 0] rfl) hP hD hS (by omega) (by omega) (mst_r jB0 (by omega) (by omega)) jQ hE
        · rw [if_pos b9] at hE
          refine z_iconst hx hb dX4_fewestByPoints_16 ?_
          refine lv_goto hx hb dX4_fewestByPoints_17 (tgt := 23) rfl ?_
          refine z_iast hx hb hK hP hD hS 9 0 VC_9 rfl (by omega) (by omega) (by decide) dX4_fewestByPoints_23 VCw_5 (fun H locs hP hD hS => ?_)
          refine z_iinc hx hb dX4_fewestByPoints_24 hl (k := 1) rfl (Nat.le_of_ble_eq_true rfl) (lv' := [(1, .int (iI (point + 1))), (0, .ref (E 4))]) rfl (fun ls hl => ?_)
          refine lv_goto hx hb dX4_fewestByPoints_27 (tgt := 2) rfl ?_
          exact ih1 (mst Mx 5 point (0)) (point + 1) ls _ _ (lv_sub hl [1, 0] rfl) hP hD hS (by omega) (by omega) (mst_r jB0 (by omega) (by omega)) jQ hE
  exact L1 5 M (0) ls _ _ (lv_sub hl [1, 0] rfl) hP hD hS (by omega) (by omega) (fun j a c => by omega) hQ hE

theorem fr_fX4_fewestByPoints_L2 (M : Mem) (point : Int) {r : Nat} (h5 : Nat.beq r 5 = false) (h6 : Nat.beq r 6 = false) : ∀ (k : Nat) (Mx : Mem) (number : Int), (fX4_fewestByPoints_L2 M point k Mx number).2 r = Mx r := by
  intro k
  induction k with
  | zero => intros; rfl
  | succ k ih =>
    intro Mx number
    rw [fX4_fewestByPoints_L2]
    (repeat' with_reducible refine frite_w (fun _ => ?_) (fun _ => ?_)) <;> first | with_reducible rfl | simp only [ih, mst_o, msf_o, mcp_o, fr_fX4_goOnWith, h5, h6]
theorem fr_fX4_fewestByPoints_L1 (M : Mem) {r : Nat} (h5 : Nat.beq r 5 = false) (h6 : Nat.beq r 6 = false) : ∀ (k : Nat) (Mx : Mem) (point : Int), (fX4_fewestByPoints_L1 M k Mx point).2 r = Mx r := by
  intro k
  induction k with
  | zero => intros; rfl
  | succ k ih =>
    intro Mx point
    rw [fX4_fewestByPoints_L1]
    (repeat' with_reducible refine frite_w (fun _ => ?_) (fun _ => ?_)) <;> first | with_reducible rfl | simp only [ih, mst_o, msf_o, mcp_o, fr_fX4_goOnWith, h5, h6, fr_fX4_fewestByPoints_L2]
theorem fr_fX4_fewestByPoints {M : Mem} {r : Nat} (h5 : Nat.beq r 5 = false) (h6 : Nat.beq r 6 = false) : (fX4_fewestByPoints M).2 r = M r := by
  unfold fX4_fewestByPoints
  (repeat' with_reducible refine frite_w (fun _ => ?_) (fun _ => ?_)) <;> first | with_reducible rfl | simp only [mst_o, msf_o, mcp_o, fr_fX4_goOnWith, h5, h6, fr_fX4_fewestByPoints_L2, fr_fX4_fewestByPoints_L1]


theorem rg_X4_fewestByPoints_L2 {M : Mem} (p : Int) : ∀ (k : Nat) (Mx : Mem) (n : Int), (∀ j : Int, 0 ≤ j → j < 4 → 0 ≤ Mx 5 j ∧ Mx 5 j ≤ 1000 + n) → -1 ≤ (fX4_fewestByPoints_L2 M p k Mx n).1 ∧ (fX4_fewestByPoints_L2 M p k Mx n).1 ≤ 1000 := by
  intro k
  induction k with
  | zero => intro Mx n _; exact ⟨(by decide : (-1 : Int) ≤ 0), (by decide : (0 : Int) ≤ 1000)⟩
  | succ k ih =>
    intro Mx n h
    rw [fX4_fewestByPoints_L2]
    have a := h 2 (by decide) (by decide)
    have b := h 3 (by decide) (by decide)
    have z := zmin_r (Mx 5 2) (Mx 5 3)
    split
    · split
      · exact ⟨(by decide : (-1 : Int) ≤ -1), (by decide : (-1 : Int) ≤ 1000)⟩
      · exact ⟨(by omega : -1 ≤ zmin (Mx 5 2) (Mx 5 3)), (by omega : zmin (Mx 5 2) (Mx 5 3) ≤ 1000)⟩
    · exact ih _ _ (fun j g1 g2 => by have := goOn_b (f := fX4_foldAt Mx n) h j g1 g2; omega)
theorem rg_X4_fewestByPoints_L1 {M : Mem} : ∀ (k : Nat) (Mx : Mem) (p : Int), 0 ≤ p → (∀ j : Int, 0 ≤ j → j < p → 0 ≤ Mx 5 j ∧ Mx 5 j ≤ 1000) → -1 ≤ (fX4_fewestByPoints_L1 M k Mx p).1 ∧ (fX4_fewestByPoints_L1 M k Mx p).1 ≤ 1000 := by
  intro k
  induction k with
  | zero => intro Mx p _ _; exact ⟨(by decide : (-1 : Int) ≤ 0), (by decide : (0 : Int) ≤ 1000)⟩
  | succ k ih =>
    intro Mx p hp h
    rw [fX4_fewestByPoints_L1]
    split
    · exact rg_X4_fewestByPoints_L2 _ 8 Mx 0 (fun j a c => by have := h j a (by omega); omega)
    · split
      · exact ih (mst Mx 5 p 0) (p + 1) (by omega) (mst_r h (by omega) (by omega))
      · exact ih (mst Mx 5 p 1000) (p + 1) (by omega) (mst_r h (by omega) (by omega))
theorem rg_X4_fewestByPoints (M : Mem) : -1 ≤ (fX4_fewestByPoints M).1 ∧ (fX4_fewestByPoints M).1 ≤ 1000 := rg_X4_fewestByPoints_L1 5 M 0 (by decide) (fun j a c => by omega)

def fX4_isToldAlike (M : Mem) : Int × Mem := if ((fX4_errorByNapkins M) = (fX4_errorByPhrases M)) then if ((fX4_fewestBySets M) = (fX4_fewestByPoints M).1) then if ((fX4_doubtByNapkins (fX4_fewestByPoints M).2) = (fX4_doubtByFolds (fX4_fewestByPoints M).2)) then ((1), (fX4_fewestByPoints M).2) else ((0), (fX4_fewestByPoints M).2) else ((0), (fX4_fewestByPoints M).2) else ((0), M)
set_option maxRecDepth 100000 in
set_option maxHeartbeats 4000000 in
theorem kX4_isToldAlike (l : Launch) (D : va_G) (E : Nat → Nat) (cI cC : ClassId) (Z : State → Prop) (hZo : ∀ M : Mem, ZOk (VC E cI cC M) Z) (hZb : ZBl Z) (M : Mem) (hQ : SI M) (r : Int) (M' : Mem) (hE : fX4_isToldAlike M = (r, M')) : Ci l yX4_isToldAlike wsX4_isToldAlike 4 91 [.ref (E 4)] D (TY cI cC) (VC E cI cC) Z M r M' := by
  refine Ci.of (cc := cX4_isToldAlike) (maxL := 1) (ret := (some .boolean)) (by decide +kernel) rfl (Nat.le_of_ble_eq_true rfl) ?_
  intro p e s m args below meth c ls hx hb hml hr hown hts hlocks hP hK hD hZ hS hl
  have hl : lv_has ls 1 [(0, .ref (E 4))] := hl
  have S0 : CallFix p m c cX4_isToldAlike 1 s args wsX4_isToldAlike RX4 := ⟨hx, hb, hml, hown, hts⟩
  rw [fX4_isToldAlike] at hE
  refine lv_aload_n hx hb dX4_isToldAlike_0 rfl (lv_at hl 0 rfl) ?_
  refine ct_Vi (VC_fix E cI cC) hZo hZb hZ S0 (kX4_errorByNapkins l D E cI cC Z hZo hZb M hQ (fX4_errorByNapkins M) rfl) (cwV 0 hts gX4_isToldAlike_X4_errorByNapkins rfl rfl rfl (by decide +kernel) ⟨(Nat.le_of_ble_eq_true rfl), (Nat.le_of_ble_eq_true rfl)⟩) hK hP hD hS rfl rfl VC_4 rfl hl.1 rfl (Nat.le_of_ble_eq_true rfl) dX4_isToldAlike_1 ⟨Nat.zero_le _, Nat.zero_le _⟩ (fun H locs hP hD hS => ?_)
  have q1 := rg_X4_errorByNapkins hQ
  refine lv_aload_n hx hb dX4_isToldAlike_4 rfl (lv_at hl 0 rfl) ?_
  refine ct_Vi (VC_fix E cI cC) hZo hZb hZ S0 (kX4_errorByPhrases l D E cI cC Z hZo hZb M hQ (fX4_errorByPhrases M) rfl) (cwV 0 hts gX4_isToldAlike_X4_errorByPhrases rfl rfl rfl (by decide +kernel) ⟨(Nat.le_of_ble_eq_true rfl), (Nat.le_of_ble_eq_true rfl)⟩) hK hP hD hS rfl rfl VC_4 rfl hl.1 rfl (Nat.le_of_ble_eq_true rfl) dX4_isToldAlike_5 ⟨Nat.zero_le _, Nat.zero_le _⟩ (fun H locs hP hD hS => ?_)
  have q2 := rg_X4_errorByPhrases hQ
  refine z_icmp_ne hx hb dX4_isToldAlike_8 (tgt := 37) rfl (by omega) (by omega) (fun b3 => ?_) (fun b3 => ?_)
  · rw [if_neg b3] at hE
    refine z_iconst hx hb dX4_isToldAlike_37 ?_
    obtain ⟨e1, e2⟩ := Prod.mk.inj hE
    subst e2
    exact ci_i hx hb hr hlocks e1 nr_b0 hS hP dX4_isToldAlike_38
  · rw [if_pos b3] at hE
    refine lv_aload_n hx hb dX4_isToldAlike_11 rfl (lv_at hl 0 rfl) ?_
    refine ct_Vi (VC_fix E cI cC) hZo hZb hZ S0 (kX4_fewestBySets l D E cI cC Z hZo hZb M hQ (fX4_fewestBySets M) rfl) (cwV 0 hts gX4_isToldAlike_X4_fewestBySets rfl rfl rfl (by decide +kernel) ⟨(Nat.le_of_ble_eq_true rfl), (Nat.le_of_ble_eq_true rfl)⟩) hK hP hD hS rfl rfl VC_4 rfl hl.1 rfl (Nat.le_of_ble_eq_true rfl) dX4_isToldAlike_12 ⟨Nat.zero_le _, Nat.zero_le _⟩ (fun H locs hP hD hS => ?_)
    have q4 := rg_X4_fewestBySets hQ
    refine lv_aload_n hx hb dX4_isToldAlike_15 rfl (lv_at hl 0 rfl) ?_
    refine ct_Vi (VC_fix E cI cC) hZo hZb hZ S0 (kX4_fewestByPoints l D E cI cC Z hZo hZb M hQ (fX4_fewestByPoints M).1 (fX4_fewestByPoints M).2 (Prod.ext rfl rfl)) (cwV 0 hts gX4_isToldAlike_X4_fewestByPoints rfl rfl rfl (by decide +kernel) ⟨(Nat.le_of_ble_eq_true rfl), (Nat.le_of_ble_eq_true rfl)⟩) hK hP hD hS rfl rfl VC_4 rfl hl.1 rfl (Nat.le_of_ble_eq_true rfl) dX4_isToldAlike_16 ⟨Nat.zero_le _, Nat.zero_le _⟩ (fun H locs hP hD hS => ?_)
    have q5 := rg_X4_fewestByPoints M
    refine z_icmp_ne hx hb dX4_isToldAlike_19 (tgt := 37) rfl (by omega) (by omega) (fun b6 => ?_) (fun b6 => ?_)
    · rw [if_neg b6] at hE
      refine z_iconst hx hb dX4_isToldAlike_37 ?_
      obtain ⟨e1, e2⟩ := Prod.mk.inj hE
      subst e2
      exact ci_i hx hb hr hlocks e1 nr_b0 hS hP dX4_isToldAlike_38
    · rw [if_pos b6] at hE
      refine lv_aload_n hx hb dX4_isToldAlike_22 rfl (lv_at hl 0 rfl) ?_
      refine ct_Vi (VC_fix E cI cC) hZo hZb hZ S0 (kX4_doubtByNapkins l D E cI cC Z hZo hZb (fX4_fewestByPoints M).2 (SI_of (fr_fX4_fewestByPoints  rfl rfl) (fr_fX4_fewestByPoints  rfl rfl) (fr_fX4_fewestByPoints  rfl rfl) (fr_fX4_fewestByPoints  rfl rfl) (fr_fX4_fewestByPoints  rfl rfl) hQ) (fX4_doubtByNapkins (fX4_fewestByPoints M).2) rfl) (cwV 0 hts gX4_isToldAlike_X4_doubtByNapkins rfl rfl rfl (by decide +kernel) ⟨(Nat.le_of_ble_eq_true rfl), (Nat.le_of_ble_eq_true rfl)⟩) hK hP hD hS rfl rfl VC_4 rfl hl.1 rfl (Nat.le_of_ble_eq_true rfl) dX4_isToldAlike_23 ⟨Nat.zero_le _, Nat.zero_le _⟩ (fun H locs hP hD hS => ?_)
      have q7 := rg_X4_doubtByNapkins (SI_of (fr_fX4_fewestByPoints  rfl rfl) (fr_fX4_fewestByPoints  rfl rfl) (fr_fX4_fewestByPoints  rfl rfl) (fr_fX4_fewestByPoints  rfl rfl) (fr_fX4_fewestByPoints  rfl rfl) hQ)
      refine lv_aload_n hx hb dX4_isToldAlike_26 rfl (lv_at hl 0 rfl) ?_
      refine ct_Vi (VC_fix E cI cC) hZo hZb hZ S0 (kX4_doubtByFolds l D E cI cC Z hZo hZb (fX4_fewestByPoints M).2 (SI_of (fr_fX4_fewestByPoints  rfl rfl) (fr_fX4_fewestByPoints  rfl rfl) (fr_fX4_fewestByPoints  rfl rfl) (fr_fX4_fewestByPoints  rfl rfl) (fr_fX4_fewestByPoints  rfl rfl) hQ) (fX4_doubtByFolds (fX4_fewestByPoints M).2) rfl) (cwV 0 hts gX4_isToldAlike_X4_doubtByFolds rfl rfl rfl (by decide +kernel) ⟨(Nat.le_of_ble_eq_true rfl), (Nat.le_of_ble_eq_true rfl)⟩) hK hP hD hS rfl rfl VC_4 rfl hl.1 rfl (Nat.le_of_ble_eq_true rfl) dX4_isToldAlike_27 ⟨Nat.zero_le _, Nat.zero_le _⟩ (fun H locs hP hD hS => ?_)
      have q8 := rg_X4_doubtByFolds (SI_of (fr_fX4_fewestByPoints  rfl rfl) (fr_fX4_fewestByPoints  rfl rfl) (fr_fX4_fewestByPoints  rfl rfl) (fr_fX4_fewestByPoints  rfl rfl) (fr_fX4_fewestByPoints  rfl rfl) hQ)
      refine z_icmp_ne hx hb dX4_isToldAlike_30 (tgt := 37) rfl (by omega) (by omega) (fun b9 => ?_) (fun b9 => ?_)
      · rw [if_neg b9] at hE
        refine z_iconst hx hb dX4_isToldAlike_37 ?_
        obtain ⟨e1, e2⟩ := Prod.mk.inj hE
        subst e2
        exact ci_i hx hb hr hlocks e1 nr_b0 hS hP dX4_isToldAlike_38
      · rw [if_pos b9] at hE
        refine z_iconst hx hb dX4_isToldAlike_33 ?_
        refine lv_goto hx hb dX4_isToldAlike_34 (tgt := 38) rfl ?_
        obtain ⟨e1, e2⟩ := Prod.mk.inj hE
        subst e2
        exact ci_i hx hb hr hlocks e1 nr_b1 hS hP dX4_isToldAlike_38

theorem fr_fX4_isToldAlike {M : Mem} {r : Nat} (h5 : Nat.beq r 5 = false) (h6 : Nat.beq r 6 = false) : (fX4_isToldAlike M).2 r = M r := by
  unfold fX4_isToldAlike
  (repeat' with_reducible refine frite_w (fun _ => ?_) (fun _ => ?_)) <;> first | with_reducible rfl | simp only [mst_o, msf_o, mcp_o, fr_fX4_fewestByPoints, h5, h6]


theorem bX4_isToldAlike (M : Mem) : 0 ≤ (fX4_isToldAlike M).1 ∧ (fX4_isToldAlike M).1 ≤ 1 := by unfold fX4_isToldAlike; (repeat' split) <;> first | exact ⟨(by decide : (0 : Int) ≤ 1), (by decide : (1 : Int) ≤ 1)⟩ | exact ⟨(by decide : (0 : Int) ≤ 0), (by decide : (0 : Int) ≤ 1)⟩
