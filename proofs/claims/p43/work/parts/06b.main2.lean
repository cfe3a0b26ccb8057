/-! the class NapkinSyntax: what changes it -/

theorem rg_X6_placesUnder_L2 {M : Mem} (n c0 t0 b : Int) (K : Int → Int → Int) (hK : ∀ c t : Int, 0 ≤ c → c ≤ b → 0 ≤ K c t ∧ K c t ≤ 1000) : ∀ (k : Nat) (c p : Int), 0 ≤ c → c + k ≤ b → 0 ≤ fX6_placesUnder_L2 M n c0 t0 K k c p ∧ fX6_placesUnder_L2 M n c0 t0 K k c p ≤ 1000 := by
  intro k
  induction k with
  | zero => intro c p _ _; exact ⟨(by decide : (0 : Int) ≤ 0), (by decide : (0 : Int) ≤ 1000)⟩
  | succ k ih =>
    intro c p h1 h2
    rw [fX6_placesUnder_L2]
    split
    · exact hK _ _ h1 (by omega)
    · split
      · exact ih _ _ (by omega) (by omega)
      · exact ih _ _ (by omega) (by omega)
theorem rg_X6_placesUnder_L1 {M : Mem} (n : Int) : ∀ (k : Nat) (c t : Int), 0 ≤ c → c + 7 * k ≤ 1000 → 0 ≤ fX6_placesUnder_L1 M n k c t ∧ fX6_placesUnder_L1 M n k c t ≤ 1000 := by
  intro k
  induction k with
  | zero => intro c t _ _; exact ⟨(by decide : (0 : Int) ≤ 0), (by decide : (0 : Int) ≤ 1000)⟩
  | succ k ih =>
    intro c t h1 h2
    rw [fX6_placesUnder_L1]
    split
    · omega
    · exact rg_X6_placesUnder_L2 n c t (c + 7) _ (fun c' t' a b => ih c' t' a (by omega)) 7 c 0 h1 (by omega)
theorem rg_X6_placesUnder (M : Mem) (n : Int) : 0 ≤ fX6_placesUnder M n ∧ fX6_placesUnder M n ≤ 1000 := rg_X6_placesUnder_L1 n 4 0 0 (by decide) (by decide)

def fX8_isWell_L2 (M : Mem) (Mx : Mem) (tab : Int) : Nat → Int → (Int × Mem)
  | 0, _ => (0, Mx)
  | k2 + 1, nap => if ((fX6_napkins Mx) ≤ nap) then ((1), Mx) else if ((fX6_placesUnder Mx nap) ≤ (1)) then fX8_isWell_L2 M Mx tab k2 (nap + 1) else ((0), Mx)
def fX8_isWell_L1 (M : Mem) : Nat → Mem → Int → (Int × Mem)
  | 0, Mx, _ => (0, Mx)
  | k1 + 1, Mx, tab => if ((3) ≤ tab) then fX8_isWell_L2 M Mx tab 12 (0) else if ((fX4_isToldAlike (fX8_heard Mx tab)).1 = 0) then ((0), (fX4_isToldAlike (fX8_heard Mx tab)).2) else if ((fX4_countOf (fX4_isToldAlike (fX8_heard Mx tab)).2 (0)) = 0) then fX8_isWell_L1 M k1 (fX4_isToldAlike (fX8_heard Mx tab)).2 (tab + 1) else ((0), (fX4_isToldAlike (fX8_heard Mx tab)).2)
def fX8_isWell (M : Mem) : Int × Mem := fX8_isWell_L1 M 4 M (0)
set_option maxRecDepth 100000 in
set_option maxHeartbeats 4000000 in
theorem kX8_isWell (l : Launch) (D : va_G) (E : Nat → Nat) (cI cC : ClassId) (Z : State → Prop) (hZo : ∀ M : Mem, ZOk (VC E cI cC M) Z) (hZb : ZBl Z) (M : Mem) (hC : CI M) (hQ : SI M) (r : Int) (M' : Mem) (hE : fX8_isWell M = (r, M')) : Ci l yX8_isWell wsX8_isWell 5 111 [.ref (E 0)] D (TY cI cC) (VC E cI cC) Z M r M' := by
  refine Ci.of (cc := cX8_isWell) (maxL := 3) (ret := (some .boolean)) (by decide +kernel) rfl (Nat.le_of_ble_eq_true rfl) ?_
  intro p e s m args below meth c ls hx hb hml hr hown hts hlocks hP hK hD hZ hS hl
  have hl : lv_has ls 3 [(0, .ref (E 0))] := hl
  have S0 : CallFix p m c cX8_isWell 3 s args wsX8_isWell RX8 := ⟨hx, hb, hml, hown, hts⟩
  have hinX8 : ∀ w ∈ u_ws RX8 TX8 12, w ∈ wsX8_isWell := by decide +kernel
  rw [fX8_isWell] at hE
  refine z_iconst hx hb dX8_isWell_0 ?_
  refine lv_istore_n hx hb dX8_isWell_1 rfl hl (Nat.le_of_ble_eq_true rfl) (lv' := [(1, .int (iI (0))), (0, .ref (E 0))]) rfl (fun ls hl => ?_)
  have L1 : ∀ (k1 : Nat) (Mx : Mem) (tab : Int) (ls : Array Slot) (H : Heap) (locs : List Loc), lv_has ls 3 [(0, .ref (E 0)), (1, .int (iI tab))] → va_P D vwCl (VC E cI cC Mx) H → va_D (wA (VC E cI cC M)) (VC E cI cC Mx) → va_S (wA (VC E cI cC M)) s.heap H locs → (0 ≤ tab ∧ tab ≤ 3) → (3 - tab < (k1 : Int)) → (CI Mx) → (SI Mx) → fX8_isWell_L1 M k1 Mx tab = (r, M') → W p l e (zRm 5 111) s m args below meth c H locs 0 0 (MQ below (ciQ D (VC E cI cC) M r M') args s 0 0 (wA (VC E cI cC M))) (F0 m 2 ls []) := by
    intro k1
    induction k1 with
    | zero => intro Mx tab ls H locs hl hP hD hS i1 i3 jC jQ hE; exfalso; omega
    | succ k1 ih1 =>
      intro Mx tab ls H locs hl hP hD hS i1 i3 jC jQ hE
      rw [fX8_isWell_L1] at hE
      refine lv_iload_n hx hb dX8_isWell_2 rfl (lv_at hl 1 rfl) ?_
      refine z_iconst hx hb dX8_isWell_3 ?_
      refine z_icmp_ge hx hb dX8_isWell_4 (tgt := 36) rfl (by omega) (by omega) (fun b1 => ?_) (fun b1 => ?_)
      · rw [if_pos b1] at hE
        refine z_iconst hx hb dX8_isWell_36 ?_
        refine lv_istore_n hx hb dX8_isWell_37 rfl hl (Nat.le_of_ble_eq_true rfl) (lv' := [(1, .int (iI (0))), (0, .ref (E 0))]) rfl (fun ls hl => ?_)
        have L2 : ∀ (k2 : Nat) (nap : Int) (ls : Array Slot) (H : Heap) (locs : List Loc), lv_has ls 3 [(0, .ref (E 0)), (1, .int (iI nap))] → va_P D vwCl (VC E cI cC Mx) H → va_D (wA (VC E cI cC M)) (VC E cI cC Mx) → va_S (wA (VC E cI cC M)) s.heap H locs → (0 ≤ nap ∧ nap ≤ fX6_napkins Mx) → (fX6_napkins Mx - nap < (k2 : Int)) → fX8_isWell_L2 M Mx tab k2 nap = (r, M') → W p l e (zRm 5 111) s m args below meth c H locs 0 0 (MQ below (ciQ D (VC E cI cC) M r M') args s 0 0 (wA (VC E cI cC M))) (F0 m 38 ls []) := by
          intro k2
          induction k2 with
          | zero => intro nap ls H locs hl hP hD hS i1 i3 hE; exfalso; omega
          | succ k2 ih2 =>
            intro nap ls H locs hl hP hD hS i1 i3 hE
            have q97 := rg_X6_napkins jC
            rw [fX8_isWell_L2] at hE
            refine lv_iload_n hx hb dX8_isWell_38 rfl (lv_at hl 1 rfl) ?_
            refine lv_aload_n hx hb dX8_isWell_39 rfl (lv_at hl 0 rfl) ?_
            refine va_get (own := RX8) (ref := "NapkinSyntax") (C := RX8) (T := TX8) (N := 12) hx hb hts hinX8 hown hK hP 0 VC_0 rfl 1 (Nat.le_of_ble_eq_true rfl) (hts (.fieldLink RX8 20 "NapkinSyntax" "now" "LNapkinSyntax$State;") (by decide +kernel)) (fun _ h => h) (v := .ref (E 2)) rfl dX8_isWell_40 ?_
            refine ct_Vi (VC_fix E cI cC) hZo hZb hZ S0 (kX6_napkins l D E cI cC Z hZo hZb Mx  (fX6_napkins Mx) rfl) (cwV 0 hts gX8_isWell_X6_napkins rfl rfl rfl (by decide +kernel) ⟨(Nat.le_of_ble_eq_true rfl), (Nat.le_of_ble_eq_true rfl)⟩) hK hP hD hS rfl rfl VC_2 rfl hl.1 rfl (Nat.le_of_ble_eq_true rfl) dX8_isWell_43 ⟨Nat.zero_le _, Nat.zero_le _⟩ (fun H locs hP hD hS => ?_)
            have q2 := rg_X6_napkins jC
            refine z_icmp_ge hx hb dX8_isWell_46 (tgt := 69) rfl (by omega) (by omega) (fun b3 => ?_) (fun b3 => ?_)
            · rw [if_pos b3] at hE
              refine z_iconst hx hb dX8_isWell_69 ?_
              obtain ⟨e1, e2⟩ := Prod.mk.inj hE
              subst e2
              exact ci_i hx hb hr hlocks e1 nr_b1 hS hP dX8_isWell_70
            · rw [if_neg b3] at hE
              refine lv_aload_n hx hb dX8_isWell_49 rfl (lv_at hl 0 rfl) ?_
              refine va_get (own := RX8) (ref := "NapkinSyntax") (C := RX8) (T := TX8) (N := 12) hx hb hts hinX8 hown hK hP 0 VC_0 rfl 1 (Nat.le_of_ble_eq_true rfl) (hts (.fieldLink RX8 20 "NapkinSyntax" "now" "LNapkinSyntax$State;") (by decide +kernel)) (fun _ h => h) (v := .ref (E 2)) rfl dX8_isWell_50 ?_
              refine lv_iload_n hx hb dX8_isWell_53 rfl (lv_at hl 1 rfl) ?_
              refine ct_Vi (VC_fix E cI cC) hZo hZb hZ S0 (kX6_placesUnder l D E cI cC Z hZo hZb Mx nap (by omega) jC (fX6_placesUnder Mx nap) rfl) (cwV 1 hts gX8_isWell_X6_placesUnder rfl rfl rfl (by decide +kernel) ⟨(Nat.le_of_ble_eq_true rfl), (Nat.le_of_ble_eq_true rfl)⟩) hK hP hD hS rfl rfl VC_2 rfl hl.1 rfl (Nat.le_of_ble_eq_true rfl) dX8_isWell_54 ⟨Nat.zero_le _, Nat.zero_le _⟩ (fun H locs hP hD hS => ?_)
              have q4 := rg_X6_placesUnder Mx nap
              refine z_iconst hx hb dX8_isWell_57 ?_
              refine z_icmp_le hx hb dX8_isWell_58 (tgt := 63) rfl (by omega) (by omega) (fun b5 => ?_) (fun b5 => ?_)
              · rw [if_pos b5] at hE
                refine z_iinc hx hb dX8_isWell_63 hl (k := 1) rfl (Nat.le_of_ble_eq_true rfl) (lv' := [(1, .int (iI (nap + 1))), (0, .ref (E 0))]) rfl (fun ls hl => ?_)
                refine lv_goto hx hb dX8_isWell_66 (tgt := 38) rfl ?_
                exact ih2 (nap + 1) ls _ _ (lv_sub hl [1, 0] rfl) hP hD hS (by omega) (by omega) hE
              · rw [if_neg b5] at hE
                refine z_iconst hx hb dX8_isWell_61 ?_
                obtain ⟨e1, e2⟩ := Prod.mk.inj hE
                subst e2
                exact ci_i hx hb hr hlocks e1 nr_b0 hS hP dX8_isWell_62
        exact L2 12 (0) ls _ _ (lv_sub hl [1, 0] rfl) hP hD hS (by have := rg_X6_napkins jC; omega) (by have := rg_X6_napkins jC; omega) hE
      · rw [if_neg b1] at hE
        refine lv_aload_n hx hb dX8_isWell_7 rfl (lv_at hl 0 rfl) ?_
        refine lv_iload_n hx hb dX8_isWell_8 rfl (lv_at hl 1 rfl) ?_
        refine ct_Vr (VC_fix E cI cC) hZo hZb hZ S0 (kX8_heard l D E cI cC Z hZo hZb Mx tab (by omega) jC (fX8_heard Mx tab) rfl) (cwV 1 hts gX8_isWell_X8_heard rfl rfl rfl (by decide +kernel) ⟨(Nat.le_of_ble_eq_true rfl), (Nat.le_of_ble_eq_true rfl)⟩) hK hP hD hS rfl rfl VC_0 rfl hl.1 rfl (Nat.le_of_ble_eq_true rfl) dX8_isWell_9 ⟨Nat.zero_le _, Nat.zero_le _⟩ (fun H locs hP hD hS => ?_)
        refine lv_astore_n hx hb dX8_isWell_12 rfl hl (Nat.le_of_ble_eq_true rfl) (lv' := [(2, .ref (E 4)), (0, .ref (E 0)), (1, .int (iI tab))]) rfl (fun ls hl => ?_)
        refine lv_aload_n hx hb dX8_isWell_13 rfl (lv_at hl 0 rfl) ?_
        refine ct_Vi (VC_fix E cI cC) hZo hZb hZ S0 (kX4_isToldAlike l D E cI cC Z hZo hZb (fX8_heard Mx tab) (SI_heard jC jQ tab) (fX4_isToldAlike (fX8_heard Mx tab)).1 (fX4_isToldAlike (fX8_heard Mx tab)).2 (Prod.ext rfl rfl)) (cwV 0 hts gX8_isWell_X4_isToldAlike rfl rfl rfl (by decide +kernel) ⟨(Nat.le_of_ble_eq_true rfl), (Nat.le_of_ble_eq_true rfl)⟩) hK hP hD hS rfl rfl VC_4 rfl hl.1 rfl (Nat.le_of_ble_eq_true rfl) dX8_isWell_14 ⟨Nat.zero_le _, Nat.zero_le _⟩ (fun H locs hP hD hS => ?_)
        have q6 := bX4_isToldAlike (fX8_heard Mx tab)
        refine z_if_eq hx hb dX8_isWell_17 (tgt := 28) rfl (by omega) (fun b7 => ?_) (fun b7 => ?_)
        · rw [if_pos b7] at hE
          refine z_iconst hx hb dX8_isWell_28 ?_
          obtain ⟨e1, e2⟩ := Prod.mk.inj hE
          subst e2
          exact ci_i hx hb hr hlocks e1 nr_b0 hS hP dX8_isWell_29
        · rw [if_neg b7] at hE
          refine lv_aload_n hx hb dX8_isWell_20 rfl (lv_at hl 0 rfl) ?_
          refine z_iconst hx hb dX8_isWell_21 ?_
          refine ct_Vi (VC_fix E cI cC) hZo hZb hZ S0 (kX4_countOf l D E cI cC Z hZo hZb (fX4_isToldAlike (fX8_heard Mx tab)).2 (0) (by omega) (SI_of (fr_fX4_isToldAlike rfl rfl) (fr_fX4_isToldAlike rfl rfl) (fr_fX4_isToldAlike rfl rfl) (fr_fX4_isToldAlike rfl rfl) (fr_fX4_isToldAlike rfl rfl) (SI_heard jC jQ tab)) (fX4_countOf (fX4_isToldAlike (fX8_heard Mx tab)).2 (0)) rfl) (cwV 1 hts gX8_isWell_X4_countOf rfl rfl rfl (by decide +kernel) ⟨(Nat.le_of_ble_eq_true rfl), (Nat.le_of_ble_eq_true rfl)⟩) hK hP hD hS rfl rfl VC_4 rfl hl.1 rfl (Nat.le_of_ble_eq_true rfl) dX8_isWell_22 ⟨Nat.zero_le _, Nat.zero_le _⟩ (fun H locs hP hD hS => ?_)
          have q8 := rg_X4_countOf (SI_of (fr_fX4_isToldAlike rfl rfl) (fr_fX4_isToldAlike rfl rfl) (fr_fX4_isToldAlike rfl rfl) (fr_fX4_isToldAlike rfl rfl) (fr_fX4_isToldAlike rfl rfl) (SI_heard jC jQ tab)) (0)
          refine z_if_eq hx hb dX8_isWell_25 (tgt := 30) rfl (by omega) (fun b9 => ?_) (fun b9 => ?_)
          · rw [if_pos b9] at hE
            refine z_iinc hx hb dX8_isWell_30 hl (k := 2) rfl (Nat.le_of_ble_eq_true rfl) (lv' := [(1, .int (iI (tab + 1))), (2, .ref (E 4)), (0, .ref (E 0))]) rfl (fun ls hl => ?_)
            refine lv_goto hx hb dX8_isWell_33 (tgt := 2) rfl ?_
            exact ih1 (fX4_isToldAlike (fX8_heard Mx tab)).2 (tab + 1) ls _ _ (lv_sub hl [2, 0] rfl) hP hD hS (by omega) (by omega) (CI_of0 (fr_fX4_isToldAlike rfl rfl) (CI_of0 (fr_fX8_heard tab rfl rfl rfl rfl rfl) jC)) (SI_of (fr_fX4_isToldAlike rfl rfl) (fr_fX4_isToldAlike rfl rfl) (fr_fX4_isToldAlike rfl rfl) (fr_fX4_isToldAlike rfl rfl) (fr_fX4_isToldAlike rfl rfl) (SI_heard jC jQ tab)) hE
          · rw [if_neg b9] at hE
            refine z_iconst hx hb dX8_isWell_28 ?_
            obtain ⟨e1, e2⟩ := Prod.mk.inj hE
            subst e2
            exact ci_i hx hb hr hlocks e1 nr_b0 hS hP dX8_isWell_29
  exact L1 4 M (0) ls _ _ (lv_sub hl [1, 0] rfl) hP hD hS (by omega) (by omega) hC hQ hE

theorem fr_fX8_isWell_L2 (M : Mem) (Mx : Mem) (tab : Int) {r : Nat} : ∀ (k : Nat) (nap : Int), (fX8_isWell_L2 M Mx tab k nap).2 r = Mx r := by
  intro k
  induction k with
  | zero => intros; rfl
  | succ k ih =>
    intro nap
    rw [fX8_isWell_L2]
    (repeat' with_reducible refine frite_w (fun _ => ?_) (fun _ => ?_)) <;> first | with_reducible rfl | simp only [ih]
theorem fr_fX8_isWell_L1 (M : Mem) {r : Nat} (h1 : Nat.beq r 1 = false) (h2 : Nat.beq r 2 = false) (h3 : Nat.beq r 3 = false) (h4 : Nat.beq r 4 = false) (h5 : Nat.beq r 5 = false) (h6 : Nat.beq r 6 = false) (h7 : Nat.beq r 7 = false) : ∀ (k : Nat) (Mx : Mem) (tab : Int), (fX8_isWell_L1 M k Mx tab).2 r = Mx r := by
  intro k
  induction k with
  | zero => intros; rfl
  | succ k ih =>
    intro Mx tab
    rw [fX8_isWell_L1]
    (repeat' with_reducible refine frite_w (fun _ => ?_) (fun _ => ?_)) <;> first | with_reducible rfl | simp only [ih, mst_o, msf_o, mcp_o, fr_fX4_isToldAlike, fr_fX8_heard, h1, h2, h3, h4, h5, h6, h7, fr_fX8_isWell_L2]
theorem fr_fX8_isWell {M : Mem} {r : Nat} (h1 : Nat.beq r 1 = false) (h2 : Nat.beq r 2 = false) (h3 : Nat.beq r 3 = false) (h4 : Nat.beq r 4 = false) (h5 : Nat.beq r 5 = false) (h6 : Nat.beq r 6 = false) (h7 : Nat.beq r 7 = false) : (fX8_isWell M).2 r = M r := by
  unfold fX8_isWell
  (repeat' with_reducible refine frite_w (fun _ => ?_) (fun _ => ?_)) <;> first | with_reducible rfl | simp only [mst_o, msf_o, mcp_o, fr_fX4_isToldAlike, fr_fX8_heard, h1, h2, h3, h4, h5, h6, h7, fr_fX8_isWell_L2, fr_fX8_isWell_L1]


theorem laid_of0 {M N : Mem} (h : N 0 = M 0) (t : Int) : fX6_laidOn N t = fX6_laidOn M t := by unfold fX6_laidOn fX6_ofTable; rw [h]

def fX8_show_L1 (M : Mem) (table : Int) : Nat → Mem → Int → (Int × Int × Mem)
  | 0, Mx, _ => ((0), (0), Mx)
  | k1 + 1, Mx, place => if ((fX6_laidOn Mx table) ≤ place) then ((0), (fX3_length Mx), Mx) else if ((fX6_stainsOf (fX3_add (fX3_addDigit Mx (fX6_seatedAt Mx table place)) (fX8_letterIn_s (fX6_foldOf (fX3_addDigit Mx (fX6_seatedAt Mx table place)) (fX6_seatedAt Mx table place)))) (fX6_seatedAt Mx table place)) ≤ 0) then fX8_show_L1 M table k1 (fX3_add (fX3_addDigit Mx (fX6_seatedAt Mx table place)) (fX8_letterIn_s (fX6_foldOf (fX3_addDigit Mx (fX6_seatedAt Mx table place)) (fX6_seatedAt Mx table place)))) (place + 1) else fX8_show_L1 M table k1 (fX3_add (fX3_add (fX3_addDigit Mx (fX6_seatedAt Mx table place)) (fX8_letterIn_s (fX6_foldOf (fX3_addDigit Mx (fX6_seatedAt Mx table place)) (fX6_seatedAt Mx table place)))) (42)) (place + 1)
def fX8_show (M : Mem) (table : Int) : Int × Int × Mem := if (fX8_checkTable M table) = 0 then fX8_show_L1 M table 8 (fX3_empty M) (0) else ((fX8_checkTable M table), (0), M)
set_option maxRecDepth 100000 in
set_option maxHeartbeats 4000000 in
theorem kX8_show (l : Launch) (hst : l.stackTraces = false) (D : va_G) (E : Nat → Nat) (cI cC : ClassId) (T : Nat → Nat) (M : Mem) (table : Int) (h1 : -2147483648 ≤ table ∧ table < 2147483648) (hC : CI M) (hL : LN M) (kx r : Int) (M' : Mem) (hE : fX8_show M table = (kx, r, M')) : Cx l yX8_show wsX8_show 7 103 1 [.ref (E 0), .int (iI table)] D (TY cI cC) (VC E cI cC) (ZC E cI cC T) M kx (some (.int (iI r))) M' := by
  refine Cx.of (cc := cX8_show) (maxL := 4) (ret := (some .int)) (by decide +kernel) rfl (Nat.le_of_ble_eq_true rfl) ?_
  intro p e s m args below meth c ls hx hb hml hr hown hts hlocks hP hK hD hZ hS hout hl
  have hl : lv_has ls 4 [(0, .ref (E 0)), (1, .int (iI table))] := hl
  have S0 : CallFix p m c cX8_show 4 s args wsX8_show RX8 := ⟨hx, hb, hml, hown, hts⟩
  have hinX8 : ∀ w ∈ u_ws RX8 TX8 12, w ∈ wsX8_show := by decide +kernel
  rw [fX8_show] at hE
  refine lv_aload_n hx hb dX8_show_0 rfl (lv_at hl 0 rfl) ?_
  refine lv_iload_n hx hb dX8_show_1 rfl (lv_at hl 1 rfl) ?_
  refine ct_Vxv (VC_fix E cI cC) (ZC_ok E cI cC T) (ZC_bl E cI cC T) hZ S0 (kX8_checkTable l hst D E cI cC T M table (by omega) (fX8_checkTable M table) rfl) (cwV 1 hts gX8_show_X8_checkTable rfl rfl rfl (by decide +kernel) ⟨(Nat.le_of_ble_eq_true rfl), (Nat.le_of_ble_eq_true rfl)⟩) hK hP hD hS rfl rfl VC_0 rfl hl.1 rfl (Nat.le_of_ble_eq_true rfl) dX8_show_2 ⟨(Nat.le_of_ble_eq_true rfl), (Nat.le_of_ble_eq_true rfl)⟩ hout hlocks (Nat.le_of_ble_eq_true rfl) (Nat.le_of_ble_eq_true rfl) (fun b1 => ?_) (fun b1 H locs hP hD hS => ?_)
  · rw [if_neg b1] at hE
    obtain ⟨e0, e1⟩ := Prod.mk.inj hE
    exact ⟨e0, (Prod.mk.inj e1).2⟩
  · rw [if_pos b1] at hE
    refine lv_aload_n hx hb dX8_show_5 rfl (lv_at hl 0 rfl) ?_
    refine va_get (own := RX8) (ref := "NapkinSyntax") (C := RX8) (T := TX8) (N := 12) hx hb hts hinX8 hown hK hP 0 VC_0 rfl 5 (Nat.le_of_ble_eq_true rfl) (hts (.fieldLink RX8 45 "NapkinSyntax" "line" "LNapkinSyntax$Line;") (by decide +kernel)) (fun _ h => h) (v := .ref (E 15)) rfl dX8_show_6 ?_
    refine ct_Vv (VC_fix E cI cC) (ZC_ok E cI cC T) (ZC_bl E cI cC T) hZ S0 (kX3_empty l D E cI cC (ZC E cI cC T) (ZC_ok E cI cC T) (ZC_bl E cI cC T) M  (fX3_empty M) rfl) (cwV 0 hts gX8_show_X3_empty rfl rfl rfl (by decide +kernel) ⟨(Nat.le_of_ble_eq_true rfl), (Nat.le_of_ble_eq_true rfl)⟩) hK hP hD hS rfl rfl VC_15 rfl hl.1 rfl (Nat.le_of_ble_eq_true rfl) dX8_show_9 ⟨(Nat.le_of_ble_eq_true rfl), (Nat.le_of_ble_eq_true rfl)⟩ (fun H locs hP hD hS => ?_)
    refine z_iconst hx hb dX8_show_12 ?_
    refine lv_istore_n hx hb dX8_show_13 rfl hl (Nat.le_of_ble_eq_true rfl) (lv' := [(2, .int (iI (0))), (0, .ref (E 0)), (1, .int (iI table))]) rfl (fun ls hl => ?_)
    have L1 : ∀ (k1 : Nat) (Mx : Mem) (place : Int) (ls : Array Slot) (H : Heap) (locs : List Loc), lv_has ls 4 [(0, .ref (E 0)), (1, .int (iI table)), (2, .int (iI place))] → va_P D vwCl (VC E cI cC Mx) H → va_D (wA (VC E cI cC M)) (VC E cI cC Mx) → va_S (wA (VC E cI cC M)) s.heap H locs → (0 ≤ place ∧ place ≤ 6) → (fX6_laidOn Mx table - place < (k1 : Int) ∧ 0 < (k1 : Int)) → (CI Mx) → (LN Mx) → fX8_show_L1 M table k1 Mx place = (kx, r, M') → W p l e (zRmx 7 103 1) s m args below meth c H locs 1 6 (cxE below D (VC E cI cC) M kx (some (.int (iI r))) M' args s 1) (F0 m 14 ls []) := by
      intro k1
      induction k1 with
      | zero => intro Mx place ls H locs hl hP hD hS i1 i3 jC jL hE; exfalso; omega
      | succ k1 ih1 =>
        intro Mx place ls H locs hl hP hD hS i1 i3 jC jL hE
        have q98 := rg_X6_laidOn jC table
        rw [fX8_show_L1] at hE
        refine lv_iload_n hx hb dX8_show_14 rfl (lv_at hl 2 rfl) ?_
        refine lv_aload_n hx hb dX8_show_15 rfl (lv_at hl 0 rfl) ?_
        refine va_get (own := RX8) (ref := "NapkinSyntax") (C := RX8) (T := TX8) (N := 12) hx hb hts hinX8 hown hK hP 0 VC_0 rfl 1 (Nat.le_of_ble_eq_true rfl) (hts (.fieldLink RX8 20 "NapkinSyntax" "now" "LNapkinSyntax$State;") (by decide +kernel)) (fun _ h => h) (v := .ref (E 2)) rfl dX8_show_16 ?_
        refine lv_iload_n hx hb dX8_show_19 rfl (lv_at hl 1 rfl) ?_
        refine ct_Vi (VC_fix E cI cC) (ZC_ok E cI cC T) (ZC_bl E cI cC T) hZ S0 (kX6_laidOn l D E cI cC (ZC E cI cC T) (ZC_ok E cI cC T) (ZC_bl E cI cC T) Mx table (by omega) (fX6_laidOn Mx table) rfl) (cwV 1 hts gX8_show_X6_laidOn rfl rfl rfl (by decide +kernel) ⟨(Nat.le_of_ble_eq_true rfl), (Nat.le_of_ble_eq_true rfl)⟩) hK hP hD hS rfl rfl VC_2 rfl hl.1 rfl (Nat.le_of_ble_eq_true rfl) dX8_show_20 ⟨(Nat.le_of_ble_eq_true rfl), (Nat.le_of_ble_eq_true rfl)⟩ (fun H locs hP hD hS => ?_)
        have q2 := rg_X6_laidOn jC table
        refine z_icmp_ge hx hb dX8_show_23 (tgt := 91) rfl (by omega) (by omega) (fun b3 => ?_) (fun b3 => ?_)
        · rw [if_pos b3] at hE
          refine lv_aload_n hx hb dX8_show_91 rfl (lv_at hl 0 rfl) ?_
          refine va_get (own := RX8) (ref := "NapkinSyntax") (C := RX8) (T := TX8) (N := 12) hx hb hts hinX8 hown hK hP 0 VC_0 rfl 5 (Nat.le_of_ble_eq_true rfl) (hts (.fieldLink RX8 45 "NapkinSyntax" "line" "LNapkinSyntax$Line;") (by decide +kernel)) (fun _ h => h) (v := .ref (E 15)) rfl dX8_show_92 ?_
          refine ct_Vi (VC_fix E cI cC) (ZC_ok E cI cC T) (ZC_bl E cI cC T) hZ S0 (kX3_length l D E cI cC (ZC E cI cC T) (ZC_ok E cI cC T) (ZC_bl E cI cC T) Mx  (fX3_length Mx) rfl) (cwV 0 hts gX8_show_X3_length rfl rfl rfl (by decide +kernel) ⟨(Nat.le_of_ble_eq_true rfl), (Nat.le_of_ble_eq_true rfl)⟩) hK hP hD hS rfl rfl VC_15 rfl hl.1 rfl (Nat.le_of_ble_eq_true rfl) dX8_show_95 ⟨(Nat.le_of_ble_eq_true rfl), (Nat.le_of_ble_eq_true rfl)⟩ (fun H locs hP hD hS => ?_)
          have q4 := rg_X3_length jL
          obtain ⟨e0, e9⟩ := Prod.mk.inj hE
          obtain ⟨e1, e2⟩ := Prod.mk.inj e9
          subst e2
          exact cx_i hx hb hr hlocks e0 e1 rfl hS hP (Nat.le_of_ble_eq_true rfl) (Nat.le_of_ble_eq_true rfl) dX8_show_98
        · rw [if_neg b3] at hE
          refine lv_aload_n hx hb dX8_show_26 rfl (lv_at hl 0 rfl) ?_
          refine va_get (own := RX8) (ref := "NapkinSyntax") (C := RX8) (T := TX8) (N := 12) hx hb hts hinX8 hown hK hP 0 VC_0 rfl 1 (Nat.le_of_ble_eq_true rfl) (hts (.fieldLink RX8 20 "NapkinSyntax" "now" "LNapkinSyntax$State;") (by decide +kernel)) (fun _ h => h) (v := .ref (E 2)) rfl dX8_show_27 ?_
          refine lv_iload_n hx hb dX8_show_30 rfl (lv_at hl 1 rfl) ?_
          refine lv_iload_n hx hb dX8_show_31 rfl (lv_at hl 2 rfl) ?_
          refine ct_Vi (VC_fix E cI cC) (ZC_ok E cI cC T) (ZC_bl E cI cC T) hZ S0 (kX6_seatedAt l D E cI cC (ZC E cI cC T) (ZC_ok E cI cC T) (ZC_bl E cI cC T) Mx table place (by omega) (by omega) (fX6_seatedAt Mx table place) rfl) (cwV 2 hts gX8_show_X6_seatedAt rfl rfl rfl (by decide +kernel) ⟨(Nat.le_of_ble_eq_true rfl), (Nat.le_of_ble_eq_true rfl)⟩) hK hP hD hS rfl rfl VC_2 rfl hl.1 rfl (Nat.le_of_ble_eq_true rfl) dX8_show_32 ⟨(Nat.le_of_ble_eq_true rfl), (Nat.le_of_ble_eq_true rfl)⟩ (fun H locs hP hD hS => ?_)
          have q5 := rg_X6_seatedAt jC table place
          refine lv_istore_n hx hb dX8_show_35 rfl hl (Nat.le_of_ble_eq_true rfl) (lv' := [(3, .int (iI (fX6_seatedAt Mx table place))), (0, .ref (E 0)), (1, .int (iI table)), (2, .int (iI place))]) rfl (fun ls hl => ?_)
          refine lv_aload_n hx hb dX8_show_36 rfl (lv_at hl 1 rfl) ?_
          refine va_get (own := RX8) (ref := "NapkinSyntax") (C := RX8) (T := TX8) (N := 12) hx hb hts hinX8 hown hK hP 0 VC_0 rfl 5 (Nat.le_of_ble_eq_true rfl) (hts (.fieldLink RX8 45 "NapkinSyntax" "line" "LNapkinSyntax$Line;") (by decide +kernel)) (fun _ h => h) (v := .ref (E 15)) rfl dX8_show_37 ?_
          refine lv_iload_n hx hb dX8_show_40 rfl (lv_at hl 0 rfl) ?_
          refine ct_Vv (VC_fix E cI cC) (ZC_ok E cI cC T) (ZC_bl E cI cC T) hZ S0 (kX3_addDigit l D E cI cC (ZC E cI cC T) (ZC_ok E cI cC T) (ZC_bl E cI cC T) Mx (fX6_seatedAt Mx table place) (by omega) (LN_i jL) (fX3_addDigit Mx (fX6_seatedAt Mx table place)) rfl) (cwV 1 hts gX8_show_X3_addDigit rfl rfl rfl (by decide +kernel) ⟨(Nat.le_of_ble_eq_true rfl), (Nat.le_of_ble_eq_true rfl)⟩) hK hP hD hS rfl rfl VC_15 rfl hl.1 rfl (Nat.le_of_ble_eq_true rfl) dX8_show_41 ⟨(Nat.le_of_ble_eq_true rfl), (Nat.le_of_ble_eq_true rfl)⟩ (fun H locs hP hD hS => ?_)
          refine lv_aload_n hx hb dX8_show_44 rfl (lv_at hl 1 rfl) ?_
          refine va_get (own := RX8) (ref := "NapkinSyntax") (C := RX8) (T := TX8) (N := 12) hx hb hts hinX8 hown hK hP 0 VC_0 rfl 5 (Nat.le_of_ble_eq_true rfl) (hts (.fieldLink RX8 45 "NapkinSyntax" "line" "LNapkinSyntax$Line;") (by decide +kernel)) (fun _ h => h) (v := .ref (E 15)) rfl dX8_show_45 ?_
          refine va_gets hx hb (ZC_sm hZ M) hS hown (hts (.fieldLink RX8 331 "NapkinSyntax" "SMALL_LETTERS" "[C") (by decide +kernel)) (fun _ h => h) dX8_show_48 ?_
          refine lv_aload_n hx hb dX8_show_51 rfl (lv_at hl 1 rfl) ?_
          refine va_get (own := RX8) (ref := "NapkinSyntax") (C := RX8) (T := TX8) (N := 12) hx hb hts hinX8 hown hK hP 0 VC_0 rfl 1 (Nat.le_of_ble_eq_true rfl) (hts (.fieldLink RX8 20 "NapkinSyntax" "now" "LNapkinSyntax$State;") (by decide +kernel)) (fun _ h => h) (v := .ref (E 2)) rfl dX8_show_52 ?_
          refine lv_iload_n hx hb dX8_show_55 rfl (lv_at hl 0 rfl) ?_
          refine ct_Vi (VC_fix E cI cC) (ZC_ok E cI cC T) (ZC_bl E cI cC T) hZ S0 (kX6_foldOf l D E cI cC (ZC E cI cC T) (ZC_ok E cI cC T) (ZC_bl E cI cC T) (fX3_addDigit Mx (fX6_seatedAt Mx table place)) (fX6_seatedAt Mx table place) (by omega) (fX6_foldOf (fX3_addDigit Mx (fX6_seatedAt Mx table place)) (fX6_seatedAt Mx table place)) rfl) (cwV 1 hts gX8_show_X6_foldOf rfl rfl rfl (by decide +kernel) ⟨(Nat.le_of_ble_eq_true rfl), (Nat.le_of_ble_eq_true rfl)⟩) hK hP hD hS rfl rfl VC_2 rfl hl.1 rfl (Nat.le_of_ble_eq_true rfl) dX8_show_56 ⟨(Nat.le_of_ble_eq_true rfl), (Nat.le_of_ble_eq_true rfl)⟩ (fun H locs hP hD hS => ?_)
          have q6 := rg_X6_foldOf (CI_of0 (fr_fX3_addDigit (fX6_seatedAt Mx table place) rfl rfl) jC) (fX6_seatedAt Mx table place)
          refine ct_Si (VC_fix E cI cC) (ZC_ok E cI cC T) (ZC_bl E cI cC T) hZ S0 (kX8_letterIn_s l D E cI cC T (fX3_addDigit Mx (fX6_seatedAt Mx table place)) (fX6_foldOf (fX3_addDigit Mx (fX6_seatedAt Mx table place)) (fX6_seatedAt Mx table place)) (by omega) (fX8_letterIn_s (fX6_foldOf (fX3_addDigit Mx (fX6_seatedAt Mx table place)) (fX6_seatedAt Mx table place))) rfl) (va_cwS 2 hts gX8_show_X8_letterIn rfl rfl rfl (by decide +kernel) ⟨(Nat.le_of_ble_eq_true rfl), (Nat.le_of_ble_eq_true rfl)⟩) hK hP hD hS rfl hl.1 rfl (Nat.le_of_ble_eq_true rfl) dX8_show_59 ⟨(Nat.le_of_ble_eq_true rfl), (Nat.le_of_ble_eq_true rfl)⟩ (fun H locs hP hD hS => ?_)
          have q7 := rg_X8_letterIn_s (fX6_foldOf (fX3_addDigit Mx (fX6_seatedAt Mx table place)) (fX6_seatedAt Mx table place))
          refine ct_Vv (VC_fix E cI cC) (ZC_ok E cI cC T) (ZC_bl E cI cC T) hZ S0 (kX3_add l D E cI cC (ZC E cI cC T) (ZC_ok E cI cC T) (ZC_bl E cI cC T) (fX3_addDigit Mx (fX6_seatedAt Mx table place)) (fX8_letterIn_s (fX6_foldOf (fX3_addDigit Mx (fX6_seatedAt Mx table place)) (fX6_seatedAt Mx table place))) (by omega) (LN_i (LN_addDigit jL (fX6_seatedAt Mx table place) (by omega))) (fX3_add (fX3_addDigit Mx (fX6_seatedAt Mx table place)) (fX8_letterIn_s (fX6_foldOf (fX3_addDigit Mx (fX6_seatedAt Mx table place)) (fX6_seatedAt Mx table place)))) rfl) (cwV 1 hts gX8_show_X3_add rfl rfl rfl (by decide +kernel) ⟨(Nat.le_of_ble_eq_true rfl), (Nat.le_of_ble_eq_true rfl)⟩) hK hP hD hS rfl rfl VC_15 rfl hl.1 rfl (Nat.le_of_ble_eq_true rfl) dX8_show_62 ⟨(Nat.le_of_ble_eq_true rfl), (Nat.le_of_ble_eq_true rfl)⟩ (fun H locs hP hD hS => ?_)
          refine lv_aload_n hx hb dX8_show_65 rfl (lv_at hl 1 rfl) ?_
          refine va_get (own := RX8) (ref := "NapkinSyntax") (C := RX8) (T := TX8) (N := 12) hx hb hts hinX8 hown hK hP 0 VC_0 rfl 1 (Nat.le_of_ble_eq_true rfl) (hts (.fieldLink RX8 20 "NapkinSyntax" "now" "LNapkinSyntax$State;") (by decide +kernel)) (fun _ h => h) (v := .ref (E 2)) rfl dX8_show_66 ?_
          refine lv_iload_n hx hb dX8_show_69 rfl (lv_at hl 0 rfl) ?_
          refine ct_Vi (VC_fix E cI cC) (ZC_ok E cI cC T) (ZC_bl E cI cC T) hZ S0 (kX6_stainsOf l D E cI cC (ZC E cI cC T) (ZC_ok E cI cC T) (ZC_bl E cI cC T) (fX3_add (fX3_addDigit Mx (fX6_seatedAt Mx table place)) (fX8_letterIn_s (fX6_foldOf (fX3_addDigit Mx (fX6_seatedAt Mx table place)) (fX6_seatedAt Mx table place)))) (fX6_seatedAt Mx table place) (by omega) (fX6_stainsOf (fX3_add (fX3_addDigit Mx (fX6_seatedAt Mx table place)) (fX8_letterIn_s (fX6_foldOf (fX3_addDigit Mx (fX6_seatedAt Mx table place)) (fX6_seatedAt Mx table place)))) (fX6_seatedAt Mx table place)) rfl) (cwV 1 hts gX8_show_X6_stainsOf rfl rfl rfl (by decide +kernel) ⟨(Nat.le_of_ble_eq_true rfl), (Nat.le_of_ble_eq_true rfl)⟩) hK hP hD hS rfl rfl VC_2 rfl hl.1 rfl (Nat.le_of_ble_eq_true rfl) dX8_show_70 ⟨(Nat.le_of_ble_eq_true rfl), (Nat.le_of_ble_eq_true rfl)⟩ (fun H locs hP hD hS => ?_)
          have q8 := rg_X6_stainsOf (CI_of0 (fr_fX3_add (fX8_letterIn_s (fX6_foldOf (fX3_addDigit Mx (fX6_seatedAt Mx table place)) (fX6_seatedAt Mx table place))) rfl rfl) (CI_of0 (fr_fX3_addDigit (fX6_seatedAt Mx table place) rfl rfl) jC)) (fX6_seatedAt Mx table place)
          refine z_if_le hx hb dX8_show_73 (tgt := 85) rfl (by omega) (fun b9 => ?_) (fun b9 => ?_)
          · rw [if_pos b9] at hE
            refine z_iinc hx hb dX8_show_85 hl (k := 3) rfl (Nat.le_of_ble_eq_true rfl) (lv' := [(2, .int (iI (place + 1))), (3, .int (iI (fX6_seatedAt Mx table place))), (0, .ref (E 0)), (1, .int (iI table))]) rfl (fun ls hl => ?_)
            refine lv_goto hx hb dX8_show_88 (tgt := 14) rfl ?_
            exact ih1 (fX3_add (fX3_addDigit Mx (fX6_seatedAt Mx table place)) (fX8_letterIn_s (fX6_foldOf (fX3_addDigit Mx (fX6_seatedAt Mx table place)) (fX6_seatedAt Mx table place)))) (place + 1) ls _ _ (lv_sub hl [2, 3, 0] rfl) hP hD hS (by omega) (by first | omega | (rw [laid_of0 (M := Mx) (by simp only [fr_fX3_add, fr_fX3_addDigit, show Nat.beq 0 12 = false from rfl, show Nat.beq 0 13 = false from rfl])]; omega)) (CI_of0 (fr_fX3_add (fX8_letterIn_s (fX6_foldOf (fX3_addDigit Mx (fX6_seatedAt Mx table place)) (fX6_seatedAt Mx table place))) rfl rfl) (CI_of0 (fr_fX3_addDigit (fX6_seatedAt Mx table place) rfl rfl) jC)) (LN_add (LN_addDigit jL (fX6_seatedAt Mx table place) (by omega)) (fX8_letterIn_s (fX6_foldOf (fX3_addDigit Mx (fX6_seatedAt Mx table place)) (fX6_seatedAt Mx table place))) (by omega)) hE
          · rw [if_neg b9] at hE
            refine lv_aload_n hx hb dX8_show_76 rfl (lv_at hl 1 rfl) ?_
            refine va_get (own := RX8) (ref := "NapkinSyntax") (C := RX8) (T := TX8) (N := 12) hx hb hts hinX8 hown hK hP 0 VC_0 rfl 5 (Nat.le_of_ble_eq_true rfl) (hts (.fieldLink RX8 45 "NapkinSyntax" "line" "LNapkinSyntax$Line;") (by decide +kernel)) (fun _ h => h) (v := .ref (E 15)) rfl dX8_show_77 ?_
            refine z_bipush hx hb dX8_show_80 (by decide +kernel) ?_
            refine ct_Vv (VC_fix E cI cC) (ZC_ok E cI cC T) (ZC_bl E cI cC T) hZ S0 (kX3_add l D E cI cC (ZC E cI cC T) (ZC_ok E cI cC T) (ZC_bl E cI cC T) (fX3_add (fX3_addDigit Mx (fX6_seatedAt Mx table place)) (fX8_letterIn_s (fX6_foldOf (fX3_addDigit Mx (fX6_seatedAt Mx table place)) (fX6_seatedAt Mx table place)))) (42) (by omega) (LN_i (LN_add (LN_addDigit jL (fX6_seatedAt Mx table place) (by omega)) (fX8_letterIn_s (fX6_foldOf (fX3_addDigit Mx (fX6_seatedAt Mx table place)) (fX6_seatedAt Mx table place))) (by omega))) (fX3_add (fX3_add (fX3_addDigit Mx (fX6_seatedAt Mx table place)) (fX8_letterIn_s (fX6_foldOf (fX3_addDigit Mx (fX6_seatedAt Mx table place)) (fX6_seatedAt Mx table place)))) (42)) rfl) (cwV 1 hts gX8_show_X3_add rfl rfl rfl (by decide +kernel) ⟨(Nat.le_of_ble_eq_true rfl), (Nat.le_of_ble_eq_true rfl)⟩) hK hP hD hS rfl rfl VC_15 rfl hl.1 rfl (Nat.le_of_ble_eq_true rfl) dX8_show_82 ⟨(Nat.le_of_ble_eq_true rfl), (Nat.le_of_ble_eq_true rfl)⟩ (fun H locs hP hD hS => ?_)
            refine z_iinc hx hb dX8_show_85 hl (k := 3) rfl (Nat.le_of_ble_eq_true rfl) (lv' := [(2, .int (iI (place + 1))), (3, .int (iI (fX6_seatedAt Mx table place))), (0, .ref (E 0)), (1, .int (iI table))]) rfl (fun ls hl => ?_)
            refine lv_goto hx hb dX8_show_88 (tgt := 14) rfl ?_
            exact ih1 (fX3_add (fX3_add (fX3_addDigit Mx (fX6_seatedAt Mx table place)) (fX8_letterIn_s (fX6_foldOf (fX3_addDigit Mx (fX6_seatedAt Mx table place)) (fX6_seatedAt Mx table place)))) (42)) (place + 1) ls _ _ (lv_sub hl [2, 3, 0] rfl) hP hD hS (by omega) (by first | omega | (rw [laid_of0 (M := Mx) (by simp only [fr_fX3_add, fr_fX3_addDigit, show Nat.beq 0 12 = false from rfl, show Nat.beq 0 13 = false from rfl])]; omega)) (CI_of0 (fr_fX3_add (42) rfl rfl) (CI_of0 (fr_fX3_add (fX8_letterIn_s (fX6_foldOf (fX3_addDigit Mx (fX6_seatedAt Mx table place)) (fX6_seatedAt Mx table place))) rfl rfl) (CI_of0 (fr_fX3_addDigit (fX6_seatedAt Mx table place) rfl rfl) jC))) (LN_add (LN_add (LN_addDigit jL (fX6_seatedAt Mx table place) (by omega)) (fX8_letterIn_s (fX6_foldOf (fX3_addDigit Mx (fX6_seatedAt Mx table place)) (fX6_seatedAt Mx table place))) (by omega)) (42) (by omega)) hE
    exact L1 8 (fX3_empty M) (0) ls _ _ (lv_sub hl [1, 2, 0] rfl) hP hD hS (by omega) (by have := laid_of0 (fr_fX3_empty (M := M) (r := 0) rfl) table; have := rg_X6_laidOn hC table; omega) (CI_of0 (fr_fX3_empty rfl) hC) (LN_empty hL) hE

theorem fr_fX8_show_L1 (M : Mem) (table : Int) {r : Nat} (h12 : Nat.beq r 12 = false) (h13 : Nat.beq r 13 = false) : ∀ (k : Nat) (Mx : Mem) (place : Int), (fX8_show_L1 M table k Mx place).2.2 r = Mx r := by
  intro k
  induction k with
  | zero => intros; rfl
  | succ k ih =>
    intro Mx place
    rw [fX8_show_L1]
    (repeat' with_reducible refine frite_x (fun _ => ?_) (fun _ => ?_)) <;> first | with_reducible rfl | simp only [ih, mst_o, msf_o, mcp_o, fr_fX3_add, fr_fX3_addDigit, fr_fX3_empty, h12, h13]
theorem fr_fX8_show {M : Mem} (table : Int) {r : Nat} (h12 : Nat.beq r 12 = false) (h13 : Nat.beq r 13 = false) : (fX8_show M table).2.2 r = M r := by
  unfold fX8_show
  (repeat' with_reducible refine frite_x (fun _ => ?_) (fun _ => ?_)) <;> first | with_reducible rfl | simp only [mst_o, msf_o, mcp_o, fr_fX3_add, fr_fX3_addDigit, fr_fX3_empty, h12, h13, fr_fX8_show_L1]

theorem size_of7 {M N : Mem} (h : N 7 = M 7) : fX4_size N = fX4_size M := by unfold fX4_size; rw [h]

def fX8_tell_L1 (M : Mem) (table : Int) : Nat → Mem → Int → (Int × Int × Mem)
  | 0, Mx, _ => ((0), (0), Mx)
  | k1 + 1, Mx, number => if ((fX4_size Mx) ≤ number) then ((0), (fX3_length Mx), Mx) else if (number ≤ 0) then if ((fX6_foldOf (fX3_add Mx (fX8_letterIn_b (fX6_foldOf Mx (fX4_napkinAt Mx number)))) (fX4_napkinAt Mx number)) = (4)) then if ((fX6_stainsOf (fX3_add Mx (fX8_letterIn_b (fX6_foldOf Mx (fX4_napkinAt Mx number)))) (fX4_napkinAt Mx number)) ≤ 0) then fX8_tell_L1 M table k1 (fX3_add Mx (fX8_letterIn_b (fX6_foldOf Mx (fX4_napkinAt Mx number)))) (number + 1) else fX8_tell_L1 M table k1 (fX3_add (fX3_add Mx (fX8_letterIn_b (fX6_foldOf Mx (fX4_napkinAt Mx number)))) (63)) (number + 1) else if ((fX6_stainsOf (fX3_addDigit (fX3_add Mx (fX8_letterIn_b (fX6_foldOf Mx (fX4_napkinAt Mx number)))) (fX6_colourOf (fX3_add Mx (fX8_letterIn_b (fX6_foldOf Mx (fX4_napkinAt Mx number)))) (fX4_napkinAt Mx number))) (fX4_napkinAt Mx number)) ≤ 0) then fX8_tell_L1 M table k1 (fX3_addDigit (fX3_add Mx (fX8_letterIn_b (fX6_foldOf Mx (fX4_napkinAt Mx number)))) (fX6_colourOf (fX3_add Mx (fX8_letterIn_b (fX6_foldOf Mx (fX4_napkinAt Mx number)))) (fX4_napkinAt Mx number))) (number + 1) else fX8_tell_L1 M table k1 (fX3_add (fX3_addDigit (fX3_add Mx (fX8_letterIn_b (fX6_foldOf Mx (fX4_napkinAt Mx number)))) (fX6_colourOf (fX3_add Mx (fX8_letterIn_b (fX6_foldOf Mx (fX4_napkinAt Mx number)))) (fX4_napkinAt Mx number))) (63)) (number + 1) else if ((fX6_foldOf (fX3_add (fX3_add Mx (32)) (fX8_letterIn_b (fX6_foldOf (fX3_add Mx (32)) (fX4_napkinAt Mx number)))) (fX4_napkinAt Mx number)) = (4)) then if ((fX6_stainsOf (fX3_add (fX3_add Mx (32)) (fX8_letterIn_b (fX6_foldOf (fX3_add Mx (32)) (fX4_napkinAt Mx number)))) (fX4_napkinAt Mx number)) ≤ 0) then fX8_tell_L1 M table k1 (fX3_add (fX3_add Mx (32)) (fX8_letterIn_b (fX6_foldOf (fX3_add Mx (32)) (fX4_napkinAt Mx number)))) (number + 1) else fX8_tell_L1 M table k1 (fX3_add (fX3_add (fX3_add Mx (32)) (fX8_letterIn_b (fX6_foldOf (fX3_add Mx (32)) (fX4_napkinAt Mx number)))) (63)) (number + 1) else if ((fX6_stainsOf (fX3_addDigit (fX3_add (fX3_add Mx (32)) (fX8_letterIn_b (fX6_foldOf (fX3_add Mx (32)) (fX4_napkinAt Mx number)))) (fX6_colourOf (fX3_add (fX3_add Mx (32)) (fX8_letterIn_b (fX6_foldOf (fX3_add Mx (32)) (fX4_napkinAt Mx number)))) (fX4_napkinAt Mx number))) (fX4_napkinAt Mx number)) ≤ 0) then fX8_tell_L1 M table k1 (fX3_addDigit (fX3_add (fX3_add Mx (32)) (fX8_letterIn_b (fX6_foldOf (fX3_add Mx (32)) (fX4_napkinAt Mx number)))) (fX6_colourOf (fX3_add (fX3_add Mx (32)) (fX8_letterIn_b (fX6_foldOf (fX3_add Mx (32)) (fX4_napkinAt Mx number)))) (fX4_napkinAt Mx number))) (number + 1) else fX8_tell_L1 M table k1 (fX3_add (fX3_addDigit (fX3_add (fX3_add Mx (32)) (fX8_letterIn_b (fX6_foldOf (fX3_add Mx (32)) (fX4_napkinAt Mx number)))) (fX6_colourOf (fX3_add (fX3_add Mx (32)) (fX8_letterIn_b (fX6_foldOf (fX3_add Mx (32)) (fX4_napkinAt Mx number)))) (fX4_napkinAt Mx number))) (63)) (number + 1)
def fX8_tell (M : Mem) (table : Int) : Int × Int × Mem := if (fX8_checkTable M table) = 0 then fX8_tell_L1 M table 8 (fX8_heard (fX3_empty M) table) (0) else ((fX8_checkTable M table), (0), M)
set_option maxRecDepth 100000 in
set_option maxHeartbeats 4000000 in
theorem kX8_tell (l : Launch) (hst : l.stackTraces = false) (D : va_G) (E : Nat → Nat) (cI cC : ClassId) (T : Nat → Nat) (M : Mem) (table : Int) (h1 : -2147483648 ≤ table ∧ table < 2147483648) (hC : CI M) (hQ : SI M) (hL : LN M) (kx r : Int) (M' : Mem) (hE : fX8_tell M table = (kx, r, M')) : Cx l yX8_tell wsX8_tell 7 103 1 [.ref (E 0), .int (iI table)] D (TY cI cC) (VC E cI cC) (ZC E cI cC T) M kx (some (.int (iI r))) M' := by
  refine Cx.of (cc := cX8_tell) (maxL := 5) (ret := (some .int)) (by decide +kernel) rfl (Nat.le_of_ble_eq_true rfl) ?_
  intro p e s m args below meth c ls hx hb hml hr hown hts hlocks hP hK hD hZ hS hout hl
  have hl : lv_has ls 5 [(0, .ref (E 0)), (1, .int (iI table))] := hl
  have S0 : CallFix p m c cX8_tell 5 s args wsX8_tell RX8 := ⟨hx, hb, hml, hown, hts⟩
  have hinX8 : ∀ w ∈ u_ws RX8 TX8 12, w ∈ wsX8_tell := by decide +kernel
  rw [fX8_tell] at hE
  refine lv_aload_n hx hb dX8_tell_0 rfl (lv_at hl 0 rfl) ?_
  refine lv_iload_n hx hb dX8_tell_1 rfl (lv_at hl 1 rfl) ?_
  refine ct_Vxv (VC_fix E cI cC) (ZC_ok E cI cC T) (ZC_bl E cI cC T) hZ S0 (kX8_checkTable l hst D E cI cC T M table (by omega) (fX8_checkTable M table) rfl) (cwV 1 hts gX8_tell_X8_checkTable rfl rfl rfl (by decide +kernel) ⟨(Nat.le_of_ble_eq_true rfl), (Nat.le_of_ble_eq_true rfl)⟩) hK hP hD hS rfl rfl VC_0 rfl hl.1 rfl (Nat.le_of_ble_eq_true rfl) dX8_tell_2 ⟨(Nat.le_of_ble_eq_true rfl), (Nat.le_of_ble_eq_true rfl)⟩ hout hlocks (Nat.le_of_ble_eq_true rfl) (Nat.le_of_ble_eq_true rfl) (fun b1 => ?_) (fun b1 H locs hP hD hS => ?_)
  · rw [if_neg b1] at hE
    obtain ⟨e0, e1⟩ := Prod.mk.inj hE
    exact ⟨e0, (Prod.mk.inj e1).2⟩
  · rw [if_pos b1] at hE
    refine lv_aload_n hx hb dX8_tell_5 rfl (lv_at hl 0 rfl) ?_
    refine va_get (own := RX8) (ref := "NapkinSyntax") (C := RX8) (T := TX8) (N := 12) hx hb hts hinX8 hown hK hP 0 VC_0 rfl 5 (Nat.le_of_ble_eq_true rfl) (hts (.fieldLink RX8 45 "NapkinSyntax" "line" "LNapkinSyntax$Line;") (by decide +kernel)) (fun _ h => h) (v := .ref (E 15)) rfl dX8_tell_6 ?_
    refine ct_Vv (VC_fix E cI cC) (ZC_ok E cI cC T) (ZC_bl E cI cC T) hZ S0 (kX3_empty l D E cI cC (ZC E cI cC T) (ZC_ok E cI cC T) (ZC_bl E cI cC T) M  (fX3_empty M) rfl) (cwV 0 hts gX8_tell_X3_empty rfl rfl rfl (by decide +kernel) ⟨(Nat.le_of_ble_eq_true rfl), (Nat.le_of_ble_eq_true rfl)⟩) hK hP hD hS rfl rfl VC_15 rfl hl.1 rfl (Nat.le_of_ble_eq_true rfl) dX8_tell_9 ⟨(Nat.le_of_ble_eq_true rfl), (Nat.le_of_ble_eq_true rfl)⟩ (fun H locs hP hD hS => ?_)
    refine lv_aload_n hx hb dX8_tell_12 rfl (lv_at hl 0 rfl) ?_
    refine lv_iload_n hx hb dX8_tell_13 rfl (lv_at hl 1 rfl) ?_
    refine ct_Vr (VC_fix E cI cC) (ZC_ok E cI cC T) (ZC_bl E cI cC T) hZ S0 (kX8_heard l D E cI cC (ZC E cI cC T) (ZC_ok E cI cC T) (ZC_bl E cI cC T) (fX3_empty M) table (by omega) (CI_of0 (fr_fX3_empty  rfl) hC) (fX8_heard (fX3_empty M) table) rfl) (cwV 1 hts gX8_tell_X8_heard rfl rfl rfl (by decide +kernel) ⟨(Nat.le_of_ble_eq_true rfl), (Nat.le_of_ble_eq_true rfl)⟩) hK hP hD hS rfl rfl VC_0 rfl hl.1 rfl (Nat.le_of_ble_eq_true rfl) dX8_tell_14 ⟨(Nat.le_of_ble_eq_true rfl), (Nat.le_of_ble_eq_true rfl)⟩ (fun H locs hP hD hS => ?_)
    refine lv_astore_n hx hb dX8_tell_17 rfl hl (Nat.le_of_ble_eq_true rfl) (lv' := [(2, .ref (E 4)), (0, .ref (E 0)), (1, .int (iI table))]) rfl (fun ls hl => ?_)
    refine z_iconst hx hb dX8_tell_18 ?_
    refine lv_istore_n hx hb dX8_tell_19 rfl hl (Nat.le_of_ble_eq_true rfl) (lv' := [(3, .int (iI (0))), (2, .ref (E 4)), (0, .ref (E 0)), (1, .int (iI table))]) rfl (fun ls hl => ?_)
    have L1 : ∀ (k1 : Nat) (Mx : Mem) (number : Int) (ls : Array Slot) (H : Heap) (locs : List Loc), lv_has ls 5 [(0, .ref (E 0)), (1, .int (iI table)), (2, .ref (E 4)), (3, .int (iI number))] → va_P D vwCl (VC E cI cC Mx) H → va_D (wA (VC E cI cC M)) (VC E cI cC Mx) → va_S (wA (VC E cI cC M)) s.heap H locs → (0 ≤ number ∧ number ≤ 6) → (fX4_size Mx - number < (k1 : Int) ∧ 0 < (k1 : Int)) → (CI Mx) → (SI Mx) → (LN Mx) → fX8_tell_L1 M table k1 Mx number = (kx, r, M') → W p l e (zRmx 7 103 1) s m args below meth c H locs 1 6 (cxE below D (VC E cI cC) M kx (some (.int (iI r))) M' args s 1) (F0 m 20 ls []) := by
      intro k1
      induction k1 with
      | zero => intro Mx number ls H locs hl hP hD hS i1 i3 jC jQ jL hE; exfalso; omega
      | succ k1 ih1 =>
        intro Mx number ls H locs hl hP hD hS i1 i3 jC jQ jL hE
        have q98 := rg_X4_size jQ
        rw [fX8_tell_L1] at hE
        refine lv_iload_n hx hb dX8_tell_20 rfl (lv_at hl 3 rfl) ?_
        refine lv_aload_n hx hb dX8_tell_21 rfl (lv_at hl 2 rfl) ?_
        refine ct_Vi (VC_fix E cI cC) (ZC_ok E cI cC T) (ZC_bl E cI cC T) hZ S0 (kX4_size l D E cI cC (ZC E cI cC T) (ZC_ok E cI cC T) (ZC_bl E cI cC T) Mx jQ (fX4_size Mx) rfl) (cwV 0 hts gX8_tell_X4_size rfl rfl rfl (by decide +kernel) ⟨(Nat.le_of_ble_eq_true rfl), (Nat.le_of_ble_eq_true rfl)⟩) hK hP hD hS rfl rfl VC_4 rfl hl.1 rfl (Nat.le_of_ble_eq_true rfl) dX8_tell_22 ⟨(Nat.le_of_ble_eq_true rfl), (Nat.le_of_ble_eq_true rfl)⟩ (fun H locs hP hD hS => ?_)
        have q2 := rg_X4_size jQ
        refine z_icmp_ge hx hb dX8_tell_25 (tgt := 126) rfl (by omega) (by omega) (fun b3 => ?_) (fun b3 => ?_)
        · rw [if_pos b3] at hE
          refine lv_aload_n hx hb dX8_tell_126 rfl (lv_at hl 0 rfl) ?_
          refine va_get (own := RX8) (ref := "NapkinSyntax") (C := RX8) (T := TX8) (N := 12) hx hb hts hinX8 hown hK hP 0 VC_0 rfl 5 (Nat.le_of_ble_eq_true rfl) (hts (.fieldLink RX8 45 "NapkinSyntax" "line" "LNapkinSyntax$Line;") (by decide +kernel)) (fun _ h => h) (v := .ref (E 15)) rfl dX8_tell_127 ?_
          refine ct_Vi (VC_fix E cI cC) (ZC_ok E cI cC T) (ZC_bl E cI cC T) hZ S0 (kX3_length l D E cI cC (ZC E cI cC T) (ZC_ok E cI cC T) (ZC_bl E cI cC T) Mx  (fX3_length Mx) rfl) (cwV 0 hts gX8_tell_X3_length rfl rfl rfl (by decide +kernel) ⟨(Nat.le_of_ble_eq_true rfl), (Nat.le_of_ble_eq_true rfl)⟩) hK hP hD hS rfl rfl VC_15 rfl hl.1 rfl (Nat.le_of_ble_eq_true rfl) dX8_tell_130 ⟨(Nat.le_of_ble_eq_true rfl), (Nat.le_of_ble_eq_true rfl)⟩ (fun H locs hP hD hS => ?_)
          have q4 := rg_X3_length jL
          obtain ⟨e0, e9⟩ := Prod.mk.inj hE
          obtain ⟨e1, e2⟩ := Prod.mk.inj e9
          subst e2
          exact cx_i hx hb hr hlocks e0 e1 rfl hS hP (Nat.le_of_ble_eq_true rfl) (Nat.le_of_ble_eq_true rfl) dX8_tell_133
        · rw [if_neg b3] at hE
          refine lv_aload_n hx hb dX8_tell_28 rfl (lv_at hl 2 rfl) ?_
          refine lv_iload_n hx hb dX8_tell_29 rfl (lv_at hl 3 rfl) ?_
          refine ct_Vi (VC_fix E cI cC) (ZC_ok E cI cC T) (ZC_bl E cI cC T) hZ S0 (kX4_napkinAt l D E cI cC (ZC E cI cC T) (ZC_ok E cI cC T) (ZC_bl E cI cC T) Mx number (by omega) jQ (fX4_napkinAt Mx number) rfl) (cwV 1 hts gX8_tell_X4_napkinAt rfl rfl rfl (by decide +kernel) ⟨(Nat.le_of_ble_eq_true rfl), (Nat.le_of_ble_eq_true rfl)⟩) hK hP hD hS rfl rfl VC_4 rfl hl.1 rfl (Nat.le_of_ble_eq_true rfl) dX8_tell_30 ⟨(Nat.le_of_ble_eq_true rfl), (Nat.le_of_ble_eq_true rfl)⟩ (fun H locs hP hD hS => ?_)
          have q5 := rg_X4_napkinAt jQ number
          refine lv_istore hx hb dX8_tell_33 hl (Nat.le_of_ble_eq_true rfl) (lv' := [(4, .int (iI (fX4_napkinAt Mx number))), (0, .ref (E 0)), (1, .int (iI table)), (2, .ref (E 4)), (3, .int (iI number))]) rfl (fun ls hl => ?_)
          refine lv_iload_n hx hb dX8_tell_35 rfl (lv_at hl 4 rfl) ?_
          refine z_if_le hx hb dX8_tell_36 (tgt := 48) rfl (by omega) (fun b6 => ?_) (fun b6 => ?_)
          · rw [if_pos b6] at hE
            refine lv_aload_n hx hb dX8_tell_48 rfl (lv_at hl 1 rfl) ?_
            refine va_get (own := RX8) (ref := "NapkinSyntax") (C := RX8) (T := TX8) (N := 12) hx hb hts hinX8 hown hK hP 0 VC_0 rfl 5 (Nat.le_of_ble_eq_true rfl) (hts (.fieldLink RX8 45 "NapkinSyntax" "line" "LNapkinSyntax$Line;") (by decide +kernel)) (fun _ h => h) (v := .ref (E 15)) rfl dX8_tell_49 ?_
            refine va_gets hx hb (ZC_bg hZ M) hS hown (hts (.fieldLink RX8 343 "NapkinSyntax" "BIG_LETTERS" "[C") (by decide +kernel)) (fun _ h => h) dX8_tell_52 ?_
            refine lv_aload_n hx hb dX8_tell_55 rfl (lv_at hl 1 rfl) ?_
            refine va_get (own := RX8) (ref := "NapkinSyntax") (C := RX8) (T := TX8) (N := 12) hx hb hts hinX8 hown hK hP 0 VC_0 rfl 1 (Nat.le_of_ble_eq_true rfl) (hts (.fieldLink RX8 20 "NapkinSyntax" "now" "LNapkinSyntax$State;") (by decide +kernel)) (fun _ h => h) (v := .ref (E 2)) rfl dX8_tell_56 ?_
            refine lv_iload hx hb dX8_tell_59 (lv_at hl 0 rfl) ?_
            refine ct_Vi (VC_fix E cI cC) (ZC_ok E cI cC T) (ZC_bl E cI cC T) hZ S0 (kX6_foldOf l D E cI cC (ZC E cI cC T) (ZC_ok E cI cC T) (ZC_bl E cI cC T) Mx (fX4_napkinAt Mx number) (by omega) (fX6_foldOf Mx (fX4_napkinAt Mx number)) rfl) (cwV 1 hts gX8_tell_X6_foldOf rfl rfl rfl (by decide +kernel) ⟨(Nat.le_of_ble_eq_true rfl), (Nat.le_of_ble_eq_true rfl)⟩) hK hP hD hS rfl rfl VC_2 rfl hl.1 rfl (Nat.le_of_ble_eq_true rfl) dX8_tell_61 ⟨(Nat.le_of_ble_eq_true rfl), (Nat.le_of_ble_eq_true rfl)⟩ (fun H locs hP hD hS => ?_)
            have q7 := rg_X6_foldOf jC (fX4_napkinAt Mx number)
            refine ct_Si (VC_fix E cI cC) (ZC_ok E cI cC T) (ZC_bl E cI cC T) hZ S0 (kX8_letterIn_b l D E cI cC T Mx (fX6_foldOf Mx (fX4_napkinAt Mx number)) (by omega) (fX8_letterIn_b (fX6_foldOf Mx (fX4_napkinAt Mx number))) rfl) (va_cwS 2 hts gX8_tell_X8_letterIn rfl rfl rfl (by decide +kernel) ⟨(Nat.le_of_ble_eq_true rfl), (Nat.le_of_ble_eq_true rfl)⟩) hK hP hD hS rfl hl.1 rfl (Nat.le_of_ble_eq_true rfl) dX8_tell_64 ⟨(Nat.le_of_ble_eq_true rfl), (Nat.le_of_ble_eq_true rfl)⟩ (fun H locs hP hD hS => ?_)
            have q8 := rg_X8_letterIn_b (fX6_foldOf Mx (fX4_napkinAt Mx number))
            refine ct_Vv (VC_fix E cI cC) (ZC_ok E cI cC T) (ZC_bl E cI cC T) hZ S0 (kX3_add l D E cI cC (ZC E cI cC T) (ZC_ok E cI cC T) (ZC_bl E cI cC T) Mx (fX8_letterIn_b (fX6_foldOf Mx (fX4_napkinAt Mx number))) (by omega) (LN_i jL) (fX3_add Mx (fX8_letterIn_b (fX6_foldOf Mx (fX4_napkinAt Mx number)))) rfl) (cwV 1 hts gX8_tell_X3_add rfl rfl rfl (by decide +kernel) ⟨(Nat.le_of_ble_eq_true rfl), (Nat.le_of_ble_eq_true rfl)⟩) hK hP hD hS rfl rfl VC_15 rfl hl.1 rfl (Nat.le_of_ble_eq_true rfl) dX8_tell_67 ⟨(Nat.le_of_ble_eq_true rfl), (Nat.le_of_ble_eq_true rfl)⟩ (fun H locs hP hD hS => ?_)
            refine lv_aload_n hx hb dX8_tell_70 rfl (lv_at hl 1 rfl) ?_
            refine va_get (own := RX8) (ref := "NapkinSyntax") (C := RX8) (T := TX8) (N := 12) hx hb hts hinX8 hown hK hP 0 VC_0 rfl 1 (Nat.le_of_ble_eq_true rfl) (hts (.fieldLink RX8 20 "NapkinSyntax" "now" "LNapkinSyntax$State;") (by decide +kernel)) (fun _ h => h) (v := .ref (E 2)) rfl dX8_tell_71 ?_
            refine lv_iload hx hb dX8_tell_74 (lv_at hl 0 rfl) ?_
            refine ct_Vi (VC_fix E cI cC) (ZC_ok E cI cC T) (ZC_bl E cI cC T) hZ S0 (kX6_foldOf l D E cI cC (ZC E cI cC T) (ZC_ok E cI cC T) (ZC_bl E cI cC T) (fX3_add Mx (fX8_letterIn_b (fX6_foldOf Mx (fX4_napkinAt Mx number)))) (fX4_napkinAt Mx number) (by omega) (fX6_foldOf (fX3_add Mx (fX8_letterIn_b (fX6_foldOf Mx (fX4_napkinAt Mx number)))) (fX4_napkinAt Mx number)) rfl) (cwV 1 hts gX8_tell_X6_foldOf rfl rfl rfl (by decide +kernel) ⟨(Nat.le_of_ble_eq_true rfl), (Nat.le_of_ble_eq_true rfl)⟩) hK hP hD hS rfl rfl VC_2 rfl hl.1 rfl (Nat.le_of_ble_eq_true rfl) dX8_tell_76 ⟨(Nat.le_of_ble_eq_true rfl), (Nat.le_of_ble_eq_true rfl)⟩ (fun H locs hP hD hS => ?_)
            have q9 := rg_X6_foldOf (CI_of0 (fr_fX3_add (fX8_letterIn_b (fX6_foldOf Mx (fX4_napkinAt Mx number))) rfl rfl) jC) (fX4_napkinAt Mx number)
            refine z_iconst hx hb dX8_tell_79 ?_
            refine z_icmp_eq hx hb dX8_tell_80 (tgt := 99) rfl (by omega) (by omega) (fun b10 => ?_) (fun b10 => ?_)
            · rw [if_pos b10] at hE
              refine lv_aload_n hx hb dX8_tell_99 rfl (lv_at hl 1 rfl) ?_
              refine va_get (own := RX8) (ref := "NapkinSyntax") (C := RX8) (T := TX8) (N := 12) hx hb hts hinX8 hown hK hP 0 VC_0 rfl 1 (Nat.le_of_ble_eq_true rfl) (hts (.fieldLink RX8 20 "NapkinSyntax" "now" "LNapkinSyntax$State;") (by decide +kernel)) (fun _ h => h) (v := .ref (E 2)) rfl dX8_tell_100 ?_
              refine lv_iload hx hb dX8_tell_103 (lv_at hl 0 rfl) ?_
              refine ct_Vi (VC_fix E cI cC) (ZC_ok E cI cC T) (ZC_bl E cI cC T) hZ S0 (kX6_stainsOf l D E cI cC (ZC E cI cC T) (ZC_ok E cI cC T) (ZC_bl E cI cC T) (fX3_add Mx (fX8_letterIn_b (fX6_foldOf Mx (fX4_napkinAt Mx number)))) (fX4_napkinAt Mx number) (by omega) (fX6_stainsOf (fX3_add Mx (fX8_letterIn_b (fX6_foldOf Mx (fX4_napkinAt Mx number)))) (fX4_napkinAt Mx number)) rfl) (cwV 1 hts gX8_tell_X6_stainsOf rfl rfl rfl (by decide +kernel) ⟨(Nat.le_of_ble_eq_true rfl), (Nat.le_of_ble_eq_true rfl)⟩) hK hP hD hS rfl rfl VC_2 rfl hl.1 rfl (Nat.le_of_ble_eq_true rfl) dX8_tell_105 ⟨(Nat.le_of_ble_eq_true rfl), (Nat.le_of_ble_eq_true rfl)⟩ (fun H locs hP hD hS => ?_)
              have q11 := rg_X6_stainsOf (CI_of0 (fr_fX3_add (fX8_letterIn_b (fX6_foldOf Mx (fX4_napkinAt Mx number))) rfl rfl) jC) (fX4_napkinAt Mx number)
              refine z_if_le hx hb dX8_tell_108 (tgt := 120) rfl (by omega) (fun b12 => ?_) (fun b12 => ?_)
              · rw [if_pos b12] at hE
                refine z_iinc hx hb dX8_tell_120 hl (k := 4) rfl (Nat.le_of_ble_eq_true rfl) (lv' := [(3, .int (iI (number + 1))), (4, .int (iI (fX4_napkinAt Mx number))), (0, .ref (E 0)), (1, .int (iI table)), (2, .ref (E 4))]) rfl (fun ls hl => ?_)
                refine lv_goto hx hb dX8_tell_123 (tgt := 20) rfl ?_
                exact ih1 (fX3_add Mx (fX8_letterIn_b (fX6_foldOf Mx (fX4_napkinAt Mx number)))) (number + 1) ls _ _ (lv_sub hl [2, 3, 4, 0] rfl) hP hD hS (by omega) (by first | omega | (rw [size_of7 (M := Mx) (by simp only [fr_fX3_add, fr_fX3_addDigit, show Nat.beq 7 12 = false from rfl, show Nat.beq 7 13 = false from rfl])]; omega)) (CI_of0 (fr_fX3_add (fX8_letterIn_b (fX6_foldOf Mx (fX4_napkinAt Mx number))) rfl rfl) jC) (SI_of (fr_fX3_add (fX8_letterIn_b (fX6_foldOf Mx (fX4_napkinAt Mx number))) rfl rfl) (fr_fX3_add (fX8_letterIn_b (fX6_foldOf Mx (fX4_napkinAt Mx number))) rfl rfl) (fr_fX3_add (fX8_letterIn_b (fX6_foldOf Mx (fX4_napkinAt Mx number))) rfl rfl) (fr_fX3_add (fX8_letterIn_b (fX6_foldOf Mx (fX4_napkinAt Mx number))) rfl rfl) (fr_fX3_add (fX8_letterIn_b (fX6_foldOf Mx (fX4_napkinAt Mx number))) rfl rfl) jQ) (LN_add jL (fX8_letterIn_b (fX6_foldOf Mx (fX4_napkinAt Mx number))) (by omega)) hE
              · rw [if_neg b12] at hE
                refine lv_aload_n hx hb dX8_tell_111 rfl (lv_at hl 1 rfl) ?_
                refine va_get (own := RX8) (ref := "NapkinSyntax") (C := RX8) (T := TX8) (N := 12) hx hb hts hinX8 hown hK hP 0 VC_0 rfl 5 (Nat.le_of_ble_eq_true rfl) (hts (.fieldLink RX8 45 "NapkinSyntax" "line" "LNapkinSyntax$Line;") (by decide +kernel)) (fun _ h => h) (v := .ref (E 15)) rfl dX8_tell_112 ?_
                refine z_bipush hx hb dX8_tell_115 (by decide +kernel) ?_
                refine ct_Vv (VC_fix E cI cC) (ZC_ok E cI cC T) (ZC_bl E cI cC T) hZ S0 (kX3_add l D E cI cC (ZC E cI cC T) (ZC_ok E cI cC T) (ZC_bl E cI cC T) (fX3_add Mx (fX8_letterIn_b (fX6_foldOf Mx (fX4_napkinAt Mx number)))) (63) (by omega) (LN_i (LN_add jL (fX8_letterIn_b (fX6_foldOf Mx (fX4_napkinAt Mx number))) (by omega))) (fX3_add (fX3_add Mx (fX8_letterIn_b (fX6_foldOf Mx (fX4_napkinAt Mx number)))) (63)) rfl) (cwV 1 hts gX8_tell_X3_add rfl rfl rfl (by decide +kernel) ⟨(Nat.le_of_ble_eq_true rfl), (Nat.le_of_ble_eq_true rfl)⟩) hK hP hD hS rfl rfl VC_15 rfl hl.1 rfl (Nat.le_of_ble_eq_true rfl) dX8_tell_117 ⟨(Nat.le_of_ble_eq_true rfl), (Nat.le_of_ble_eq_true rfl)⟩ (fun H locs hP hD hS => ?_)
                refine z_iinc hx hb dX8_tell_120 hl (k := 4) rfl (Nat.le_of_ble_eq_true rfl) (lv' := [(3, .int (iI (number + 1))), (4, .int (iI (fX4_napkinAt Mx number))), (0, .ref (E 0)), (1, .int (iI table)), (2, .ref (E 4))]) rfl (fun ls hl => ?_)
                refine lv_goto hx hb dX8_tell_123 (tgt := 20) rfl ?_
                exact ih1 (fX3_add (fX3_add Mx (fX8_letterIn_b (fX6_foldOf Mx (fX4_napkinAt Mx number)))) (63)) (number + 1) ls _ _ (lv_sub hl [2, 3, 4, 0] rfl) hP hD hS (by omega) (by first | omega | (rw [size_of7 (M := Mx) (by simp only [fr_fX3_add, fr_fX3_addDigit, show Nat.beq 7 12 = false from rfl, show Nat.beq 7 13 = false from rfl])]; omega)) (CI_of0 (fr_fX3_add (63) rfl rfl) (CI_of0 (fr_fX3_add (fX8_letterIn_b (fX6_foldOf Mx (fX4_napkinAt Mx number))) rfl rfl) jC)) (SI_of (fr_fX3_add (63) rfl rfl) (fr_fX3_add (63) rfl rfl) (fr_fX3_add (63) rfl rfl) (fr_fX3_add (63) rfl rfl) (fr_fX3_add (63) rfl rfl) (SI_of (fr_fX3_add (fX8_letterIn_b (fX6_foldOf Mx (fX4_napkinAt Mx number))) rfl rfl) (fr_fX3_add (fX8_letterIn_b (fX6_foldOf Mx (fX4_napkinAt Mx number))) rfl rfl) (fr_fX3_add (fX8_letterIn_b (fX6_foldOf Mx (fX4_napkinAt Mx number))) rfl rfl) (fr_fX3_add (fX8_letterIn_b (fX6_foldOf Mx (fX4_napkinAt Mx number))) rfl rfl) (fr_fX3_add (fX8_letterIn_b (fX6_foldOf Mx (fX4_napkinAt Mx number))) rfl rfl) jQ)) (LN_add (LN_add jL (fX8_letterIn_b (fX6_foldOf Mx (fX4_napkinAt Mx number))) (by omega)) (63) (by omega)) hE
            · rw [if_neg b10] at hE
              refine lv_aload_n hx hb dX8_tell_83 rfl (lv_at hl 1 rfl) ?_
              refine va_get (own := RX8) (ref := "NapkinSyntax") (C := RX8) (T := TX8) (N := 12) hx hb hts hinX8 hown hK hP 0 VC_0 rfl 5 (Nat.le_of_ble_eq_true rfl) (hts (.fieldLink RX8 45 "NapkinSyntax" "line" "LNapkinSyntax$Line;") (by decide +kernel)) (fun _ h => h) (v := .ref (E 15)) rfl dX8_tell_84 ?_
              refine lv_aload_n hx hb dX8_tell_87 rfl (lv_at hl 1 rfl) ?_
              refine va_get (own := RX8) (ref := "NapkinSyntax") (C := RX8) (T := TX8) (N := 12) hx hb hts hinX8 hown hK hP 0 VC_0 rfl 1 (Nat.le_of_ble_eq_true rfl) (hts (.fieldLink RX8 20 "NapkinSyntax" "now" "LNapkinSyntax$State;") (by decide +kernel)) (fun _ h => h) (v := .ref (E 2)) rfl dX8_tell_88 ?_
              refine lv_iload hx hb dX8_tell_91 (lv_at hl 0 rfl) ?_
              refine ct_Vi (VC_fix E cI cC) (ZC_ok E cI cC T) (ZC_bl E cI cC T) hZ S0 (kX6_colourOf l D E cI cC (ZC E cI cC T) (ZC_ok E cI cC T) (ZC_bl E cI cC T) (fX3_add Mx (fX8_letterIn_b (fX6_foldOf Mx (fX4_napkinAt Mx number)))) (fX4_napkinAt Mx number) (by omega) (fX6_colourOf (fX3_add Mx (fX8_letterIn_b (fX6_foldOf Mx (fX4_napkinAt Mx number)))) (fX4_napkinAt Mx number)) rfl) (cwV 1 hts gX8_tell_X6_colourOf rfl rfl rfl (by decide +kernel) ⟨(Nat.le_of_ble_eq_true rfl), (Nat.le_of_ble_eq_true rfl)⟩) hK hP hD hS rfl rfl VC_2 rfl hl.1 rfl (Nat.le_of_ble_eq_true rfl) dX8_tell_93 ⟨(Nat.le_of_ble_eq_true rfl), (Nat.le_of_ble_eq_true rfl)⟩ (fun H locs hP hD hS => ?_)
              have q13 := rg_X6_colourOf (CI_of0 (fr_fX3_add (fX8_letterIn_b (fX6_foldOf Mx (fX4_napkinAt Mx number))) rfl rfl) jC) (fX4_napkinAt Mx number)
              refine ct_Vv (VC_fix E cI cC) (ZC_ok E cI cC T) (ZC_bl E cI cC T) hZ S0 (kX3_addDigit l D E cI cC (ZC E cI cC T) (ZC_ok E cI cC T) (ZC_bl E cI cC T) (fX3_add Mx (fX8_letterIn_b (fX6_foldOf Mx (fX4_napkinAt Mx number)))) (fX6_colourOf (fX3_add Mx (fX8_letterIn_b (fX6_foldOf Mx (fX4_napkinAt Mx number)))) (fX4_napkinAt Mx number)) (by omega) (LN_i (LN_add jL (fX8_letterIn_b (fX6_foldOf Mx (fX4_napkinAt Mx number))) (by omega))) (fX3_addDigit (fX3_add Mx (fX8_letterIn_b (fX6_foldOf Mx (fX4_napkinAt Mx number)))) (fX6_colourOf (fX3_add Mx (fX8_letterIn_b (fX6_foldOf Mx (fX4_napkinAt Mx number)))) (fX4_napkinAt Mx number))) rfl) (cwV 1 hts gX8_tell_X3_addDigit rfl rfl rfl (by decide +kernel) ⟨(Nat.le_of_ble_eq_true rfl), (Nat.le_of_ble_eq_true rfl)⟩) hK hP hD hS rfl rfl VC_15 rfl hl.1 rfl (Nat.le_of_ble_eq_true rfl) dX8_tell_96 ⟨(Nat.le_of_ble_eq_true rfl), (Nat.le_of_ble_eq_true rfl)⟩ (fun H locs hP hD hS => ?_)
              refine lv_aload_n hx hb dX8_tell_99 rfl (lv_at hl 1 rfl) ?_
              refine va_get (own := RX8) (ref := "NapkinSyntax") (C := RX8) (T := TX8) (N := 12) hx hb hts hinX8 hown hK hP 0 VC_0 rfl 1 (Nat.le_of_ble_eq_true rfl) (hts (.fieldLink RX8 20 "NapkinSyntax" "now" "LNapkinSyntax$State;") (by decide +kernel)) (fun _ h => h) (v := .ref (E 2)) rfl dX8_tell_100 ?_
              refine lv_iload hx hb dX8_tell_103 (lv_at hl 0 rfl) ?_
              refine ct_Vi (VC_fix E cI cC) (ZC_ok E cI cC T) (ZC_bl E cI cC T) hZ S0 (kX6_stainsOf l D E cI cC (ZC E cI cC T) (ZC_ok E cI cC T) (ZC_bl E cI cC T) (fX3_addDigit (fX3_add Mx (fX8_letterIn_b (fX6_foldOf Mx (fX4_napkinAt Mx number)))) (fX6_colourOf (fX3_add Mx (fX8_letterIn_b (fX6_foldOf Mx (fX4_napkinAt Mx number)))) (fX4_napkinAt Mx number))) (fX4_napkinAt Mx number) (by omega) (fX6_stainsOf (fX3_addDigit (fX3_add Mx (fX8_letterIn_b (fX6_foldOf Mx (fX4_napkinAt Mx number)))) (fX6_colourOf (fX3_add Mx (fX8_letterIn_b (fX6_foldOf Mx (fX4_napkinAt Mx number)))) (fX4_napkinAt Mx number))) (fX4_napkinAt Mx number)) rfl) (cwV 1 hts gX8_tell_X6_stainsOf rfl rfl rfl (by decide +kernel) ⟨(Nat.le_of_ble_eq_true rfl), (Nat.le_of_ble_eq_true rfl)⟩) hK hP hD hS rfl rfl VC_2 rfl hl.1 rfl (Nat.le_of_ble_eq_true rfl) dX8_tell_105 ⟨(Nat.le_of_ble_eq_true rfl), (Nat.le_of_ble_eq_true rfl)⟩ (fun H locs hP hD hS => ?_)
              have q14 := rg_X6_stainsOf (CI_of0 (fr_fX3_addDigit (fX6_colourOf (fX3_add Mx (fX8_letterIn_b (fX6_foldOf Mx (fX4_napkinAt Mx number)))) (fX4_napkinAt Mx number)) rfl rfl) (CI_of0 (fr_fX3_add (fX8_letterIn_b (fX6_foldOf Mx (fX4_napkinAt Mx number))) rfl rfl) jC)) (fX4_napkinAt Mx number)
              refine z_if_le hx hb dX8_tell_108 (tgt := 120) rfl (by omega) (fun b15 => ?_) (fun b15 => ?_)
              · rw [if_pos b15] at hE
                refine z_iinc hx hb dX8_tell_120 hl (k := 4) rfl (Nat.le_of_ble_eq_true rfl) (lv' := [(3, .int (iI (number + 1))), (4, .int (iI (fX4_napkinAt Mx number))), (0, .ref (E 0)), (1, .int (iI table)), (2, .ref (E 4))]) rfl (fun ls hl => ?_)
                refine lv_goto hx hb dX8_tell_123 (tgt := 20) rfl ?_
                exact ih1 (fX3_addDigit (fX3_add Mx (fX8_letterIn_b (fX6_foldOf Mx (fX4_napkinAt Mx number)))) (fX6_colourOf (fX3_add Mx (fX8_letterIn_b (fX6_foldOf Mx (fX4_napkinAt Mx number)))) (fX4_napkinAt Mx number))) (number + 1) ls _ _ (lv_sub hl [2, 3, 4, 0] rfl) hP hD hS (by omega) (by first | omega | (rw [size_of7 (M := Mx) (by simp only [fr_fX3_add, fr_fX3_addDigit, show Nat.beq 7 12 = false from rfl, show Nat.beq 7 13 = false from rfl])]; omega)) (CI_of0 (fr_fX3_addDigit (fX6_colourOf (fX3_add Mx (fX8_letterIn_b (fX6_foldOf Mx (fX4_napkinAt Mx number)))) (fX4_napkinAt Mx number)) rfl rfl) (CI_of0 (fr_fX3_add (fX8_letterIn_b (fX6_foldOf Mx (fX4_napkinAt Mx number))) rfl rfl) jC)) (SI_of (fr_fX3_addDigit (fX6_colourOf (fX3_add Mx (fX8_letterIn_b (fX6_foldOf Mx (fX4_napkinAt Mx number)))) (fX4_napkinAt Mx number)) rfl rfl) (fr_fX3_addDigit (fX6_colourOf (fX3_add Mx (fX8_letterIn_b (fX6_foldOf Mx (fX4_napkinAt Mx number)))) (fX4_napkinAt Mx number)) rfl rfl) (fr_fX3_addDigit (fX6_colourOf (fX3_add Mx (fX8_letterIn_b (fX6_foldOf Mx (fX4_napkinAt Mx number)))) (fX4_napkinAt Mx number)) rfl rfl) (fr_fX3_addDigit (fX6_colourOf (fX3_add Mx (fX8_letterIn_b (fX6_foldOf Mx (fX4_napkinAt Mx number)))) (fX4_napkinAt Mx number)) rfl rfl) (fr_fX3_addDigit (fX6_colourOf (fX3_add Mx (fX8_letterIn_b (fX6_foldOf Mx (fX4_napkinAt Mx number)))) (fX4_napkinAt Mx number)) rfl rfl) (SI_of (fr_fX3_add (fX8_letterIn_b (fX6_foldOf Mx (fX4_napkinAt Mx number))) rfl rfl) (fr_fX3_add (fX8_letterIn_b (fX6_foldOf Mx (fX4_napkinAt Mx number))) rfl rfl) (fr_fX3_add (fX8_letterIn_b (fX6_foldOf Mx (fX4_napkinAt Mx number))) rfl rfl) (fr_fX3_add (fX8_letterIn_b (fX6_foldOf Mx (fX4_napkinAt Mx number))) rfl rfl) (fr_fX3_add (fX8_letterIn_b (fX6_foldOf Mx (fX4_napkinAt Mx number))) rfl rfl) jQ)) (LN_addDigit (LN_add jL (fX8_letterIn_b (fX6_foldOf Mx (fX4_napkinAt Mx number))) (by omega)) (fX6_colourOf (fX3_add Mx (fX8_letterIn_b (fX6_foldOf Mx (fX4_napkinAt Mx number)))) (fX4_napkinAt Mx number)) (by omega)) hE
              · rw [if_neg b15] at hE
                refine lv_aload_n hx hb dX8_tell_111 rfl (lv_at hl 1 rfl) ?_
                refine va_get (own := RX8) (ref := "NapkinSyntax") (C := RX8) (T := TX8) (N := 12) hx hb hts hinX8 hown hK hP 0 VC_0 rfl 5 (Nat.le_of_ble_eq_true rfl) (hts (.fieldLink RX8 45 "NapkinSyntax" "line" "LNapkinSyntax$Line;") (by decide +kernel)) (fun _ h => h) (v := .ref (E 15)) rfl dX8_tell_112 ?_
                refine z_bipush hx hb dX8_tell_115 (by decide +kernel) ?_
                refine ct_Vv (VC_fix E cI cC) (ZC_ok E cI cC T) (ZC_bl E cI cC T) hZ S0 (kX3_add l D E cI cC (ZC E cI cC T) (ZC_ok E cI cC T) (ZC_bl E cI cC T) (fX3_addDigit (fX3_add Mx (fX8_letterIn_b (fX6_foldOf Mx (fX4_napkinAt Mx number)))) (fX6_colourOf (fX3_add Mx (fX8_letterIn_b (fX6_foldOf Mx (fX4_napkinAt Mx number)))) (fX4_napkinAt Mx number))) (63) (by omega) (LN_i (LN_addDigit (LN_add jL (fX8_letterIn_b (fX6_foldOf Mx (fX4_napkinAt Mx number))) (by omega)) (fX6_colourOf (fX3_add Mx (fX8_letterIn_b (fX6_foldOf Mx (fX4_napkinAt Mx number)))) (fX4_napkinAt Mx number)) (by omega))) (fX3_add (fX3_addDigit (fX3_add Mx (fX8_letterIn_b (fX6_foldOf Mx (fX4_napkinAt Mx number)))) (fX6_colourOf (fX3_add Mx (fX8_letterIn_b (fX6_foldOf Mx (fX4_napkinAt Mx number)))) (fX4_napkinAt Mx number))) (63)) rfl) (cwV 1 hts gX8_tell_X3_add rfl rfl rfl (by decide +kernel) ⟨(Nat.le_of_ble_eq_true rfl), (Nat.le_of_ble_eq_true rfl)⟩) hK hP hD hS rfl rfl VC_15 rfl hl.1 rfl (Nat.le_of_ble_eq_true rfl) dX8_tell_117 ⟨(Nat.le_of_ble_eq_true rfl), (Nat.le_of_ble_eq_true rfl)⟩ (fun H locs hP hD hS => ?_)
                refine z_iinc hx hb dX8_tell_120 hl (k := 4) rfl (Nat.le_of_ble_eq_true rfl) (lv' := [(3, .int (iI (number + 1))), (4, .int (iI (fX4_napkinAt Mx number))), (0, .ref (E 0)), (1, .int (iI table)), (2, .ref (E 4))]) rfl (fun ls hl => ?_)
                refine lv_goto hx hb dX8_tell_123 (tgt := 20) rfl ?_
                exact ih1 (fX3_add (fX3_addDigit (fX3_add Mx (fX8_letterIn_b (fX6_foldOf Mx (fX4_napkinAt Mx number)))) (fX6_colourOf (fX3_add Mx (fX8_letterIn_b (fX6_foldOf Mx (fX4_napkinAt Mx number)))) (fX4_napkinAt Mx number))) (63)) (number + 1) ls _ _ (lv_sub hl [2, 3, 4, 0] rfl) hP hD hS (by omega) (by first | omega | (rw [size_of7 (M := Mx) (by simp only [fr_fX3_add, fr_fX3_addDigit, show Nat.beq 7 12 = false from rfl, show Nat.beq 7 13 = false from rfl])]; omega)) (CI_of0 (fr_fX3_add (63) rfl rfl) (CI_of0 (fr_fX3_addDigit (fX6_colourOf (fX3_add Mx (fX8_letterIn_b (fX6_foldOf Mx (fX4_napkinAt Mx number)))) (fX4_napkinAt Mx number)) rfl rfl) (CI_of0 (fr_fX3_add (fX8_letterIn_b (fX6_foldOf Mx (fX4_napkinAt Mx number))) rfl rfl) jC))) (SI_of (fr_fX3_add (63) rfl rfl) (fr_fX3_add (63) rfl rfl) (fr_fX3_add (63) rfl rfl) (fr_fX3_add (63) rfl rfl) (fr_fX3_add (63) rfl rfl) (SI_of (fr_fX3_addDigit (fX6_colourOf (fX3_add Mx (fX8_letterIn_b (fX6_foldOf Mx (fX4_napkinAt Mx number)))) (fX4_napkinAt Mx number)) rfl rfl) (fr_fX3_addDigit (fX6_colourOf (fX3_add Mx (fX8_letterIn_b (fX6_foldOf Mx (fX4_napkinAt Mx number)))) (fX4_napkinAt Mx number)) rfl rfl) (fr_fX3_addDigit (fX6_colourOf (fX3_add Mx (fX8_letterIn_b (fX6_foldOf Mx (fX4_napkinAt Mx number)))) (fX4_napkinAt Mx number)) rfl rfl) (fr_fX3_addDigit (fX6_colourOf (fX3_add Mx (fX8_letterIn_b (fX6_foldOf Mx (fX4_napkinAt Mx number)))) (fX4_napkinAt Mx number)) rfl rfl) (fr_fX3_addDigit (fX6_colourOf (fX3_add Mx (fX8_letterIn_b (fX6_foldOf Mx (fX4_napkinAt Mx number)))) (fX4_napkinAt Mx number)) rfl rfl) (SI_of (fr_fX3_add (fX8_letterIn_b (fX6_foldOf Mx (fX4_napkinAt Mx number))) rfl rfl) (fr_fX3_add (fX8_letterIn_b (fX6_foldOf Mx (fX4_napkinAt Mx number))) rfl rfl) (fr_fX3_add (fX8_letterIn_b (fX6_foldOf Mx (fX4_napkinAt Mx number))) rfl rfl) (fr_fX3_add (fX8_letterIn_b (fX6_foldOf Mx (fX4_napkinAt Mx number))) rfl rfl) (fr_fX3_add (fX8_letterIn_b (fX6_foldOf Mx (fX4_napkinAt Mx number))) rfl rfl) jQ))) (LN_add (LN_addDigit (LN_add jL (fX8_letterIn_b (fX6_foldOf Mx (fX4_napkinAt Mx number))) (by omega)) (fX6_colourOf (fX3_add Mx (fX8_letterIn_b (fX6_foldOf Mx (fX4_napkinAt Mx number)))) (fX4_napkinAt Mx number)) (by omega)) (63) (by omega)) hE
          · rw [if_neg b6] at hE
            refine lv_aload_n hx hb dX8_tell_39 rfl (lv_at hl 1 rfl) ?_
            refine va_get (own := RX8) (ref := "NapkinSyntax") (C := RX8) (T := TX8) (N := 12) hx hb hts hinX8 hown hK hP 0 VC_0 rfl 5 (Nat.le_of_ble_eq_true rfl) (hts (.fieldLink RX8 45 "NapkinSyntax" "line" "LNapkinSyntax$Line;") (by decide +kernel)) (fun _ h => h) (v := .ref (E 15)) rfl dX8_tell_40 ?_
            refine z_bipush hx hb dX8_tell_43 (by decide +kernel) ?_
            refine ct_Vv (VC_fix E cI cC) (ZC_ok E cI cC T) (ZC_bl E cI cC T) hZ S0 (kX3_add l D E cI cC (ZC E cI cC T) (ZC_ok E cI cC T) (ZC_bl E cI cC T) Mx (32) (by omega) (LN_i jL) (fX3_add Mx (32)) rfl) (cwV 1 hts gX8_tell_X3_add rfl rfl rfl (by decide +kernel) ⟨(Nat.le_of_ble_eq_true rfl), (Nat.le_of_ble_eq_true rfl)⟩) hK hP hD hS rfl rfl VC_15 rfl hl.1 rfl (Nat.le_of_ble_eq_true rfl) dX8_tell_45 ⟨(Nat.le_of_ble_eq_true rfl), (Nat.le_of_ble_eq_true rfl)⟩ (fun H locs hP hD hS => ?_)
            refine lv_aload_n hx hb dX8_tell_48 rfl (lv_at hl 1 rfl) ?_
            refine va_get (own := RX8) (ref := "NapkinSyntax") (C := RX8) (T := TX8) (N := 12) hx hb hts hinX8 hown hK hP 0 VC_0 rfl 5 (Nat.le_of_ble_eq_true rfl) (hts (.fieldLink RX8 45 "NapkinSyntax" "line" "LNapkinSyntax$Line;") (by decide +kernel)) (fun _ h => h) (v := .ref (E 15)) rfl dX8_tell_49 ?_
            refine va_gets hx hb (ZC_bg hZ M) hS hown (hts (.fieldLink RX8 343 "NapkinSyntax" "BIG_LETTERS" "[C") (by decide +kernel)) (fun _ h => h) dX8_tell_52 ?_
            refine lv_aload_n hx hb dX8_tell_55 rfl (lv_at hl 1 rfl) ?_
            refine va_get (own := RX8) (ref := "NapkinSyntax") (C := RX8) (T := TX8) (N := 12) hx hb hts hinX8 hown hK hP 0 VC_0 rfl 1 (Nat.le_of_ble_eq_true rfl) (hts (.fieldLink RX8 20 "NapkinSyntax" "now" "LNapkinSyntax$State;") (by decide +kernel)) (fun _ h => h) (v := .ref (E 2)) rfl dX8_tell_56 ?_
            refine lv_iload hx hb dX8_tell_59 (lv_at hl 0 rfl) ?_
            refine ct_Vi (VC_fix E cI cC) (ZC_ok E cI cC T) (ZC_bl E cI cC T) hZ S0 (kX6_foldOf l D E cI cC (ZC E cI cC T) (ZC_ok E cI cC T) (ZC_bl E cI cC T) (fX3_add Mx (32)) (fX4_napkinAt Mx number) (by omega) (fX6_foldOf (fX3_add Mx (32)) (fX4_napkinAt Mx number)) rfl) (cwV 1 hts gX8_tell_X6_foldOf rfl rfl rfl (by decide +kernel) ⟨(Nat.le_of_ble_eq_true rfl), (Nat.le_of_ble_eq_true rfl)⟩) hK hP hD hS rfl rfl VC_2 rfl hl.1 rfl (Nat.le_of_ble_eq_true rfl) dX8_tell_61 ⟨(Nat.le_of_ble_eq_true rfl), (Nat.le_of_ble_eq_true rfl)⟩ (fun H locs hP hD hS => ?_)
            have q16 := rg_X6_foldOf (CI_of0 (fr_fX3_add (32) rfl rfl) jC) (fX4_napkinAt Mx number)
            refine ct_Si (VC_fix E cI cC) (ZC_ok E cI cC T) (ZC_bl E cI cC T) hZ S0 (kX8_letterIn_b l D E cI cC T (fX3_add Mx (32)) (fX6_foldOf (fX3_add Mx (32)) (fX4_napkinAt Mx number)) (by omega) (fX8_letterIn_b (fX6_foldOf (fX3_add Mx (32)) (fX4_napkinAt Mx number))) rfl) (va_cwS 2 hts gX8_tell_X8_letterIn rfl rfl rfl (by decide +kernel) ⟨(Nat.le_of_ble_eq_true rfl), (Nat.le_of_ble_eq_true rfl)⟩) hK hP hD hS rfl hl.1 rfl (Nat.le_of_ble_eq_true rfl) dX8_tell_64 ⟨(Nat.le_of_ble_eq_true rfl), (Nat.le_of_ble_eq_true rfl)⟩ (fun H locs hP hD hS => ?_)
            have q17 := rg_X8_letterIn_b (fX6_foldOf (fX3_add Mx (32)) (fX4_napkinAt Mx number))
            refine ct_Vv (VC_fix E cI cC) (ZC_ok E cI cC T) (ZC_bl E cI cC T) hZ S0 (kX3_add l D E cI cC (ZC E cI cC T) (ZC_ok E cI cC T) (ZC_bl E cI cC T) (fX3_add Mx (32)) (fX8_letterIn_b (fX6_foldOf (fX3_add Mx (32)) (fX4_napkinAt Mx number))) (by omega) (LN_i (LN_add jL (32) (by omega))) (fX3_add (fX3_add Mx (32)) (fX8_letterIn_b (fX6_foldOf (fX3_add Mx (32)) (fX4_napkinAt Mx number)))) rfl) (cwV 1 hts gX8_tell_X3_add rfl rfl rfl (by decide +kernel) ⟨(Nat.le_of_ble_eq_true rfl), (Nat.le_of_ble_eq_true rfl)⟩) hK hP hD hS rfl rfl VC_15 rfl hl.1 rfl (Nat.le_of_ble_eq_true rfl) dX8_tell_67 ⟨(Nat.le_of_ble_eq_true rfl), (Nat.le_of_ble_eq_true rfl)⟩ (fun H locs hP hD hS => ?_)
            refine lv_aload_n hx hb dX8_tell_70 rfl (lv_at hl 1 rfl) ?_
            refine va_get (own := RX8) (ref := "NapkinSyntax") (C := RX8) (T := TX8) (N := 12) hx hb hts hinX8 hown hK hP 0 VC_0 rfl 1 (Nat.le_of_ble_eq_true rfl) (hts (.fieldLink RX8 20 "NapkinSyntax" "now" "LNapkinSyntax$State;") (by decide +kernel)) (fun _ h => h) (v := .ref (E 2)) rfl dX8_tell_71 ?_
            refine lv_iload hx hb dX8_tell_74 (lv_at hl 0 rfl) ?_
            refine ct_Vi (VC_fix E cI cC) (ZC_ok E cI cC T) (ZC_bl E cI cC T) hZ S0 (kX6_foldOf l D E cI cC (ZC E cI cC T) (ZC_ok E cI cC T) (ZC_bl E cI cC T) (fX3_add (fX3_add Mx (32)) (fX8_letterIn_b (fX6_foldOf (fX3_add Mx (32)) (fX4_napkinAt Mx number)))) (fX4_napkinAt Mx number) (by omega) (fX6_foldOf (fX3_add (fX3_add Mx (32)) (fX8_letterIn_b (fX6_foldOf (fX3_add Mx (32)) (fX4_napkinAt Mx number)))) (fX4_napkinAt Mx number)) rfl) (cwV 1 hts gX8_tell_X6_foldOf rfl rfl rfl (by decide +kernel) ⟨(Nat.le_of_ble_eq_true rfl), (Nat.le_of_ble_eq_true rfl)⟩) hK hP hD hS rfl rfl VC_2 rfl hl.1 rfl (Nat.le_of_ble_eq_true rfl) dX8_tell_76 ⟨(Nat.le_of_ble_eq_true rfl), (Nat.le_of_ble_eq_true rfl)⟩ (fun H locs hP hD hS => ?_)
            have q18 := rg_X6_foldOf (CI_of0 (fr_fX3_add (fX8_letterIn_b (fX6_foldOf (fX3_add Mx (32)) (fX4_napkinAt Mx number))) rfl rfl) (CI_of0 (fr_fX3_add (32) rfl rfl) jC)) (fX4_napkinAt Mx number)
            refine z_iconst hx hb dX8_tell_79 ?_
            refine z_icmp_eq hx hb dX8_tell_80 (tgt := 99) rfl (by omega) (by omega) (fun b19 => ?_) (fun b19 => ?_)
            · rw [if_pos b19] at hE
              refine lv_aload_n hx hb dX8_tell_99 rfl (lv_at hl 1 rfl) ?_
              refine va_get (own := RX8) (ref := "NapkinSyntax") (C := RX8) (T := TX8) (N := 12) hx hb hts hinX8 hown hK hP 0 VC_0 rfl 1 (Nat.le_of_ble_eq_true rfl) (hts (.fieldLink RX8 20 "NapkinSyntax" "now" "LNapkinSyntax$State;") (by decide +kernel)) (fun _ h => h) (v := .ref (E 2)) rfl dX8_tell_100 ?_
              refine lv_iload hx hb dX8_tell_103 (lv_at hl 0 rfl) ?_
              refine ct_Vi (VC_fix E cI cC) (ZC_ok E cI cC T) (ZC_bl E cI cC T) hZ S0 (kX6_stainsOf l D E cI cC (ZC E cI cC T) (ZC_ok E cI cC T) (ZC_bl E cI cC T) (fX3_add (fX3_add Mx (32)) (fX8_letterIn_b (fX6_foldOf (fX3_add Mx (32)) (fX4_napkinAt Mx number)))) (fX4_napkinAt Mx number) (by omega) (fX6_stainsOf (fX3_add (fX3_add Mx (32)) (fX8_letterIn_b (fX6_foldOf (fX3_add Mx (32)) (fX4_napkinAt Mx number)))) (fX4_napkinAt Mx number)) rfl) (cwV 1 hts gX8_tell_X6_stainsOf rfl rfl rfl (by decide +kernel) ⟨(Nat.le_of_ble_eq_true rfl), (Nat.le_of_ble_eq_true rfl)⟩) hK hP hD hS rfl rfl VC_2 rfl hl.1 rfl (Nat.le_of_ble_eq_true rfl) dX8_tell_105 ⟨(Nat.le_of_ble_eq_true rfl), (Nat.le_of_ble_eq_true rfl)⟩ (fun H locs hP hD hS => ?_)
              have q20 := rg_X6_stainsOf (CI_of0 (fr_fX3_add (fX8_letterIn_b (fX6_foldOf (fX3_add Mx (32)) (fX4_napkinAt Mx number))) rfl rfl) (CI_of0 (fr_fX3_add (32) rfl rfl) jC)) (fX4_napkinAt Mx number)
              refine z_if_le hx hb dX8_tell_108 (tgt := 120) rfl (by omega) (fun b21 => ?_) (fun b21 => ?_)
              · rw [if_pos b21] at hE
                refine z_iinc hx hb dX8_tell_120 hl (k := 4) rfl (Nat.le_of_ble_eq_true rfl) (lv' := [(3, .int (iI (number + 1))), (4, .int (iI (fX4_napkinAt Mx number))), (0, .ref (E 0)), (1, .int (iI table)), (2, .ref (E 4))]) rfl (fun ls hl => ?_)
                refine lv_goto hx hb dX8_tell_123 (tgt := 20) rfl ?_
                exact ih1 (fX3_add (fX3_add Mx (32)) (fX8_letterIn_b (fX6_foldOf (fX3_add Mx (32)) (fX4_napkinAt Mx number)))) (number + 1) ls _ _ (lv_sub hl [2, 3, 4, 0] rfl) hP hD hS (by omega) (by first | omega | (rw [size_of7 (M := Mx) (by simp only [fr_fX3_add, fr_fX3_addDigit, show Nat.beq 7 12 = false from rfl, show Nat.beq 7 13 = false from rfl])]; omega)) (CI_of0 (fr_fX3_add (fX8_letterIn_b (fX6_foldOf (fX3_add Mx (32)) (fX4_napkinAt Mx number))) rfl rfl) (CI_of0 (fr_fX3_add (32) rfl rfl) jC)) (SI_of (fr_fX3_add (fX8_letterIn_b (fX6_foldOf (fX3_add Mx (32)) (fX4_napkinAt Mx number))) rfl rfl) (fr_fX3_add (fX8_letterIn_b (fX6_foldOf (fX3_add Mx (32)) (fX4_napkinAt Mx number))) rfl rfl) (fr_fX3_add (fX8_letterIn_b (fX6_foldOf (fX3_add Mx (32)) (fX4_napkinAt Mx number))) rfl rfl) (fr_fX3_add (fX8_letterIn_b (fX6_foldOf (fX3_add Mx (32)) (fX4_napkinAt Mx number))) rfl rfl) (fr_fX3_add (fX8_letterIn_b (fX6_foldOf (fX3_add Mx (32)) (fX4_napkinAt Mx number))) rfl rfl) (SI_of (fr_fX3_add (32) rfl rfl) (fr_fX3_add (32) rfl rfl) (fr_fX3_add (32) rfl rfl) (fr_fX3_add (32) rfl rfl) (fr_fX3_add (32) rfl rfl) jQ)) (LN_add (LN_add jL (32) (by omega)) (fX8_letterIn_b (fX6_foldOf (fX3_add Mx (32)) (fX4_napkinAt Mx number))) (by omega)) hE
              · rw [if_neg b21] at hE
                refine lv_aload_n hx hb dX8_tell_111 rfl (lv_at hl 1 rfl) ?_
                refine va_get (own := RX8) (ref := "NapkinSyntax") (C := RX8) (T := TX8) (N := 12) hx hb hts hinX8 hown hK hP 0 VC_0 rfl 5 (Nat.le_of_ble_eq_true rfl) (hts (.fieldLink RX8 45 "NapkinSyntax" "line" "LNapkinSyntax$Line;") (by decide +kernel)) (fun _ h => h) (v := .ref (E 15)) rfl dX8_tell_112 ?_
                refine z_bipush hx hb dX8_tell_115 (by decide +kernel) ?_
                refine ct_Vv (VC_fix E cI cC) (ZC_ok E cI cC T) (ZC_bl E cI cC T) hZ S0 (kX3_add l D E cI cC (ZC E cI cC T) (ZC_ok E cI cC T) (ZC_bl E cI cC T) (fX3_add (fX3_add Mx (32)) (fX8_letterIn_b (fX6_foldOf (fX3_add Mx (32)) (fX4_napkinAt Mx number)))) (63) (by omega) (LN_i (LN_add (LN_add jL (32) (by omega)) (fX8_letterIn_b (fX6_foldOf (fX3_add Mx (32)) (fX4_napkinAt Mx number))) (by omega))) (fX3_add (fX3_add (fX3_add Mx (32)) (fX8_letterIn_b (fX6_foldOf (fX3_add Mx (32)) (fX4_napkinAt Mx number)))) (63)) rfl) (cwV 1 hts gX8_tell_X3_add rfl rfl rfl (by decide +kernel) ⟨(Nat.le_of_ble_eq_true rfl), (Nat.le_of_ble_eq_true rfl)⟩) hK hP hD hS rfl rfl VC_15 rfl hl.1 rfl (Nat.le_of_ble_eq_true rfl) dX8_tell_117 ⟨(Nat.le_of_ble_eq_true rfl), (Nat.le_of_ble_eq_true rfl)⟩ (fun H locs hP hD hS => ?_)
                refine z_iinc hx hb dX8_tell_120 hl (k := 4) rfl (Nat.le_of_ble_eq_true rfl) (lv' := [(3, .int (iI (number + 1))), (4, .int (iI (fX4_napkinAt Mx number))), (0, .ref (E 0)), (1, .int (iI table)), (2, .ref (E 4))]) rfl (fun ls hl => ?_)
                refine lv_goto hx hb dX8_tell_123 (tgt := 20) rfl ?_
                exact ih1 (fX3_add (fX3_add (fX3_add Mx (32)) (fX8_letterIn_b (fX6_foldOf (fX3_add Mx (32)) (fX4_napkinAt Mx number)))) (63)) (number + 1) ls _ _ (lv_sub hl [2, 3, 4, 0] rfl) hP hD hS (by omega) (by first | omega | (rw [size_of7 (M := Mx) (by simp only [fr_fX3_add, fr_fX3_addDigit, show Nat.beq 7 12 = false from rfl, show Nat.beq 7 13 = false from rfl])]; omega)) (CI_of0 (fr_fX3_add (63) rfl rfl) (CI_of0 (fr_fX3_add (fX8_letterIn_b (fX6_foldOf (fX3_add Mx (32)) (fX4_napkinAt Mx number))) rfl rfl) (CI_of0 (fr_fX3_add (32) rfl rfl) jC))) (SI_of (fr_fX3_add (63) rfl rfl) (fr_fX3_add (63) rfl rfl) (fr_fX3_add (63) rfl rfl) (fr_fX3_add (63) rfl rfl) (fr_fX3_add (63) rfl rfl) (SI_of (fr_fX3_add (fX8_letterIn_b (fX6_foldOf (fX3_add Mx (32)) (fX4_napkinAt Mx number))) rfl rfl) (fr_fX3_add (fX8_letterIn_b (fX6_foldOf (fX3_add Mx (32)) (fX4_napkinAt Mx number))) rfl rfl) (fr_fX3_add (fX8_letterIn_b (fX6_foldOf (fX3_add Mx (32)) (fX4_napkinAt Mx number))) rfl rfl) (fr_fX3_add (fX8_letterIn_b (fX6_foldOf (fX3_add Mx (32)) (fX4_napkinAt Mx number))) rfl rfl) (fr_fX3_add (fX8_letterIn_b (fX6_foldOf (fX3_add Mx (32)) (fX4_napkinAt Mx number))) rfl rfl) (SI_of (fr_fX3_add (32) rfl rfl) (fr_fX3_add (32) rfl rfl) (fr_fX3_add (32) rfl rfl) (fr_fX3_add (32) rfl rfl) (fr_fX3_add (32) rfl rfl) jQ))) (LN_add (LN_add (LN_add jL (32) (by omega)) (fX8_letterIn_b (fX6_foldOf (fX3_add Mx (32)) (fX4_napkinAt Mx number))) (by omega)) (63) (by omega)) hE
            · rw [if_neg b19] at hE
              refine lv_aload_n hx hb dX8_tell_83 rfl (lv_at hl 1 rfl) ?_
              refine va_get (own := RX8) (ref := "NapkinSyntax") (C := RX8) (T := TX8) (N := 12) hx hb hts hinX8 hown hK hP 0 VC_0 rfl 5 (Nat.le_of_ble_eq_true rfl) (hts (.fieldLink RX8 45 "NapkinSyntax" "line" "LNapkinSyntax$Line;") (by decide +kernel)) (fun _ h => h) (v := .ref (E 15)) rfl dX8_tell_84 ?_
              refine lv_aload_n hx hb dX8_tell_87 rfl (lv_at hl 1 rfl) ?_
              refine va_get (own := RX8) (ref := "NapkinSyntax") (C := RX8) (T := TX8) (N := 12) hx hb hts hinX8 hown hK hP 0 VC_0 rfl 1 (Nat.le_of_ble_eq_true rfl) (hts (.fieldLink RX8 20 "NapkinSyntax" "now" "LNapkinSyntax$State;") (by decide +kernel)) (fun _ h => h) (v := .ref (E 2)) rfl dX8_tell_88 ?_
              refine lv_iload hx hb dX8_tell_91 (lv_at hl 0 rfl) ?_
              refine ct_Vi (VC_fix E cI cC) (ZC_ok E cI cC T) (ZC_bl E cI cC T) hZ S0 (kX6_colourOf l D E cI cC (ZC E cI cC T) (ZC_ok E cI cC T) (ZC_bl E cI cC T) (fX3_add (fX3_add Mx (32)) (fX8_letterIn_b (fX6_foldOf (fX3_add Mx (32)) (fX4_napkinAt Mx number)))) (fX4_napkinAt Mx number) (by omega) (fX6_colourOf (fX3_add (fX3_add Mx (32)) (fX8_letterIn_b (fX6_foldOf (fX3_add Mx (32)) (fX4_napkinAt Mx number)))) (fX4_napkinAt Mx number)) rfl) (cwV 1 hts gX8_tell_X6_colourOf rfl rfl rfl (by decide +kernel) ⟨(Nat.le_of_ble_eq_true rfl), (Nat.le_of_ble_eq_true rfl)⟩) hK hP hD hS rfl rfl VC_2 rfl hl.1 rfl (Nat.le_of_ble_eq_true rfl) dX8_tell_93 ⟨(Nat.le_of_ble_eq_true rfl), (Nat.le_of_ble_eq_true rfl)⟩ (fun H locs hP hD hS => ?_)
              have q22 := rg_X6_colourOf (CI_of0 (fr_fX3_add (fX8_letterIn_b (fX6_foldOf (fX3_add Mx (32)) (fX4_napkinAt Mx number))) rfl rfl) (CI_of0 (fr_fX3_add (32) rfl rfl) jC)) (fX4_napkinAt Mx number)
              refine ct_Vv (VC_fix E cI cC) (ZC_ok E cI cC T) (ZC_bl E cI cC T) hZ S0 (kX3_addDigit l D E cI cC (ZC E cI cC T) (ZC_ok E cI cC T) (ZC_bl E cI cC T) (fX3_add (fX3_add Mx (32)) (fX8_letterIn_b (fX6_foldOf (fX3_add Mx (32)) (fX4_napkinAt Mx number)))) (fX6_colourOf (fX3_add (fX3_add Mx (32)) (fX8_letterIn_b (fX6_foldOf (fX3_add Mx (32)) (fX4_napkinAt Mx number)))) (fX4_napkinAt Mx number)) (by omega) (LN_i (LN_add (LN_add jL (32) (by omega)) (fX8_letterIn_b (fX6_foldOf (fX3_add Mx (32)) (fX4_napkinAt Mx number))) (by omega))) (fX3_addDigit (fX3_add (fX3_add Mx (32)) (fX8_letterIn_b (fX6_foldOf (fX3_add Mx (32)) (fX4_napkinAt Mx number)))) (fX6_colourOf (fX3_add (fX3_add Mx (32)) (fX8_letterIn_b (fX6_foldOf (fX3_add Mx (32)) (fX4_napkinAt Mx number)))) (fX4_napkinAt Mx number))) rfl) (cwV 1 hts gX8_tell_X3_addDigit rfl rfl rfl (by decide +kernel) ⟨(Nat.le_of_ble_eq_true rfl), (Nat.le_of_ble_eq_true rfl)⟩) hK hP hD hS rfl rfl VC_15 rfl hl.1 rfl (Nat.le_of_ble_eq_true rfl) dX8_tell_96 ⟨(Nat.le_of_ble_eq_true rfl), (Nat.le_of_ble_eq_true rfl)⟩ (fun H locs hP hD hS => ?_)
              refine lv_aload_n hx hb dX8_tell_99 rfl (lv_at hl 1 rfl) ?_
              refine va_get (own := RX8) (ref := "NapkinSyntax") (C := RX8) (T := TX8) (N := 12) hx hb hts hinX8 hown hK hP 0 VC_0 rfl 1 (Nat.le_of_ble_eq_true rfl) (hts (.fieldLink RX8 20 "NapkinSyntax" "now" "LNapkinSyntax$State;") (by decide +kernel)) (fun _ h => h) (v := .ref (E 2)) rfl dX8_tell_100 ?_
              refine lv_iload hx hb dX8_tell_103 (lv_at hl 0 rfl) ?_
              refine ct_Vi (VC_fix E cI cC) (ZC_ok E cI cC T) (ZC_bl E cI cC T) hZ S0 (kX6_stainsOf l D E cI cC (ZC E cI cC T) (ZC_ok E cI cC T) (ZC_bl E cI cC T) (fX3_addDigit (fX3_add (fX3_add Mx (32)) (fX8_letterIn_b (fX6_foldOf (fX3_add Mx (32)) (fX4_napkinAt Mx number)))) (fX6_colourOf (fX3_add (fX3_add Mx (32)) (fX8_letterIn_b (fX6_foldOf (fX3_add Mx (32)) (fX4_napkinAt Mx number)))) (fX4_napkinAt Mx number))) (fX4_napkinAt Mx number) (by omega) (fX6_stainsOf (fX3_addDigit (fX3_add (fX3_add Mx (32)) (fX8_letterIn_b (fX6_foldOf (fX3_add Mx (32)) (fX4_napkinAt Mx number)))) (fX6_colourOf (fX3_add (fX3_add Mx (32)) (fX8_letterIn_b (fX6_foldOf (fX3_add Mx (32)) (fX4_napkinAt Mx number)))) (fX4_napkinAt Mx number))) (fX4_napkinAt Mx number)) rfl) (cwV 1 hts gX8_tell_X6_stainsOf rfl rfl rfl (by decide +kernel) ⟨(Nat.le_of_ble_eq_true rfl), (Nat.le_of_ble_eq_true rfl)⟩) hK hP hD hS rfl rfl VC_2 rfl hl.1 rfl (Nat.le_of_ble_eq_true rfl) dX8_tell_105 ⟨(Nat.le_of_ble_eq_true rfl), (Nat.le_of_ble_eq_true rfl)⟩ (fun H locs hP hD hS => ?_)
              have q23 := rg_X6_stainsOf (CI_of0 (fr_fX3_addDigit (fX6_colourOf (fX3_add (fX3_add Mx (32)) (fX8_letterIn_b (fX6_foldOf (fX3_add Mx (32)) (fX4_napkinAt Mx number)))) (fX4_napkinAt Mx number)) rfl rfl) (CI_of0 (fr_fX3_add (fX8_letterIn_b (fX6_foldOf (fX3_add Mx (32)) (fX4_napkinAt Mx number))) rfl rfl) (CI_of0 (fr_fX3_add (32) rfl rfl) jC))) (fX4_napkinAt Mx number)
              refine z_if_le hx hb dX8_tell_108 (tgt := 120) rfl (by omega) (fun b24 => ?_) (fun b24 => ?_)
              · rw [if_pos b24] at hE
                refine z_iinc hx hb dX8_tell_120 hl (k := 4) rfl (Nat.le_of_ble_eq_true rfl) (lv' := [(3, .int (iI (number + 1))), (4, .int (iI (fX4_napkinAt Mx number))), (0, .ref (E 0)), (1, .int (iI table)), (2, .ref (E 4))]) rfl (fun ls hl => ?_)
                refine lv_goto hx hb dX8_tell_123 (tgt := 20) rfl ?_
                exact ih1 (fX3_addDigit (fX3_add (fX3_add Mx (32)) (fX8_letterIn_b (fX6_foldOf (fX3_add Mx (32)) (fX4_napkinAt Mx number)))) (fX6_colourOf (fX3_add (fX3_add Mx (32)) (fX8_letterIn_b (fX6_foldOf (fX3_add Mx (32)) (fX4_napkinAt Mx number)))) (fX4_napkinAt Mx number))) (number + 1) ls _ _ (lv_sub hl [2, 3, 4, 0] rfl) hP hD hS (by omega) (by first | omega | (rw [size_of7 (M := Mx) (by simp only [fr_fX3_add, fr_fX3_addDigit, show Nat.beq 7 12 = false from rfl, show Nat.beq 7 13 = false from rfl])]; omega)) (CI_of0 (fr_fX3_addDigit (fX6_colourOf (fX3_add (fX3_add Mx (32)) (fX8_letterIn_b (fX6_foldOf (fX3_add Mx (32)) (fX4_napkinAt Mx number)))) (fX4_napkinAt Mx number)) rfl rfl) (CI_of0 (fr_fX3_add (fX8_letterIn_b (fX6_foldOf (fX3_add Mx (32)) (fX4_napkinAt Mx number))) rfl rfl) (CI_of0 (fr_fX3_add (32) rfl rfl) jC))) (SI_of (fr_fX3_addDigit (fX6_colourOf (fX3_add (fX3_add Mx (32)) (fX8_letterIn_b (fX6_foldOf (fX3_add Mx (32)) (fX4_napkinAt Mx number)))) (fX4_napkinAt Mx number)) rfl rfl) (fr_fX3_addDigit (fX6_colourOf (fX3_add (fX3_add Mx (32)) (fX8_letterIn_b (fX6_foldOf (fX3_add Mx (32)) (fX4_napkinAt Mx number)))) (fX4_napkinAt Mx number)) rfl rfl) (fr_fX3_addDigit (fX6_colourOf (fX3_add (fX3_add Mx (32)) (fX8_letterIn_b (fX6_foldOf (fX3_add Mx (32)) (fX4_napkinAt Mx number)))) (fX4_napkinAt Mx number)) rfl rfl) (fr_fX3_addDigit (fX6_colourOf (fX3_add (fX3_add Mx (32)) (fX8_letterIn_b (fX6_foldOf (fX3_add Mx (32)) (fX4_napkinAt Mx number)))) (fX4_napkinAt Mx number)) rfl rfl) (fr_fX3_addDigit (fX6_colourOf (fX3_add (fX3_add Mx (32)) (fX8_letterIn_b (fX6_foldOf (fX3_add Mx (32)) (fX4_napkinAt Mx number)))) (fX4_napkinAt Mx number)) rfl rfl) (SI_of (fr_fX3_add (fX8_letterIn_b (fX6_foldOf (fX3_add Mx (32)) (fX4_napkinAt Mx number))) rfl rfl) (fr_fX3_add (fX8_letterIn_b (fX6_foldOf (fX3_add Mx (32)) (fX4_napkinAt Mx number))) rfl rfl) (fr_fX3_add (fX8_letterIn_b (fX6_foldOf (fX3_add Mx (32)) (fX4_napkinAt Mx number))) rfl rfl) (fr_fX3_add (fX8_letterIn_b (fX6_foldOf (fX3_add Mx (32)) (fX4_napkinAt Mx number))) rfl rfl) (fr_fX3_add (fX8_letterIn_b (fX6_foldOf (fX3_add Mx (32)) (fX4_napkinAt Mx number))) rfl rfl) (SI_of (fr_fX3_add (32) rfl rfl) (fr_fX3_add (32) rfl rfl) (fr_fX3_add (32) rfl rfl) (fr_fX3_add (32) rfl rfl) (fr_fX3_add (32) rfl rfl) jQ))) (LN_addDigit (LN_add (LN_add jL (32) (by omega)) (fX8_letterIn_b (fX6_foldOf (fX3_add Mx (32)) (fX4_napkinAt Mx number))) (by omega)) (fX6_colourOf (fX3_add (fX3_add Mx (32)) (fX8_letterIn_b (fX6_foldOf (fX3_add Mx (32)) (fX4_napkinAt Mx number)))) (fX4_napkinAt Mx number)) (by omega)) hE
              · rw [if_neg b24] at hE
                refine lv_aload_n hx hb dX8_tell_111 rfl (lv_at hl 1 rfl) ?_
                refine va_get (own := RX8) (ref := "NapkinSyntax") (C := RX8) (T := TX8) (N := 12) hx hb hts hinX8 hown hK hP 0 VC_0 rfl 5 (Nat.le_of_ble_eq_true rfl) (hts (.fieldLink RX8 45 "NapkinSyntax" "line" "LNapkinSyntax$Line;") (by decide +kernel)) (fun _ h => h) (v := .ref (E 15)) rfl dX8_tell_112 ?_
                refine z_bipush hx hb dX8_tell_115 (by decide +kernel) ?_
                refine ct_Vv (VC_fix E cI cC) (ZC_ok E cI cC T) (ZC_bl E cI cC T) hZ S0 (kX3_add l D E cI cC (ZC E cI cC T) (ZC_ok E cI cC T) (ZC_bl E cI cC T) (fX3_addDigit (fX3_add (fX3_add Mx (32)) (fX8_letterIn_b (fX6_foldOf (fX3_add Mx (32)) (fX4_napkinAt Mx number)))) (fX6_colourOf (fX3_add (fX3_add Mx (32)) (fX8_letterIn_b (fX6_foldOf (fX3_add Mx (32)) (fX4_napkinAt Mx number)))) (fX4_napkinAt Mx number))) (63) (by omega) (LN_i (LN_addDigit (LN_add (LN_add jL (32) (by omega)) (fX8_letterIn_b (fX6_foldOf (fX3_add Mx (32)) (fX4_napkinAt Mx number))) (by omega)) (fX6_colourOf (fX3_add (fX3_add Mx (32)) (fX8_letterIn_b (fX6_foldOf (fX3_add Mx (32)) (fX4_napkinAt Mx number)))) (fX4_napkinAt Mx number)) (by omega))) (fX3_add (fX3_addDigit (fX3_add (fX3_add Mx (32)) (fX8_letterIn_b (fX6_foldOf (fX3_add Mx (32)) (fX4_napkinAt Mx number)))) (fX6_colourOf (fX3_add (fX3_add Mx (32)) (fX8_letterIn_b (fX6_foldOf (fX3_add Mx (32)) (fX4_napkinAt Mx number)))) (fX4_napkinAt Mx number))) (63)) rfl) (cwV 1 hts gX8_tell_X3_add rfl rfl rfl (by decide +kernel) ⟨(Nat.le_of_ble_eq_true rfl), (Nat.le_of_ble_eq_true rfl)⟩) hK hP hD hS rfl rfl VC_15 rfl hl.1 rfl (Nat.le_of_ble_eq_true rfl) dX8_tell_117 ⟨(Nat.le_of_ble_eq_true rfl), (Nat.le_of_ble_eq_true rfl)⟩ (fun H locs hP hD hS => ?_)
                refine z_iinc hx hb dX8_tell_120 hl (k := 4) rfl (Nat.le_of_ble_eq_true rfl) (lv' := [(3, .int (iI (number + 1))), (4, .int (iI (fX4_napkinAt Mx number))), (0, .ref (E 0)), (1, .int (iI table)), (2, .ref (E 4))]) rfl (fun ls hl => ?_)
                refine lv_goto hx hb dX8_tell_123 (tgt := 20) rfl ?_
                exact ih1 (fX3_add (fX3_addDigit (fX3_add (fX3_add Mx (32)) (fX8_letterIn_b (fX6_foldOf (fX3_add Mx (32)) (fX4_napkinAt Mx number)))) (fX6_colourOf (fX3_add (fX3_add Mx (32)) (fX8_letterIn_b (fX6_foldOf (fX3_add Mx (32)) (fX4_napkinAt Mx number)))) (fX4_napkinAt Mx number))) (63)) (number + 1) ls _ _ (lv_sub hl [2, 3, 4, 0] rfl) hP hD hS (by omega) (by first | omega | (rw [size_of7 (M := Mx) (by simp only [fr_fX3_add, fr_fX3_addDigit, show Nat.beq 7 12 = false from rfl, show Nat.beq 7 13 = false from rfl])]; omega)) (CI_of0 (fr_fX3_add (63) rfl rfl) (CI_of0 (fr_fX3_addDigit (fX6_colourOf (fX3_add (fX3_add Mx (32)) (fX8_letterIn_b (fX6_foldOf (fX3_add Mx (32)) (fX4_napkinAt Mx number)))) (fX4_napkinAt Mx number)) rfl rfl) (CI_of0 (fr_fX3_add (fX8_letterIn_b (fX6_foldOf (fX3_add Mx (32)) (fX4_napkinAt Mx number))) rfl rfl) (CI_of0 (fr_fX3_add (32) rfl rfl) jC)))) (SI_of (fr_fX3_add (63) rfl rfl) (fr_fX3_add (63) rfl rfl) (fr_fX3_add (63) rfl rfl) (fr_fX3_add (63) rfl rfl) (fr_fX3_add (63) rfl rfl) (SI_of (fr_fX3_addDigit (fX6_colourOf (fX3_add (fX3_add Mx (32)) (fX8_letterIn_b (fX6_foldOf (fX3_add Mx (32)) (fX4_napkinAt Mx number)))) (fX4_napkinAt Mx number)) rfl rfl) (fr_fX3_addDigit (fX6_colourOf (fX3_add (fX3_add Mx (32)) (fX8_letterIn_b (fX6_foldOf (fX3_add Mx (32)) (fX4_napkinAt Mx number)))) (fX4_napkinAt Mx number)) rfl rfl) (fr_fX3_addDigit (fX6_colourOf (fX3_add (fX3_add Mx (32)) (fX8_letterIn_b (fX6_foldOf (fX3_add Mx (32)) (fX4_napkinAt Mx number)))) (fX4_napkinAt Mx number)) rfl rfl) (fr_fX3_addDigit (fX6_colourOf (fX3_add (fX3_add Mx (32)) (fX8_letterIn_b (fX6_foldOf (fX3_add Mx (32)) (fX4_napkinAt Mx number)))) (fX4_napkinAt Mx number)) rfl rfl) (fr_fX3_addDigit (fX6_colourOf (fX3_add (fX3_add Mx (32)) (fX8_letterIn_b (fX6_foldOf (fX3_add Mx (32)) (fX4_napkinAt Mx number)))) (fX4_napkinAt Mx number)) rfl rfl) (SI_of (fr_fX3_add (fX8_letterIn_b (fX6_foldOf (fX3_add Mx (32)) (fX4_napkinAt Mx number))) rfl rfl) (fr_fX3_add (fX8_letterIn_b (fX6_foldOf (fX3_add Mx (32)) (fX4_napkinAt Mx number))) rfl rfl) (fr_fX3_add (fX8_letterIn_b (fX6_foldOf (fX3_add Mx (32)) (fX4_napkinAt Mx number))) rfl rfl) (fr_fX3_add (fX8_letterIn_b (fX6_foldOf (fX3_add Mx (32)) (fX4_napkinAt Mx number))) rfl rfl) (fr_fX3_add (fX8_letterIn_b (fX6_foldOf (fX3_add Mx (32)) (fX4_napkinAt Mx number))) rfl rfl) (SI_of (fr_fX3_add (32) rfl rfl) (fr_fX3_add (32) rfl rfl) (fr_fX3_add (32) rfl rfl) (fr_fX3_add (32) rfl rfl) (fr_fX3_add (32) rfl rfl) jQ)))) (LN_add (LN_addDigit (LN_add (LN_add jL (32) (by omega)) (fX8_letterIn_b (fX6_foldOf (fX3_add Mx (32)) (fX4_napkinAt Mx number))) (by omega)) (fX6_colourOf (fX3_add (fX3_add Mx (32)) (fX8_letterIn_b (fX6_foldOf (fX3_add Mx (32)) (fX4_napkinAt Mx number)))) (fX4_napkinAt Mx number)) (by omega)) (63) (by omega)) hE
    exact L1 8 (fX8_heard (fX3_empty M) table) (0) ls _ _ (lv_sub hl [2, 3, 1, 0] rfl) hP hD hS (by omega) (by have := rg_X4_size (SI_heard (CI_of0 (fr_fX3_empty rfl) hC) (SI_of (fr_fX3_empty rfl) (fr_fX3_empty rfl) (fr_fX3_empty rfl) (fr_fX3_empty rfl) (fr_fX3_empty rfl) hQ) table); omega) (CI_of0 (fr_fX8_heard table rfl rfl rfl rfl rfl) (CI_of0 (fr_fX3_empty rfl) hC)) (SI_heard (CI_of0 (fr_fX3_empty rfl) hC) (SI_of (fr_fX3_empty rfl) (fr_fX3_empty rfl) (fr_fX3_empty rfl) (fr_fX3_empty rfl) (fr_fX3_empty rfl) hQ) table) (LN_of (fr_fX8_heard table rfl rfl rfl rfl rfl) (fr_fX8_heard table rfl rfl rfl rfl rfl) (LN_empty hL)) hE

theorem fr_fX8_tell_L1 (M : Mem) (table : Int) {r : Nat} (h1 : Nat.beq r 1 = false) (h2 : Nat.beq r 2 = false) (h3 : Nat.beq r 3 = false) (h4 : Nat.beq r 4 = false) (h7 : Nat.beq r 7 = false) (h12 : Nat.beq r 12 = false) (h13 : Nat.beq r 13 = false) : ∀ (k : Nat) (Mx : Mem) (number : Int), (fX8_tell_L1 M table k Mx number).2.2 r = Mx r := by
  intro k
  induction k with
  | zero => intros; rfl
  | succ k ih =>
    intro Mx number
    rw [fX8_tell_L1]
    (repeat' with_reducible refine frite_x (fun _ => ?_) (fun _ => ?_)) <;> first | with_reducible rfl | simp only [ih, mst_o, msf_o, mcp_o, fr_fX3_add, fr_fX3_addDigit, fr_fX3_empty, fr_fX8_heard, h1, h2, h3, h4, h7, h12, h13]
theorem fr_fX8_tell {M : Mem} (table : Int) {r : Nat} (h1 : Nat.beq r 1 = false) (h2 : Nat.beq r 2 = false) (h3 : Nat.beq r 3 = false) (h4 : Nat.beq r 4 = false) (h7 : Nat.beq r 7 = false) (h12 : Nat.beq r 12 = false) (h13 : Nat.beq r 13 = false) : (fX8_tell M table).2.2 r = M r := by
  unfold fX8_tell
  (repeat' with_reducible refine frite_x (fun _ => ?_) (fun _ => ?_)) <;> first | with_reducible rfl | simp only [mst_o, msf_o, mcp_o, fr_fX3_add, fr_fX3_addDigit, fr_fX3_empty, fr_fX8_heard, h1, h2, h3, h4, h7, h12, h13, fr_fX8_tell_L1]


theorem rg_X5_judgeNew (M : Mem) (a : Int) : -2 ≤ fX5_judgeNew M a ∧ fX5_judgeNew M a ≤ 200 := by unfold fX5_judgeNew fX8_refusedFor; (repeat' split) <;> omega
theorem rg_X5_judgeFold {M : Mem} (hC : CI M) (a b : Int) : -2 ≤ fX5_judgeFold M a b ∧ fX5_judgeFold M a b ≤ 200 := by
  have := rg_X6_creasesOf hC a
  unfold fX5_judgeFold fX8_refusedFor; (repeat' split) <;> omega
theorem rg_X5_judgeOpen (M : Mem) (a : Int) : -2 ≤ fX5_judgeOpen M a ∧ fX5_judgeOpen M a ≤ 200 := by unfold fX5_judgeOpen fX8_refusedFor; (repeat' split) <;> omega
theorem dX6_hasNapkin {M : Mem} (hC : CI M) (n : Int) : fX6_hasNapkin M n = 0 ∨ (0 ≤ n ∧ n < M 0 77 ∧ n < 10) := by
  by_cases h : fX6_hasNapkin M n = 0
  · exact Or.inl h
  · have := tX6_hasNapkin h
    have := CI_77 hC
    right; omega
theorem dX6_hasPlace {M : Mem} (hC : CI M) (t n : Int) : fX6_hasPlace M t n = 0 ∨ (0 ≤ n ∧ n < fX6_laidOn M t ∧ n < 6) := by
  have := rg_X6_laidOn hC t
  by_cases h : fX6_hasPlace M t n = 0
  · exact Or.inl h
  · right
    unfold fX6_hasPlace at h
    (repeat' split at h) <;> omega
theorem rg_X5_judgeLay {M : Mem} (hC : CI M) (a b : Int) : -2 ≤ fX5_judgeLay M a b ∧ fX5_judgeLay M a b ≤ 200 := by
  have := rg_X6_tableUnder M a
  unfold fX5_judgeLay fX8_refusedFor; (repeat' split) <;> omega
theorem rg_X5_judgeTake {M : Mem} (hC : CI M) (a : Int) : -2 ≤ fX5_judgeTake M a ∧ fX5_judgeTake M a ≤ 200 := by
  have := dX6_hasNapkin hC a
  unfold fX5_judgeTake fX8_refusedFor; (repeat' split) <;> omega
theorem rg_X5_judgeMove {M : Mem} (hC : CI M) (a b d : Int) : -2 ≤ fX5_judgeMove M a b d ∧ fX5_judgeMove M a b d ≤ 200 := by
  have := dX6_hasPlace hC a d
  unfold fX5_judgeMove fX8_refusedFor; (repeat' split) <;> omega
theorem rg_X5_judgeStain {M : Mem} (hC : CI M) (a b : Int) : -2 ≤ fX5_judgeStain M a b ∧ fX5_judgeStain M a b ≤ 200 := by
  have := rg_X6_stainsOf hC a
  unfold fX5_judgeStain fX8_refusedFor; (repeat' split) <;> omega
theorem rg_X5_judgeWash {M : Mem} (hC : CI M) (a : Int) : -2 ≤ fX5_judgeWash M a ∧ fX5_judgeWash M a ≤ 200 := by
  have := dX6_hasNapkin hC a
  have := rg_X6_tableUnder M a
  unfold fX5_judgeWash fX8_refusedFor; (repeat' split) <;> omega
theorem rg_X5_judgeRead {M : Mem} (hC : CI M) (a : Int) : -2 ≤ (fX5_judgeRead M a).1 ∧ (fX5_judgeRead M a).1 ≤ 200 := by
  have := rg_X6_laidOn (CI_hear hC a) a
  unfold fX5_judgeRead fX8_refusedFor
  split
  · exact ⟨(by decide : (-2 : Int) ≤ -1), (by decide : (-1 : Int) ≤ 200)⟩
  · split
    · exact ⟨(by omega : -2 ≤ 8 * 16 + fX6_laidOn (fX4_hear M a) a), (by omega : 8 * 16 + fX6_laidOn (fX4_hear M a) a ≤ 200)⟩
    · exact ⟨(by decide : (-2 : Int) ≤ 0), (by decide : (0 : Int) ≤ 200)⟩
theorem SI_judgeRead {M : Mem} (hC : CI M) (hQ : SI M) (a : Int) : SI (fX5_judgeRead M a).2 := by
  unfold fX5_judgeRead
  split
  · exact hQ
  · split
    · exact SI_hear hC hQ a
    · exact SI_hear hC hQ a
theorem rg_X5_judge {M : Mem} (hC : CI M) (co a b d : Int) : -2 ≤ (fX5_judge M co a b d).1 ∧ (fX5_judge M co a b d).1 ≤ 200 := by
  unfold fX5_judge
  split
  · exact rg_X5_judgeNew M a
  split
  · exact rg_X5_judgeFold hC a b
  split
  · exact rg_X5_judgeOpen M a
  split
  · exact rg_X5_judgeLay hC a b
  split
  · exact rg_X5_judgeTake hC a
  split
  · exact rg_X5_judgeMove hC a b d
  split
  · exact rg_X5_judgeStain hC a b
  split
  · exact rg_X5_judgeWash hC a
  · exact rg_X5_judgeRead hC a
theorem SI_judge {M : Mem} (hC : CI M) (hQ : SI M) (co a b d : Int) : SI (fX5_judge M co a b d).2 := by
  unfold fX5_judge
  split
  · exact hQ
  split
  · exact hQ
  split
  · exact hQ
  split
  · exact hQ
  split
  · exact hQ
  split
  · exact hQ
  split
  · exact hQ
  split
  · exact hQ
  · exact SI_judgeRead hC hQ a
theorem judge_move {M : Mem} (hC : CI M) {co a b d : Int} (h : (fX5_judge M co a b d).1 = 0) (hs : swm co = 6) : 0 ≤ b ∧ b ≤ 5 ∧ 0 ≤ d ∧ d ≤ 5 := by
  have e : fX5_judge M co a b d = (fX5_judgeMove M a b d, M) := by
    unfold fX5_judge
    rw [if_neg (by omega), if_neg (by omega), if_neg (by omega), if_neg (by omega), if_neg (by omega), if_pos hs]
  rw [e] at h
  have h1 : fX5_judgeMove M a b d = 0 := h
  have g1 := dX6_hasPlace hC a b
  have g2 := dX6_hasPlace hC a d
  unfold fX5_judgeMove fX8_refusedFor at h1
  (repeat' split at h1) <;> omega

def fX8_change (M : Mem) (co first second third : Int) : Int × Int × Mem := if ((fX5_judge M co first second third).1 = (-1)) then ((1), (0), (fX5_judge M co first second third).2) else if ((fX5_judge M co first second third).1 = (-2)) then ((2), (0), (fX5_judge M co first second third).2) else if ((fX5_judge M co first second third).1 = 0) then ((0), (fX5_carryOut (fX2_push (fX6_copyTo_b (fX5_judge M co first second third).2)) co first second third).1, (fX5_carryOut (fX2_push (fX6_copyTo_b (fX5_judge M co first second third).2)) co first second third).2) else ((3), (0), (fX8_refuse (fX5_judge M co first second third).2 (fX5_judge M co first second third).1 (0)))
set_option maxRecDepth 100000 in
set_option maxHeartbeats 4000000 in
theorem kX8_change (l : Launch) (hst : l.stackTraces = false) (D : va_G) (E : Nat → Nat) (cI cC : ClassId) (T : Nat → Nat) (M : Mem) (co first second third : Int) (h0 : 0 ≤ co ∧ co < 9) (h1 : -2147483648 ≤ first ∧ first < 2147483648) (h2 : -2147483648 ≤ second ∧ second < 2147483648) (h3 : -2147483648 ≤ third ∧ third < 2147483648) (hC : CI M) (hQ : SI M) (hH : HN M) (kx r : Int) (M' : Mem) (hE : fX8_change M co first second third = (kx, r, M')) : Cx l yX8_change wsX8_change 6 117 1 [.ref (E 0), .ref (T (co).toNat), .int (iI first), .int (iI second), .int (iI third)] D (TY cI cC) (VC E cI cC) (ZC E cI cC T) M kx (some (.int (iI r))) M' := by
  refine Cx.of (cc := cX8_change) (maxL := 6) (ret := (some .int)) (by decide +kernel) rfl (Nat.le_of_ble_eq_true rfl) ?_
  intro p e s m args below meth c ls hx hb hml hr hown hts hlocks hP hK hD hZ hS hout hl
  have hl : lv_has ls 6 [(0, .ref (E 0)), (1, .ref (T (co).toNat)), (2, .int (iI first)), (3, .int (iI second)), (4, .int (iI third))] := hl
  have S0 : CallFix p m c cX8_change 6 s args wsX8_change RX8 := ⟨hx, hb, hml, hown, hts⟩
  have hinX8 : ∀ w ∈ u_ws RX8 TX8 12, w ∈ wsX8_change := by decide +kernel
  rw [fX8_change] at hE
  refine lv_aload_n hx hb dX8_change_0 rfl (lv_at hl 0 rfl) ?_
  refine va_get (own := RX8) (ref := "NapkinSyntax") (C := RX8) (T := TX8) (N := 12) hx hb hts hinX8 hown hK hP 0 VC_0 rfl 0 (Nat.le_of_ble_eq_true rfl) (hts (.fieldLink RX8 10 "NapkinSyntax" "service" "LNapkinSyntax$Service;") (by decide +kernel)) (fun _ h => h) (v := .ref (E 1)) rfl dX8_change_1 ?_
  refine lv_aload_n hx hb dX8_change_4 rfl (lv_at hl 1 rfl) ?_
  refine lv_iload_n hx hb dX8_change_5 rfl (lv_at hl 2 rfl) ?_
  refine lv_iload_n hx hb dX8_change_6 rfl (lv_at hl 3 rfl) ?_
  refine lv_iload hx hb dX8_change_7 (lv_at hl 4 rfl) ?_
  refine ct_Vi (VC_fix E cI cC) (ZC_ok E cI cC T) (ZC_bl E cI cC T) hZ S0 (kX5_judge l D E cI cC T M co first second third (by omega) (by omega) (by omega) (by omega) hC hQ (fX5_judge M co first second third).1 (fX5_judge M co first second third).2 (Prod.ext rfl rfl)) (cwV 4 hts gX8_change_X5_judge rfl rfl rfl (by decide +kernel) ⟨(Nat.le_of_ble_eq_true rfl), (Nat.le_of_ble_eq_true rfl)⟩) hK hP hD hS rfl rfl VC_1 rfl hl.1 rfl (Nat.le_of_ble_eq_true rfl) dX8_change_9 ⟨(Nat.le_of_ble_eq_true rfl), (Nat.le_of_ble_eq_true rfl)⟩ (fun H locs hP hD hS => ?_)
  have q1 := rg_X5_judge hC co first second third
  refine lv_istore hx hb dX8_change_12 hl (Nat.le_of_ble_eq_true rfl) (lv' := [(5, .int (iI (fX5_judge M co first second third).1)), (0, .ref (E 0)), (1, .ref (T (co).toNat)), (2, .int (iI first)), (3, .int (iI second)), (4, .int (iI third))]) rfl (fun ls hl => ?_)
  refine lv_iload hx hb dX8_change_14 (lv_at hl 0 rfl) ?_
  refine z_iconst hx hb dX8_change_16 ?_
  refine z_icmp_ne hx hb dX8_change_17 (tgt := 31) rfl (by omega) (by omega) (fun b2 => ?_) (fun b2 => ?_)
  · rw [if_neg b2] at hE
    refine lv_iload hx hb dX8_change_31 (lv_at hl 0 rfl) ?_
    refine z_bipush hx hb dX8_change_33 (by decide +kernel) ?_
    refine z_icmp_ne hx hb dX8_change_35 (tgt := 49) rfl (by omega) (by omega) (fun b3 => ?_) (fun b3 => ?_)
    · rw [if_neg b3] at hE
      refine lv_iload hx hb dX8_change_49 (lv_at hl 0 rfl) ?_
      refine z_if_eq hx hb dX8_change_51 (tgt := 72) rfl (by omega) (fun b4 => ?_) (fun b4 => ?_)
      · rw [if_pos b4] at hE
        refine lv_aload_n hx hb dX8_change_72 rfl (lv_at hl 1 rfl) ?_
        refine va_get (own := RX8) (ref := "NapkinSyntax") (C := RX8) (T := TX8) (N := 12) hx hb hts hinX8 hown hK hP 0 VC_0 rfl 1 (Nat.le_of_ble_eq_true rfl) (hts (.fieldLink RX8 20 "NapkinSyntax" "now" "LNapkinSyntax$State;") (by decide +kernel)) (fun _ h => h) (v := .ref (E 2)) rfl dX8_change_73 ?_
        refine lv_aload_n hx hb dX8_change_76 rfl (lv_at hl 1 rfl) ?_
        refine va_get (own := RX8) (ref := "NapkinSyntax") (C := RX8) (T := TX8) (N := 12) hx hb hts hinX8 hown hK hP 0 VC_0 rfl 6 (Nat.le_of_ble_eq_true rfl) (hts (.fieldLink RX8 51 "NapkinSyntax" "before" "[I") (by decide +kernel)) (fun _ h => h) (v := .ref (E 17)) rfl dX8_change_77 ?_
        refine ct_Vv (VC_fix E cI cC) (ZC_ok E cI cC T) (ZC_bl E cI cC T) hZ S0 (kX6_copyTo_b l D E cI cC (ZC E cI cC T) (ZC_ok E cI cC T) (ZC_bl E cI cC T) (fX5_judge M co first second third).2  (fX6_copyTo_b (fX5_judge M co first second third).2) rfl) (cwV 1 hts gX8_change_X6_copyTo rfl rfl rfl (by decide +kernel) ⟨(Nat.le_of_ble_eq_true rfl), (Nat.le_of_ble_eq_true rfl)⟩) hK hP hD hS rfl rfl VC_2 rfl hl.1 rfl (Nat.le_of_ble_eq_true rfl) dX8_change_80 ⟨(Nat.le_of_ble_eq_true rfl), (Nat.le_of_ble_eq_true rfl)⟩ (fun H locs hP hD hS => ?_)
        refine lv_aload_n hx hb dX8_change_83 rfl (lv_at hl 1 rfl) ?_
        refine va_get (own := RX8) (ref := "NapkinSyntax") (C := RX8) (T := TX8) (N := 12) hx hb hts hinX8 hown hK hP 0 VC_0 rfl 3 (Nat.le_of_ble_eq_true rfl) (hts (.fieldLink RX8 31 "NapkinSyntax" "history" "LNapkinSyntax$History;") (by decide +kernel)) (fun _ h => h) (v := .ref (E 11)) rfl dX8_change_84 ?_
        refine lv_aload_n hx hb dX8_change_87 rfl (lv_at hl 1 rfl) ?_
        refine va_get (own := RX8) (ref := "NapkinSyntax") (C := RX8) (T := TX8) (N := 12) hx hb hts hinX8 hown hK hP 0 VC_0 rfl 6 (Nat.le_of_ble_eq_true rfl) (hts (.fieldLink RX8 51 "NapkinSyntax" "before" "[I") (by decide +kernel)) (fun _ h => h) (v := .ref (E 17)) rfl dX8_change_88 ?_
        refine ct_Vv (VC_fix E cI cC) (ZC_ok E cI cC T) (ZC_bl E cI cC T) hZ S0 (kX2_push l D E cI cC (ZC E cI cC T) (ZC_ok E cI cC T) (ZC_bl E cI cC T) (fX6_copyTo_b (fX5_judge M co first second third).2) (HN_of (fr_fX6_copyTo_b  rfl) (HN_of (fr_fX5_judge co first second third rfl rfl rfl rfl rfl) hH)) (fX2_push (fX6_copyTo_b (fX5_judge M co first second third).2)) rfl) (cwV 1 hts gX8_change_X2_push rfl rfl rfl (by decide +kernel) ⟨(Nat.le_of_ble_eq_true rfl), (Nat.le_of_ble_eq_true rfl)⟩) hK hP hD hS rfl rfl VC_11 rfl hl.1 rfl (Nat.le_of_ble_eq_true rfl) dX8_change_91 ⟨(Nat.le_of_ble_eq_true rfl), (Nat.le_of_ble_eq_true rfl)⟩ (fun H locs hP hD hS => ?_)
        refine lv_aload_n hx hb dX8_change_94 rfl (lv_at hl 1 rfl) ?_
        refine va_get (own := RX8) (ref := "NapkinSyntax") (C := RX8) (T := TX8) (N := 12) hx hb hts hinX8 hown hK hP 0 VC_0 rfl 0 (Nat.le_of_ble_eq_true rfl) (hts (.fieldLink RX8 10 "NapkinSyntax" "service" "LNapkinSyntax$Service;") (by decide +kernel)) (fun _ h => h) (v := .ref (E 1)) rfl dX8_change_95 ?_
        refine lv_aload_n hx hb dX8_change_98 rfl (lv_at hl 2 rfl) ?_
        refine lv_iload_n hx hb dX8_change_99 rfl (lv_at hl 3 rfl) ?_
        refine lv_iload_n hx hb dX8_change_100 rfl (lv_at hl 4 rfl) ?_
        refine lv_iload hx hb dX8_change_101 (lv_at hl 5 rfl) ?_
        refine ct_Vi (VC_fix E cI cC) (ZC_ok E cI cC T) (ZC_bl E cI cC T) hZ S0 (kX5_carryOut l D E cI cC T (fX2_push (fX6_copyTo_b (fX5_judge M co first second third).2)) co first second third (by omega) (by omega) (by omega) (by omega) (CI_of0 (fr_fX2_push  rfl rfl) (CI_of0 (fr_fX6_copyTo_b  rfl) (CI_of0 (fr_fX5_judge co first second third rfl rfl rfl rfl rfl) hC))) (SI_of (fr_fX2_push  rfl rfl) (fr_fX2_push  rfl rfl) (fr_fX2_push  rfl rfl) (fr_fX2_push  rfl rfl) (fr_fX2_push  rfl rfl) (SI_of (fr_fX6_copyTo_b  rfl) (fr_fX6_copyTo_b  rfl) (fr_fX6_copyTo_b  rfl) (fr_fX6_copyTo_b  rfl) (fr_fX6_copyTo_b  rfl) (SI_judge hC hQ co first second third))) (fun hs => judge_move hC (by assumption) hs) (fX5_carryOut (fX2_push (fX6_copyTo_b (fX5_judge M co first second third).2)) co first second third).1 (fX5_carryOut (fX2_push (fX6_copyTo_b (fX5_judge M co first second third).2)) co first second third).2 (Prod.ext rfl rfl)) (cwV 4 hts gX8_change_X5_carryOut rfl rfl rfl (by decide +kernel) ⟨(Nat.le_of_ble_eq_true rfl), (Nat.le_of_ble_eq_true rfl)⟩) hK hP hD hS rfl rfl VC_1 rfl hl.1 rfl (Nat.le_of_ble_eq_true rfl) dX8_change_103 ⟨(Nat.le_of_ble_eq_true rfl), (Nat.le_of_ble_eq_true rfl)⟩ (fun H locs hP hD hS => ?_)
        obtain ⟨e0, e9⟩ := Prod.mk.inj hE
        obtain ⟨e1, e2⟩ := Prod.mk.inj e9
        subst e2
        exact cx_i hx hb hr hlocks e0 e1 rfl hS hP (Nat.le_of_ble_eq_true rfl) (Nat.le_of_ble_eq_true rfl) dX8_change_106
      · rw [if_neg b4] at hE
        refine lv_aload_n hx hb dX8_change_54 rfl (lv_at hl 1 rfl) ?_
        refine lv_iload hx hb dX8_change_55 (lv_at hl 0 rfl) ?_
        refine z_iconst hx hb dX8_change_57 ?_
        refine ct_Vv (VC_fix E cI cC) (ZC_ok E cI cC T) (ZC_bl E cI cC T) hZ S0 (kX8_refuse l D E cI cC (ZC E cI cC T) (ZC_ok E cI cC T) (ZC_bl E cI cC T) (fX5_judge M co first second third).2 (fX5_judge M co first second third).1 (0)  (fX8_refuse (fX5_judge M co first second third).2 (fX5_judge M co first second third).1 (0)) rfl) (cwV 2 hts gX8_change_X8_refuse rfl rfl rfl (by decide +kernel) ⟨(Nat.le_of_ble_eq_true rfl), (Nat.le_of_ble_eq_true rfl)⟩) hK hP hD hS rfl rfl VC_0 rfl hl.1 rfl (Nat.le_of_ble_eq_true rfl) dX8_change_58 ⟨(Nat.le_of_ble_eq_true rfl), (Nat.le_of_ble_eq_true rfl)⟩ (fun H locs hP hD hS => ?_)
        obtain ⟨e0, e1⟩ := Prod.mk.inj hE
        obtain ⟨-, e2⟩ := Prod.mk.inj e1
        subst e2
        exact cx_throwW (k := 3) rfl hx hb hst hts hown (by decide +kernel) xn_fit (by decide +kernel) (by decide +kernel) (ZC_t396 hZ) (fun w h => List.mem_cons_of_mem _ (List.mem_append_left _ (List.mem_append_right _ h))) xb_3 xg_3 (ZC_d1 hZ) (ZC_d2 hZ) (ZC_d3 hZ) (ZC_x3 hZ) (ZC_us hZ M) (ZC_ss hZ M) hS hP (hl.1.trans hml.symm) dX8_change_61 dX8_change_64 dX8_change_65 dX8_change_68 dX8_change_71 hout (Nat.le_of_ble_eq_true rfl) (Nat.le_of_ble_eq_true rfl) (Nat.le_of_ble_eq_true rfl) (Nat.le_of_ble_eq_true rfl) hlocks (by decide) e0 (Nat.le_of_ble_eq_true rfl) (Nat.le_of_ble_eq_true rfl)
    · rw [if_pos b3] at hE
      obtain ⟨e0, e1⟩ := Prod.mk.inj hE
      obtain ⟨-, e2⟩ := Prod.mk.inj e1
      subst e2
      exact cx_throwW (k := 2) rfl hx hb hst hts hown (by decide +kernel) xn_fit (by decide +kernel) (by decide +kernel) (ZC_t394 hZ) (fun w h => List.mem_cons_of_mem _ (List.mem_append_left _ (List.mem_append_left _ (List.mem_append_right _ h)))) xb_2 xg_2 (ZC_d1 hZ) (ZC_d2 hZ) (ZC_d3 hZ) (ZC_x2 hZ) (ZC_us hZ M) (ZC_ss hZ M) hS hP (hl.1.trans hml.symm) dX8_change_38 dX8_change_41 dX8_change_42 dX8_change_45 dX8_change_48 hout (Nat.le_of_ble_eq_true rfl) (Nat.le_of_ble_eq_true rfl) (Nat.le_of_ble_eq_true rfl) (Nat.le_of_ble_eq_true rfl) hlocks (by decide) e0 (Nat.le_of_ble_eq_true rfl) (Nat.le_of_ble_eq_true rfl)
  · rw [if_pos b2] at hE
    obtain ⟨e0, e1⟩ := Prod.mk.inj hE
    obtain ⟨-, e2⟩ := Prod.mk.inj e1
    subst e2
    exact cx_throwW (k := 1) rfl hx hb hst hts hown (by decide +kernel) xn_fit (by decide +kernel) (by decide +kernel) (ZC_t392 hZ) (fun w h => List.mem_cons_of_mem _ (List.mem_append_left _ (List.mem_append_left _ (List.mem_append_left _ (List.mem_append_right _ h))))) xb_1 xg_1 (ZC_d1 hZ) (ZC_d2 hZ) (ZC_d3 hZ) (ZC_x1 hZ) (ZC_us hZ M) (ZC_ss hZ M) hS hP (hl.1.trans hml.symm) dX8_change_20 dX8_change_23 dX8_change_24 dX8_change_27 dX8_change_30 hout (Nat.le_of_ble_eq_true rfl) (Nat.le_of_ble_eq_true rfl) (Nat.le_of_ble_eq_true rfl) (Nat.le_of_ble_eq_true rfl) hlocks (by decide) e0 (Nat.le_of_ble_eq_true rfl) (Nat.le_of_ble_eq_true rfl)

theorem fr_fX8_change {M : Mem} (co first second third : Int) {r : Nat} (h0 : Nat.beq r 0 = false) (h1 : Nat.beq r 1 = false) (h2 : Nat.beq r 2 = false) (h3 : Nat.beq r 3 = false) (h4 : Nat.beq r 4 = false) (h7 : Nat.beq r 7 = false) (h8 : Nat.beq r 8 = false) (h9 : Nat.beq r 9 = false) (h14 : Nat.beq r 14 = false) (h18 : Nat.beq r 18 = false) (h19 : Nat.beq r 19 = false) : (fX8_change M co first second third).2.2 r = M r := by
  unfold fX8_change
  (repeat' with_reducible refine frite_x (fun _ => ?_) (fun _ => ?_)) <;> first | with_reducible rfl | simp only [mst_o, msf_o, mcp_o, fr_fX2_push, fr_fX5_carryOut, fr_fX5_judge, fr_fX6_copyTo_b, fr_fX8_refuse, h0, h1, h2, h3, h4, h7, h8, h9, h14, h18, h19]

def fX8_napkin (M : Mem) (colour : Int) : Int × Int × Mem := if (fX8_change M (0) colour (0) (0)).1 = 0 then ((0), (fX8_change M (0) colour (0) (0)).2.1, (fX8_change M (0) colour (0) (0)).2.2) else ((fX8_change M (0) colour (0) (0)).1, (0), (fX8_change M (0) colour (0) (0)).2.2)
set_option maxRecDepth 100000 in
set_option maxHeartbeats 4000000 in
theorem kX8_napkin (l : Launch) (hst : l.stackTraces = false) (D : va_G) (E : Nat → Nat) (cI cC : ClassId) (T : Nat → Nat) (M : Mem) (colour : Int) (h1 : -2147483648 ≤ colour ∧ colour < 2147483648) (hC : CI M) (hQ : SI M) (hH : HN M) (kx r : Int) (M' : Mem) (hE : fX8_napkin M colour = (kx, r, M')) : Cx l yX8_napkin wsX8_napkin 7 142 1 [.ref (E 0), .int (iI colour)] D (TY cI cC) (VC E cI cC) (ZC E cI cC T) M kx (some (.int (iI r))) M' := by
  refine Cx.of (cc := cX8_napkin) (maxL := 2) (ret := (some .int)) (by decide +kernel) rfl (Nat.le_of_ble_eq_true rfl) ?_
  intro p e s m args below meth c ls hx hb hml hr hown hts hlocks hP hK hD hZ hS hout hl
  have hl : lv_has ls 2 [(0, .ref (E 0)), (1, .int (iI colour))] := hl
  have S0 : CallFix p m c cX8_napkin 2 s args wsX8_napkin RX8 := ⟨hx, hb, hml, hown, hts⟩
  rw [fX8_napkin] at hE
  refine lv_aload_n hx hb dX8_napkin_0 rfl (lv_at hl 0 rfl) ?_
  refine va_gets hx hb (ZC_cm hZ M 0 (Nat.le_of_ble_eq_true rfl)) hS hown (hts (.fieldLink RX8 72 "NapkinSyntax$Command" "NEW" "LNapkinSyntax$Command;") (by decide +kernel)) (fun _ h => h) dX8_napkin_1 ?_
  refine lv_iload_n hx hb dX8_napkin_4 rfl (lv_at hl 1 rfl) ?_
  refine z_iconst hx hb dX8_napkin_5 ?_
  refine z_iconst hx hb dX8_napkin_6 ?_
  refine ct_Vxi (VC_fix E cI cC) (ZC_ok E cI cC T) (ZC_bl E cI cC T) hZ S0 (kX8_change l hst D E cI cC T M (0) colour (0) (0) (by omega) (by omega) (by omega) (by omega) hC hQ hH (fX8_change M (0) colour (0) (0)).1 (fX8_change M (0) colour (0) (0)).2.1 (fX8_change M (0) colour (0) (0)).2.2 rfl) (cwV 4 hts gX8_napkin_X8_change rfl rfl rfl (by decide +kernel) ⟨(Nat.le_of_ble_eq_true rfl), (Nat.le_of_ble_eq_true rfl)⟩) hK hP hD hS rfl rfl VC_0 rfl hl.1 rfl (Nat.le_of_ble_eq_true rfl) dX8_napkin_7 ⟨(Nat.le_of_ble_eq_true rfl), (Nat.le_of_ble_eq_true rfl)⟩ hout hlocks (Nat.le_of_ble_eq_true rfl) (Nat.le_of_ble_eq_true rfl) (fun b1 => ?_) (fun b1 H locs hP hD hS => ?_)
  · rw [if_neg b1] at hE
    obtain ⟨e0, e1⟩ := Prod.mk.inj hE
    exact ⟨e0, (Prod.mk.inj e1).2⟩
  · rw [if_pos b1] at hE
    obtain ⟨e0, e9⟩ := Prod.mk.inj hE
    obtain ⟨e1, e2⟩ := Prod.mk.inj e9
    subst e2
    exact cx_i hx hb hr hlocks e0 e1 rfl hS hP (Nat.le_of_ble_eq_true rfl) (Nat.le_of_ble_eq_true rfl) dX8_napkin_10

theorem fr_fX8_napkin {M : Mem} (colour : Int) {r : Nat} (h0 : Nat.beq r 0 = false) (h1 : Nat.beq r 1 = false) (h2 : Nat.beq r 2 = false) (h3 : Nat.beq r 3 = false) (h4 : Nat.beq r 4 = false) (h7 : Nat.beq r 7 = false) (h8 : Nat.beq r 8 = false) (h9 : Nat.beq r 9 = false) (h14 : Nat.beq r 14 = false) (h18 : Nat.beq r 18 = false) (h19 : Nat.beq r 19 = false) : (fX8_napkin M colour).2.2 r = M r := by
  unfold fX8_napkin
  (repeat' with_reducible refine frite_x (fun _ => ?_) (fun _ => ?_)) <;> first | with_reducible rfl | simp only [mst_o, msf_o, mcp_o, fr_fX8_change, h0, h1, h2, h3, h4, h7, h8, h9, h14, h18, h19]

def fX8_fold (M : Mem) (napkin fold : Int) : Int × Int × Mem := if (fX8_change M (1) napkin fold (0)).1 = 0 then ((0), (fX8_change M (1) napkin fold (0)).2.1, (fX8_change M (1) napkin fold (0)).2.2) else ((fX8_change M (1) napkin fold (0)).1, (0), (fX8_change M (1) napkin fold (0)).2.2)
set_option maxRecDepth 100000 in
set_option maxHeartbeats 4000000 in
theorem kX8_fold (l : Launch) (hst : l.stackTraces = false) (D : va_G) (E : Nat → Nat) (cI cC : ClassId) (T : Nat → Nat) (M : Mem) (napkin fold : Int) (h1 : -2147483648 ≤ napkin ∧ napkin < 2147483648) (h2 : -2147483648 ≤ fold ∧ fold < 2147483648) (hC : CI M) (hQ : SI M) (hH : HN M) (kx r : Int) (M' : Mem) (hE : fX8_fold M napkin fold = (kx, r, M')) : Cx l yX8_fold wsX8_fold 7 142 1 [.ref (E 0), .int (iI napkin), .int (iI fold)] D (TY cI cC) (VC E cI cC) (ZC E cI cC T) M kx (some (.int (iI r))) M' := by
  refine Cx.of (cc := cX8_fold) (maxL := 3) (ret := (some .int)) (by decide +kernel) rfl (Nat.le_of_ble_eq_true rfl) ?_
  intro p e s m args below meth c ls hx hb hml hr hown hts hlocks hP hK hD hZ hS hout hl
  have hl : lv_has ls 3 [(0, .ref (E 0)), (1, .int (iI napkin)), (2, .int (iI fold))] := hl
  have S0 : CallFix p m c cX8_fold 3 s args wsX8_fold RX8 := ⟨hx, hb, hml, hown, hts⟩
  rw [fX8_fold] at hE
  refine lv_aload_n hx hb dX8_fold_0 rfl (lv_at hl 0 rfl) ?_
  refine va_gets hx hb (ZC_cm hZ M 1 (Nat.le_of_ble_eq_true rfl)) hS hown (hts (.fieldLink RX8 82 "NapkinSyntax$Command" "FOLD" "LNapkinSyntax$Command;") (by decide +kernel)) (fun _ h => h) dX8_fold_1 ?_
  refine lv_iload_n hx hb dX8_fold_4 rfl (lv_at hl 1 rfl) ?_
  refine lv_iload_n hx hb dX8_fold_5 rfl (lv_at hl 2 rfl) ?_
  refine z_iconst hx hb dX8_fold_6 ?_
  refine ct_Vxi (VC_fix E cI cC) (ZC_ok E cI cC T) (ZC_bl E cI cC T) hZ S0 (kX8_change l hst D E cI cC T M (1) napkin fold (0) (by omega) (by omega) (by omega) (by omega) hC hQ hH (fX8_change M (1) napkin fold (0)).1 (fX8_change M (1) napkin fold (0)).2.1 (fX8_change M (1) napkin fold (0)).2.2 rfl) (cwV 4 hts gX8_fold_X8_change rfl rfl rfl (by decide +kernel) ⟨(Nat.le_of_ble_eq_true rfl), (Nat.le_of_ble_eq_true rfl)⟩) hK hP hD hS rfl rfl VC_0 rfl hl.1 rfl (Nat.le_of_ble_eq_true rfl) dX8_fold_7 ⟨(Nat.le_of_ble_eq_true rfl), (Nat.le_of_ble_eq_true rfl)⟩ hout hlocks (Nat.le_of_ble_eq_true rfl) (Nat.le_of_ble_eq_true rfl) (fun b1 => ?_) (fun b1 H locs hP hD hS => ?_)
  · rw [if_neg b1] at hE
    obtain ⟨e0, e1⟩ := Prod.mk.inj hE
    exact ⟨e0, (Prod.mk.inj e1).2⟩
  · rw [if_pos b1] at hE
    obtain ⟨e0, e9⟩ := Prod.mk.inj hE
    obtain ⟨e1, e2⟩ := Prod.mk.inj e9
    subst e2
    exact cx_i hx hb hr hlocks e0 e1 rfl hS hP (Nat.le_of_ble_eq_true rfl) (Nat.le_of_ble_eq_true rfl) dX8_fold_10

theorem fr_fX8_fold {M : Mem} (napkin fold : Int) {r : Nat} (h0 : Nat.beq r 0 = false) (h1 : Nat.beq r 1 = false) (h2 : Nat.beq r 2 = false) (h3 : Nat.beq r 3 = false) (h4 : Nat.beq r 4 = false) (h7 : Nat.beq r 7 = false) (h8 : Nat.beq r 8 = false) (h9 : Nat.beq r 9 = false) (h14 : Nat.beq r 14 = false) (h18 : Nat.beq r 18 = false) (h19 : Nat.beq r 19 = false) : (fX8_fold M napkin fold).2.2 r = M r := by
  unfold fX8_fold
  (repeat' with_reducible refine frite_x (fun _ => ?_) (fun _ => ?_)) <;> first | with_reducible rfl | simp only [mst_o, msf_o, mcp_o, fr_fX8_change, h0, h1, h2, h3, h4, h7, h8, h9, h14, h18, h19]

def fX8_unfold (M : Mem) (napkin : Int) : Int × Int × Mem := if (fX8_change M (2) napkin (0) (0)).1 = 0 then ((0), (fX8_change M (2) napkin (0) (0)).2.1, (fX8_change M (2) napkin (0) (0)).2.2) else ((fX8_change M (2) napkin (0) (0)).1, (0), (fX8_change M (2) napkin (0) (0)).2.2)
set_option maxRecDepth 100000 in
set_option maxHeartbeats 4000000 in
theorem kX8_unfold (l : Launch) (hst : l.stackTraces = false) (D : va_G) (E : Nat → Nat) (cI cC : ClassId) (T : Nat → Nat) (M : Mem) (napkin : Int) (h1 : -2147483648 ≤ napkin ∧ napkin < 2147483648) (hC : CI M) (hQ : SI M) (hH : HN M) (kx r : Int) (M' : Mem) (hE : fX8_unfold M napkin = (kx, r, M')) : Cx l yX8_unfold wsX8_unfold 7 142 1 [.ref (E 0), .int (iI napkin)] D (TY cI cC) (VC E cI cC) (ZC E cI cC T) M kx (some (.int (iI r))) M' := by
  refine Cx.of (cc := cX8_unfold) (maxL := 2) (ret := (some .int)) (by decide +kernel) rfl (Nat.le_of_ble_eq_true rfl) ?_
  intro p e s m args below meth c ls hx hb hml hr hown hts hlocks hP hK hD hZ hS hout hl
  have hl : lv_has ls 2 [(0, .ref (E 0)), (1, .int (iI napkin))] := hl
  have S0 : CallFix p m c cX8_unfold 2 s args wsX8_unfold RX8 := ⟨hx, hb, hml, hown, hts⟩
  rw [fX8_unfold] at hE
  refine lv_aload_n hx hb dX8_unfold_0 rfl (lv_at hl 0 rfl) ?_
  refine va_gets hx hb (ZC_cm hZ M 2 (Nat.le_of_ble_eq_true rfl)) hS hown (hts (.fieldLink RX8 85 "NapkinSyntax$Command" "OPEN" "LNapkinSyntax$Command;") (by decide +kernel)) (fun _ h => h) dX8_unfold_1 ?_
  refine lv_iload_n hx hb dX8_unfold_4 rfl (lv_at hl 1 rfl) ?_
  refine z_iconst hx hb dX8_unfold_5 ?_
  refine z_iconst hx hb dX8_unfold_6 ?_
  refine ct_Vxi (VC_fix E cI cC) (ZC_ok E cI cC T) (ZC_bl E cI cC T) hZ S0 (kX8_change l hst D E cI cC T M (2) napkin (0) (0) (by omega) (by omega) (by omega) (by omega) hC hQ hH (fX8_change M (2) napkin (0) (0)).1 (fX8_change M (2) napkin (0) (0)).2.1 (fX8_change M (2) napkin (0) (0)).2.2 rfl) (cwV 4 hts gX8_unfold_X8_change rfl rfl rfl (by decide +kernel) ⟨(Nat.le_of_ble_eq_true rfl), (Nat.le_of_ble_eq_true rfl)⟩) hK hP hD hS rfl rfl VC_0 rfl hl.1 rfl (Nat.le_of_ble_eq_true rfl) dX8_unfold_7 ⟨(Nat.le_of_ble_eq_true rfl), (Nat.le_of_ble_eq_true rfl)⟩ hout hlocks (Nat.le_of_ble_eq_true rfl) (Nat.le_of_ble_eq_true rfl) (fun b1 => ?_) (fun b1 H locs hP hD hS => ?_)
  · rw [if_neg b1] at hE
    obtain ⟨e0, e1⟩ := Prod.mk.inj hE
    exact ⟨e0, (Prod.mk.inj e1).2⟩
  · rw [if_pos b1] at hE
    obtain ⟨e0, e9⟩ := Prod.mk.inj hE
    obtain ⟨e1, e2⟩ := Prod.mk.inj e9
    subst e2
    exact cx_i hx hb hr hlocks e0 e1 rfl hS hP (Nat.le_of_ble_eq_true rfl) (Nat.le_of_ble_eq_true rfl) dX8_unfold_10

theorem fr_fX8_unfold {M : Mem} (napkin : Int) {r : Nat} (h0 : Nat.beq r 0 = false) (h1 : Nat.beq r 1 = false) (h2 : Nat.beq r 2 = false) (h3 : Nat.beq r 3 = false) (h4 : Nat.beq r 4 = false) (h7 : Nat.beq r 7 = false) (h8 : Nat.beq r 8 = false) (h9 : Nat.beq r 9 = false) (h14 : Nat.beq r 14 = false) (h18 : Nat.beq r 18 = false) (h19 : Nat.beq r 19 = false) : (fX8_unfold M napkin).2.2 r = M r := by
  unfold fX8_unfold
  (repeat' with_reducible refine frite_x (fun _ => ?_) (fun _ => ?_)) <;> first | with_reducible rfl | simp only [mst_o, msf_o, mcp_o, fr_fX8_change, h0, h1, h2, h3, h4, h7, h8, h9, h14, h18, h19]

def fX8_lay (M : Mem) (napkin table : Int) : Int × Int × Mem := if (fX8_change M (6) napkin table (0)).1 = 0 then ((0), (fX8_change M (6) napkin table (0)).2.1, (fX8_change M (6) napkin table (0)).2.2) else ((fX8_change M (6) napkin table (0)).1, (0), (fX8_change M (6) napkin table (0)).2.2)
set_option maxRecDepth 100000 in
set_option maxHeartbeats 4000000 in
theorem kX8_lay (l : Launch) (hst : l.stackTraces = false) (D : va_G) (E : Nat → Nat) (cI cC : ClassId) (T : Nat → Nat) (M : Mem) (napkin table : Int) (h1 : -2147483648 ≤ napkin ∧ napkin < 2147483648) (h2 : -2147483648 ≤ table ∧ table < 2147483648) (hC : CI M) (hQ : SI M) (hH : HN M) (kx r : Int) (M' : Mem) (hE : fX8_lay M napkin table = (kx, r, M')) : Cx l yX8_lay wsX8_lay 7 142 1 [.ref (E 0), .int (iI napkin), .int (iI table)] D (TY cI cC) (VC E cI cC) (ZC E cI cC T) M kx (some (.int (iI r))) M' := by
  refine Cx.of (cc := cX8_lay) (maxL := 3) (ret := (some .int)) (by decide +kernel) rfl (Nat.le_of_ble_eq_true rfl) ?_
  intro p e s m args below meth c ls hx hb hml hr hown hts hlocks hP hK hD hZ hS hout hl
  have hl : lv_has ls 3 [(0, .ref (E 0)), (1, .int (iI napkin)), (2, .int (iI table))] := hl
  have S0 : CallFix p m c cX8_lay 3 s args wsX8_lay RX8 := ⟨hx, hb, hml, hown, hts⟩
  rw [fX8_lay] at hE
  refine lv_aload_n hx hb dX8_lay_0 rfl (lv_at hl 0 rfl) ?_
  refine va_gets hx hb (ZC_cm hZ M 6 (Nat.le_of_ble_eq_true rfl)) hS hown (hts (.fieldLink RX8 88 "NapkinSyntax$Command" "LAY" "LNapkinSyntax$Command;") (by decide +kernel)) (fun _ h => h) dX8_lay_1 ?_
  refine lv_iload_n hx hb dX8_lay_4 rfl (lv_at hl 1 rfl) ?_
  refine lv_iload_n hx hb dX8_lay_5 rfl (lv_at hl 2 rfl) ?_
  refine z_iconst hx hb dX8_lay_6 ?_
  refine ct_Vxi (VC_fix E cI cC) (ZC_ok E cI cC T) (ZC_bl E cI cC T) hZ S0 (kX8_change l hst D E cI cC T M (6) napkin table (0) (by omega) (by omega) (by omega) (by omega) hC hQ hH (fX8_change M (6) napkin table (0)).1 (fX8_change M (6) napkin table (0)).2.1 (fX8_change M (6) napkin table (0)).2.2 rfl) (cwV 4 hts gX8_lay_X8_change rfl rfl rfl (by decide +kernel) ⟨(Nat.le_of_ble_eq_true rfl), (Nat.le_of_ble_eq_true rfl)⟩) hK hP hD hS rfl rfl VC_0 rfl hl.1 rfl (Nat.le_of_ble_eq_true rfl) dX8_lay_7 ⟨(Nat.le_of_ble_eq_true rfl), (Nat.le_of_ble_eq_true rfl)⟩ hout hlocks (Nat.le_of_ble_eq_true rfl) (Nat.le_of_ble_eq_true rfl) (fun b1 => ?_) (fun b1 H locs hP hD hS => ?_)
  · rw [if_neg b1] at hE
    obtain ⟨e0, e1⟩ := Prod.mk.inj hE
    exact ⟨e0, (Prod.mk.inj e1).2⟩
  · rw [if_pos b1] at hE
    obtain ⟨e0, e9⟩ := Prod.mk.inj hE
    obtain ⟨e1, e2⟩ := Prod.mk.inj e9
    subst e2
    exact cx_i hx hb hr hlocks e0 e1 rfl hS hP (Nat.le_of_ble_eq_true rfl) (Nat.le_of_ble_eq_true rfl) dX8_lay_10

theorem fr_fX8_lay {M : Mem} (napkin table : Int) {r : Nat} (h0 : Nat.beq r 0 = false) (h1 : Nat.beq r 1 = false) (h2 : Nat.beq r 2 = false) (h3 : Nat.beq r 3 = false) (h4 : Nat.beq r 4 = false) (h7 : Nat.beq r 7 = false) (h8 : Nat.beq r 8 = false) (h9 : Nat.beq r 9 = false) (h14 : Nat.beq r 14 = false) (h18 : Nat.beq r 18 = false) (h19 : Nat.beq r 19 = false) : (fX8_lay M napkin table).2.2 r = M r := by
  unfold fX8_lay
  (repeat' with_reducible refine frite_x (fun _ => ?_) (fun _ => ?_)) <;> first | with_reducible rfl | simp only [mst_o, msf_o, mcp_o, fr_fX8_change, h0, h1, h2, h3, h4, h7, h8, h9, h14, h18, h19]

def fX8_take (M : Mem) (napkin : Int) : Int × Int × Mem := if (fX8_change M (3) napkin (0) (0)).1 = 0 then ((0), (fX8_change M (3) napkin (0) (0)).2.1, (fX8_change M (3) napkin (0) (0)).2.2) else ((fX8_change M (3) napkin (0) (0)).1, (0), (fX8_change M (3) napkin (0) (0)).2.2)
set_option maxRecDepth 100000 in
set_option maxHeartbeats 4000000 in
theorem kX8_take (l : Launch) (hst : l.stackTraces = false) (D : va_G) (E : Nat → Nat) (cI cC : ClassId) (T : Nat → Nat) (M : Mem) (napkin : Int) (h1 : -2147483648 ≤ napkin ∧ napkin < 2147483648) (hC : CI M) (hQ : SI M) (hH : HN M) (kx r : Int) (M' : Mem) (hE : fX8_take M napkin = (kx, r, M')) : Cx l yX8_take wsX8_take 7 142 1 [.ref (E 0), .int (iI napkin)] D (TY cI cC) (VC E cI cC) (ZC E cI cC T) M kx (some (.int (iI r))) M' := by
  refine Cx.of (cc := cX8_take) (maxL := 2) (ret := (some .int)) (by decide +kernel) rfl (Nat.le_of_ble_eq_true rfl) ?_
  intro p e s m args below meth c ls hx hb hml hr hown hts hlocks hP hK hD hZ hS hout hl
  have hl : lv_has ls 2 [(0, .ref (E 0)), (1, .int (iI napkin))] := hl
  have S0 : CallFix p m c cX8_take 2 s args wsX8_take RX8 := ⟨hx, hb, hml, hown, hts⟩
  rw [fX8_take] at hE
  refine lv_aload_n hx hb dX8_take_0 rfl (lv_at hl 0 rfl) ?_
  refine va_gets hx hb (ZC_cm hZ M 3 (Nat.le_of_ble_eq_true rfl)) hS hown (hts (.fieldLink RX8 91 "NapkinSyntax$Command" "TAKE" "LNapkinSyntax$Command;") (by decide +kernel)) (fun _ h => h) dX8_take_1 ?_
  refine lv_iload_n hx hb dX8_take_4 rfl (lv_at hl 1 rfl) ?_
  refine z_iconst hx hb dX8_take_5 ?_
  refine z_iconst hx hb dX8_take_6 ?_
  refine ct_Vxi (VC_fix E cI cC) (ZC_ok E cI cC T) (ZC_bl E cI cC T) hZ S0 (kX8_change l hst D E cI cC T M (3) napkin (0) (0) (by omega) (by omega) (by omega) (by omega) hC hQ hH (fX8_change M (3) napkin (0) (0)).1 (fX8_change M (3) napkin (0) (0)).2.1 (fX8_change M (3) napkin (0) (0)).2.2 rfl) (cwV 4 hts gX8_take_X8_change rfl rfl rfl (by decide +kernel) ⟨(Nat.le_of_ble_eq_true rfl), (Nat.le_of_ble_eq_true rfl)⟩) hK hP hD hS rfl rfl VC_0 rfl hl.1 rfl (Nat.le_of_ble_eq_true rfl) dX8_take_7 ⟨(Nat.le_of_ble_eq_true rfl), (Nat.le_of_ble_eq_true rfl)⟩ hout hlocks (Nat.le_of_ble_eq_true rfl) (Nat.le_of_ble_eq_true rfl) (fun b1 => ?_) (fun b1 H locs hP hD hS => ?_)
  · rw [if_neg b1] at hE
    obtain ⟨e0, e1⟩ := Prod.mk.inj hE
    exact ⟨e0, (Prod.mk.inj e1).2⟩
  · rw [if_pos b1] at hE
    obtain ⟨e0, e9⟩ := Prod.mk.inj hE
    obtain ⟨e1, e2⟩ := Prod.mk.inj e9
    subst e2
    exact cx_i hx hb hr hlocks e0 e1 rfl hS hP (Nat.le_of_ble_eq_true rfl) (Nat.le_of_ble_eq_true rfl) dX8_take_10

theorem fr_fX8_take {M : Mem} (napkin : Int) {r : Nat} (h0 : Nat.beq r 0 = false) (h1 : Nat.beq r 1 = false) (h2 : Nat.beq r 2 = false) (h3 : Nat.beq r 3 = false) (h4 : Nat.beq r 4 = false) (h7 : Nat.beq r 7 = false) (h8 : Nat.beq r 8 = false) (h9 : Nat.beq r 9 = false) (h14 : Nat.beq r 14 = false) (h18 : Nat.beq r 18 = false) (h19 : Nat.beq r 19 = false) : (fX8_take M napkin).2.2 r = M r := by
  unfold fX8_take
  (repeat' with_reducible refine frite_x (fun _ => ?_) (fun _ => ?_)) <;> first | with_reducible rfl | simp only [mst_o, msf_o, mcp_o, fr_fX8_change, h0, h1, h2, h3, h4, h7, h8, h9, h14, h18, h19]

def fX8_move (M : Mem) (table fro to : Int) : Int × Int × Mem := if (fX8_change M (7) table fro to).1 = 0 then ((0), (fX8_change M (7) table fro to).2.1, (fX8_change M (7) table fro to).2.2) else ((fX8_change M (7) table fro to).1, (0), (fX8_change M (7) table fro to).2.2)
set_option maxRecDepth 100000 in
set_option maxHeartbeats 4000000 in
theorem kX8_move (l : Launch) (hst : l.stackTraces = false) (D : va_G) (E : Nat → Nat) (cI cC : ClassId) (T : Nat → Nat) (M : Mem) (table fro to : Int) (h1 : -2147483648 ≤ table ∧ table < 2147483648) (h2 : -2147483648 ≤ fro ∧ fro < 2147483648) (h3 : -2147483648 ≤ to ∧ to < 2147483648) (hC : CI M) (hQ : SI M) (hH : HN M) (kx r : Int) (M' : Mem) (hE : fX8_move M table fro to = (kx, r, M')) : Cx l yX8_move wsX8_move 7 142 1 [.ref (E 0), .int (iI table), .int (iI fro), .int (iI to)] D (TY cI cC) (VC E cI cC) (ZC E cI cC T) M kx (some (.int (iI r))) M' := by
  refine Cx.of (cc := cX8_move) (maxL := 4) (ret := (some .int)) (by decide +kernel) rfl (Nat.le_of_ble_eq_true rfl) ?_
  intro p e s m args below meth c ls hx hb hml hr hown hts hlocks hP hK hD hZ hS hout hl
  have hl : lv_has ls 4 [(0, .ref (E 0)), (1, .int (iI table)), (2, .int (iI fro)), (3, .int (iI to))] := hl
  have S0 : CallFix p m c cX8_move 4 s args wsX8_move RX8 := ⟨hx, hb, hml, hown, hts⟩
  rw [fX8_move] at hE
  refine lv_aload_n hx hb dX8_move_0 rfl (lv_at hl 0 rfl) ?_
  refine va_gets hx hb (ZC_cm hZ M 7 (Nat.le_of_ble_eq_true rfl)) hS hown (hts (.fieldLink RX8 94 "NapkinSyntax$Command" "MOVE" "LNapkinSyntax$Command;") (by decide +kernel)) (fun _ h => h) dX8_move_1 ?_
  refine lv_iload_n hx hb dX8_move_4 rfl (lv_at hl 1 rfl) ?_
  refine lv_iload_n hx hb dX8_move_5 rfl (lv_at hl 2 rfl) ?_
  refine lv_iload_n hx hb dX8_move_6 rfl (lv_at hl 3 rfl) ?_
  refine ct_Vxi (VC_fix E cI cC) (ZC_ok E cI cC T) (ZC_bl E cI cC T) hZ S0 (kX8_change l hst D E cI cC T M (7) table fro to (by omega) (by omega) (by omega) (by omega) hC hQ hH (fX8_change M (7) table fro to).1 (fX8_change M (7) table fro to).2.1 (fX8_change M (7) table fro to).2.2 rfl) (cwV 4 hts gX8_move_X8_change rfl rfl rfl (by decide +kernel) ⟨(Nat.le_of_ble_eq_true rfl), (Nat.le_of_ble_eq_true rfl)⟩) hK hP hD hS rfl rfl VC_0 rfl hl.1 rfl (Nat.le_of_ble_eq_true rfl) dX8_move_7 ⟨(Nat.le_of_ble_eq_true rfl), (Nat.le_of_ble_eq_true rfl)⟩ hout hlocks (Nat.le_of_ble_eq_true rfl) (Nat.le_of_ble_eq_true rfl) (fun b1 => ?_) (fun b1 H locs hP hD hS => ?_)
  · rw [if_neg b1] at hE
    obtain ⟨e0, e1⟩ := Prod.mk.inj hE
    exact ⟨e0, (Prod.mk.inj e1).2⟩
  · rw [if_pos b1] at hE
    obtain ⟨e0, e9⟩ := Prod.mk.inj hE
    obtain ⟨e1, e2⟩ := Prod.mk.inj e9
    subst e2
    exact cx_i hx hb hr hlocks e0 e1 rfl hS hP (Nat.le_of_ble_eq_true rfl) (Nat.le_of_ble_eq_true rfl) dX8_move_10

theorem fr_fX8_move {M : Mem} (table fro to : Int) {r : Nat} (h0 : Nat.beq r 0 = false) (h1 : Nat.beq r 1 = false) (h2 : Nat.beq r 2 = false) (h3 : Nat.beq r 3 = false) (h4 : Nat.beq r 4 = false) (h7 : Nat.beq r 7 = false) (h8 : Nat.beq r 8 = false) (h9 : Nat.beq r 9 = false) (h14 : Nat.beq r 14 = false) (h18 : Nat.beq r 18 = false) (h19 : Nat.beq r 19 = false) : (fX8_move M table fro to).2.2 r = M r := by
  unfold fX8_move
  (repeat' with_reducible refine frite_x (fun _ => ?_) (fun _ => ?_)) <;> first | with_reducible rfl | simp only [mst_o, msf_o, mcp_o, fr_fX8_change, h0, h1, h2, h3, h4, h7, h8, h9, h14, h18, h19]

def fX8_stain (M : Mem) (napkin much : Int) : Int × Int × Mem := if (fX8_change M (8) napkin much (0)).1 = 0 then ((0), (fX8_change M (8) napkin much (0)).2.1, (fX8_change M (8) napkin much (0)).2.2) else ((fX8_change M (8) napkin much (0)).1, (0), (fX8_change M (8) napkin much (0)).2.2)
set_option maxRecDepth 100000 in
set_option maxHeartbeats 4000000 in
theorem kX8_stain (l : Launch) (hst : l.stackTraces = false) (D : va_G) (E : Nat → Nat) (cI cC : ClassId) (T : Nat → Nat) (M : Mem) (napkin much : Int) (h1 : -2147483648 ≤ napkin ∧ napkin < 2147483648) (h2 : -2147483648 ≤ much ∧ much < 2147483648) (hC : CI M) (hQ : SI M) (hH : HN M) (kx r : Int) (M' : Mem) (hE : fX8_stain M napkin much = (kx, r, M')) : Cx l yX8_stain wsX8_stain 7 142 1 [.ref (E 0), .int (iI napkin), .int (iI much)] D (TY cI cC) (VC E cI cC) (ZC E cI cC T) M kx (some (.int (iI r))) M' := by
  refine Cx.of (cc := cX8_stain) (maxL := 3) (ret := (some .int)) (by decide +kernel) rfl (Nat.le_of_ble_eq_true rfl) ?_
  intro p e s m args below meth c ls hx hb hml hr hown hts hlocks hP hK hD hZ hS hout hl
  have hl : lv_has ls 3 [(0, .ref (E 0)), (1, .int (iI napkin)), (2, .int (iI much))] := hl
  have S0 : CallFix p m c cX8_stain 3 s args wsX8_stain RX8 := ⟨hx, hb, hml, hown, hts⟩
  rw [fX8_stain] at hE
  refine lv_aload_n hx hb dX8_stain_0 rfl (lv_at hl 0 rfl) ?_
  refine va_gets hx hb (ZC_cm hZ M 8 (Nat.le_of_ble_eq_true rfl)) hS hown (hts (.fieldLink RX8 97 "NapkinSyntax$Command" "STAIN" "LNapkinSyntax$Command;") (by decide +kernel)) (fun _ h => h) dX8_stain_1 ?_
  refine lv_iload_n hx hb dX8_stain_4 rfl (lv_at hl 1 rfl) ?_
  refine lv_iload_n hx hb dX8_stain_5 rfl (lv_at hl 2 rfl) ?_
  refine z_iconst hx hb dX8_stain_6 ?_
  refine ct_Vxi (VC_fix E cI cC) (ZC_ok E cI cC T) (ZC_bl E cI cC T) hZ S0 (kX8_change l hst D E cI cC T M (8) napkin much (0) (by omega) (by omega) (by omega) (by omega) hC hQ hH (fX8_change M (8) napkin much (0)).1 (fX8_change M (8) napkin much (0)).2.1 (fX8_change M (8) napkin much (0)).2.2 rfl) (cwV 4 hts gX8_stain_X8_change rfl rfl rfl (by decide +kernel) ⟨(Nat.le_of_ble_eq_true rfl), (Nat.le_of_ble_eq_true rfl)⟩) hK hP hD hS rfl rfl VC_0 rfl hl.1 rfl (Nat.le_of_ble_eq_true rfl) dX8_stain_7 ⟨(Nat.le_of_ble_eq_true rfl), (Nat.le_of_ble_eq_true rfl)⟩ hout hlocks (Nat.le_of_ble_eq_true rfl) (Nat.le_of_ble_eq_true rfl) (fun b1 => ?_) (fun b1 H locs hP hD hS => ?_)
  · rw [if_neg b1] at hE
    obtain ⟨e0, e1⟩ := Prod.mk.inj hE
    exact ⟨e0, (Prod.mk.inj e1).2⟩
  · rw [if_pos b1] at hE
    obtain ⟨e0, e9⟩ := Prod.mk.inj hE
    obtain ⟨e1, e2⟩ := Prod.mk.inj e9
    subst e2
    exact cx_i hx hb hr hlocks e0 e1 rfl hS hP (Nat.le_of_ble_eq_true rfl) (Nat.le_of_ble_eq_true rfl) dX8_stain_10

theorem fr_fX8_stain {M : Mem} (napkin much : Int) {r : Nat} (h0 : Nat.beq r 0 = false) (h1 : Nat.beq r 1 = false) (h2 : Nat.beq r 2 = false) (h3 : Nat.beq r 3 = false) (h4 : Nat.beq r 4 = false) (h7 : Nat.beq r 7 = false) (h8 : Nat.beq r 8 = false) (h9 : Nat.beq r 9 = false) (h14 : Nat.beq r 14 = false) (h18 : Nat.beq r 18 = false) (h19 : Nat.beq r 19 = false) : (fX8_stain M napkin much).2.2 r = M r := by
  unfold fX8_stain
  (repeat' with_reducible refine frite_x (fun _ => ?_) (fun _ => ?_)) <;> first | with_reducible rfl | simp only [mst_o, msf_o, mcp_o, fr_fX8_change, h0, h1, h2, h3, h4, h7, h8, h9, h14, h18, h19]

def fX8_wash (M : Mem) (napkin : Int) : Int × Int × Mem := if (fX8_change M (4) napkin (0) (0)).1 = 0 then ((0), (fX8_change M (4) napkin (0) (0)).2.1, (fX8_change M (4) napkin (0) (0)).2.2) else ((fX8_change M (4) napkin (0) (0)).1, (0), (fX8_change M (4) napkin (0) (0)).2.2)
set_option maxRecDepth 100000 in
set_option maxHeartbeats 4000000 in
theorem kX8_wash (l : Launch) (hst : l.stackTraces = false) (D : va_G) (E : Nat → Nat) (cI cC : ClassId) (T : Nat → Nat) (M : Mem) (napkin : Int) (h1 : -2147483648 ≤ napkin ∧ napkin < 2147483648) (hC : CI M) (hQ : SI M) (hH : HN M) (kx r : Int) (M' : Mem) (hE : fX8_wash M napkin = (kx, r, M')) : Cx l yX8_wash wsX8_wash 7 142 1 [.ref (E 0), .int (iI napkin)] D (TY cI cC) (VC E cI cC) (ZC E cI cC T) M kx (some (.int (iI r))) M' := by
  refine Cx.of (cc := cX8_wash) (maxL := 2) (ret := (some .int)) (by decide +kernel) rfl (Nat.le_of_ble_eq_true rfl) ?_
  intro p e s m args below meth c ls hx hb hml hr hown hts hlocks hP hK hD hZ hS hout hl
  have hl : lv_has ls 2 [(0, .ref (E 0)), (1, .int (iI napkin))] := hl
  have S0 : CallFix p m c cX8_wash 2 s args wsX8_wash RX8 := ⟨hx, hb, hml, hown, hts⟩
  rw [fX8_wash] at hE
  refine lv_aload_n hx hb dX8_wash_0 rfl (lv_at hl 0 rfl) ?_
  refine va_gets hx hb (ZC_cm hZ M 4 (Nat.le_of_ble_eq_true rfl)) hS hown (hts (.fieldLink RX8 100 "NapkinSyntax$Command" "WASH" "LNapkinSyntax$Command;") (by decide +kernel)) (fun _ h => h) dX8_wash_1 ?_
  refine lv_iload_n hx hb dX8_wash_4 rfl (lv_at hl 1 rfl) ?_
  refine z_iconst hx hb dX8_wash_5 ?_
  refine z_iconst hx hb dX8_wash_6 ?_
  refine ct_Vxi (VC_fix E cI cC) (ZC_ok E cI cC T) (ZC_bl E cI cC T) hZ S0 (kX8_change l hst D E cI cC T M (4) napkin (0) (0) (by omega) (by omega) (by omega) (by omega) hC hQ hH (fX8_change M (4) napkin (0) (0)).1 (fX8_change M (4) napkin (0) (0)).2.1 (fX8_change M (4) napkin (0) (0)).2.2 rfl) (cwV 4 hts gX8_wash_X8_change rfl rfl rfl (by decide +kernel) ⟨(Nat.le_of_ble_eq_true rfl), (Nat.le_of_ble_eq_true rfl)⟩) hK hP hD hS rfl rfl VC_0 rfl hl.1 rfl (Nat.le_of_ble_eq_true rfl) dX8_wash_7 ⟨(Nat.le_of_ble_eq_true rfl), (Nat.le_of_ble_eq_true rfl)⟩ hout hlocks (Nat.le_of_ble_eq_true rfl) (Nat.le_of_ble_eq_true rfl) (fun b1 => ?_) (fun b1 H locs hP hD hS => ?_)
  · rw [if_neg b1] at hE
    obtain ⟨e0, e1⟩ := Prod.mk.inj hE
    exact ⟨e0, (Prod.mk.inj e1).2⟩
  · rw [if_pos b1] at hE
    obtain ⟨e0, e9⟩ := Prod.mk.inj hE
    obtain ⟨e1, e2⟩ := Prod.mk.inj e9
    subst e2
    exact cx_i hx hb hr hlocks e0 e1 rfl hS hP (Nat.le_of_ble_eq_true rfl) (Nat.le_of_ble_eq_true rfl) dX8_wash_10

theorem fr_fX8_wash {M : Mem} (napkin : Int) {r : Nat} (h0 : Nat.beq r 0 = false) (h1 : Nat.beq r 1 = false) (h2 : Nat.beq r 2 = false) (h3 : Nat.beq r 3 = false) (h4 : Nat.beq r 4 = false) (h7 : Nat.beq r 7 = false) (h8 : Nat.beq r 8 = false) (h9 : Nat.beq r 9 = false) (h14 : Nat.beq r 14 = false) (h18 : Nat.beq r 18 = false) (h19 : Nat.beq r 19 = false) : (fX8_wash M napkin).2.2 r = M r := by
  unfold fX8_wash
  (repeat' with_reducible refine frite_x (fun _ => ?_) (fun _ => ?_)) <;> first | with_reducible rfl | simp only [mst_o, msf_o, mcp_o, fr_fX8_change, h0, h1, h2, h3, h4, h7, h8, h9, h14, h18, h19]

def fX8_host (M : Mem) (table : Int) : Int × Int × Mem := if (fX8_change M (5) table (0) (0)).1 = 0 then ((0), (fX8_change M (5) table (0) (0)).2.1, (fX8_change M (5) table (0) (0)).2.2) else ((fX8_change M (5) table (0) (0)).1, (0), (fX8_change M (5) table (0) (0)).2.2)
set_option maxRecDepth 100000 in
set_option maxHeartbeats 4000000 in
theorem kX8_host (l : Launch) (hst : l.stackTraces = false) (D : va_G) (E : Nat → Nat) (cI cC : ClassId) (T : Nat → Nat) (M : Mem) (table : Int) (h1 : -2147483648 ≤ table ∧ table < 2147483648) (hC : CI M) (hQ : SI M) (hH : HN M) (kx r : Int) (M' : Mem) (hE : fX8_host M table = (kx, r, M')) : Cx l yX8_host wsX8_host 7 142 1 [.ref (E 0), .int (iI table)] D (TY cI cC) (VC E cI cC) (ZC E cI cC T) M kx (some (.int (iI r))) M' := by
  refine Cx.of (cc := cX8_host) (maxL := 2) (ret := (some .int)) (by decide +kernel) rfl (Nat.le_of_ble_eq_true rfl) ?_
  intro p e s m args below meth c ls hx hb hml hr hown hts hlocks hP hK hD hZ hS hout hl
  have hl : lv_has ls 2 [(0, .ref (E 0)), (1, .int (iI table))] := hl
  have S0 : CallFix p m c cX8_host 2 s args wsX8_host RX8 := ⟨hx, hb, hml, hown, hts⟩
  rw [fX8_host] at hE
  refine lv_aload_n hx hb dX8_host_0 rfl (lv_at hl 0 rfl) ?_
  refine va_gets hx hb (ZC_cm hZ M 5 (Nat.le_of_ble_eq_true rfl)) hS hown (hts (.fieldLink RX8 103 "NapkinSyntax$Command" "READ" "LNapkinSyntax$Command;") (by decide +kernel)) (fun _ h => h) dX8_host_1 ?_
  refine lv_iload_n hx hb dX8_host_4 rfl (lv_at hl 1 rfl) ?_
  refine z_iconst hx hb dX8_host_5 ?_
  refine z_iconst hx hb dX8_host_6 ?_
  refine ct_Vxi (VC_fix E cI cC) (ZC_ok E cI cC T) (ZC_bl E cI cC T) hZ S0 (kX8_change l hst D E cI cC T M (5) table (0) (0) (by omega) (by omega) (by omega) (by omega) hC hQ hH (fX8_change M (5) table (0) (0)).1 (fX8_change M (5) table (0) (0)).2.1 (fX8_change M (5) table (0) (0)).2.2 rfl) (cwV 4 hts gX8_host_X8_change rfl rfl rfl (by decide +kernel) ⟨(Nat.le_of_ble_eq_true rfl), (Nat.le_of_ble_eq_true rfl)⟩) hK hP hD hS rfl rfl VC_0 rfl hl.1 rfl (Nat.le_of_ble_eq_true rfl) dX8_host_7 ⟨(Nat.le_of_ble_eq_true rfl), (Nat.le_of_ble_eq_true rfl)⟩ hout hlocks (Nat.le_of_ble_eq_true rfl) (Nat.le_of_ble_eq_true rfl) (fun b1 => ?_) (fun b1 H locs hP hD hS => ?_)
  · rw [if_neg b1] at hE
    obtain ⟨e0, e1⟩ := Prod.mk.inj hE
    exact ⟨e0, (Prod.mk.inj e1).2⟩
  · rw [if_pos b1] at hE
    obtain ⟨e0, e9⟩ := Prod.mk.inj hE
    obtain ⟨e1, e2⟩ := Prod.mk.inj e9
    subst e2
    exact cx_i hx hb hr hlocks e0 e1 rfl hS hP (Nat.le_of_ble_eq_true rfl) (Nat.le_of_ble_eq_true rfl) dX8_host_10

theorem fr_fX8_host {M : Mem} (table : Int) {r : Nat} (h0 : Nat.beq r 0 = false) (h1 : Nat.beq r 1 = false) (h2 : Nat.beq r 2 = false) (h3 : Nat.beq r 3 = false) (h4 : Nat.beq r 4 = false) (h7 : Nat.beq r 7 = false) (h8 : Nat.beq r 8 = false) (h9 : Nat.beq r 9 = false) (h14 : Nat.beq r 14 = false) (h18 : Nat.beq r 18 = false) (h19 : Nat.beq r 19 = false) : (fX8_host M table).2.2 r = M r := by
  unfold fX8_host
  (repeat' with_reducible refine frite_x (fun _ => ?_) (fun _ => ?_)) <;> first | with_reducible rfl | simp only [mst_o, msf_o, mcp_o, fr_fX8_change, h0, h1, h2, h3, h4, h7, h8, h9, h14, h18, h19]
