/-! the class State: what changes it -/
def fX6_placesUnder_L2 (M : Mem) (napkin : Int) (count table : Int) (K : Int → Int → Int) : Nat → Int → Int → (Int)
  | 0, _, _ => 0
  | k2 + 1, cnt, place => if ((fX6_laidOn M table) ≤ place) then K cnt (table + 1) else if ((fX6_seatedAt M table place) = napkin) then fX6_placesUnder_L2 M napkin count table K k2 (cnt + 1) (place + 1) else fX6_placesUnder_L2 M napkin count table K k2 cnt (place + 1)
def fX6_placesUnder_L1 (M : Mem) (napkin : Int) : Nat → Int → Int → (Int)
  | 0, _, _ => 0
  | k1 + 1, count, table => if ((3) ≤ table) then count else fX6_placesUnder_L2 M napkin count table (fun x0 x1 => fX6_placesUnder_L1 M napkin k1 x0 x1) 7 count (0)
def fX6_placesUnder (M : Mem) (napkin : Int) : Int := fX6_placesUnder_L1 M napkin 4 (0) (0)
set_option maxRecDepth 100000 in
set_option maxHeartbeats 4000000 in
theorem kX6_placesUnder (l : Launch) (D : va_G) (E : Nat → Nat) (cI cC : ClassId) (Z : State → Prop) (hZo : ∀ M : Mem, ZOk (VC E cI cC M) Z) (hZb : ZBl Z) (M : Mem) (napkin : Int) (h1 : -2147483648 ≤ napkin ∧ napkin < 2147483648) (hC : CI M) (r : Int) (hE : fX6_placesUnder M napkin = r) : Ci l yX6_placesUnder wsX6_placesUnder 2 43 [.ref (E 2), .int (iI napkin)] D (TY cI cC) (VC E cI cC) Z M r M := by
  refine Ci.of (cc := cX6_placesUnder) (maxL := 5) (ret := (some .int)) (by decide +kernel) rfl (Nat.le_of_ble_eq_true rfl) ?_
  intro p e s m args below meth c ls hx hb hml hr hown hts hlocks hP hK hD hZ hS hl
  have hl : lv_has ls 5 [(0, .ref (E 2)), (1, .int (iI napkin))] := hl
  have S0 : CallFix p m c cX6_placesUnder 5 s args wsX6_placesUnder RX6 := ⟨hx, hb, hml, hown, hts⟩
  rw [fX6_placesUnder] at hE
  refine z_iconst hx hb dX6_placesUnder_0 ?_
  refine lv_istore_n hx hb dX6_placesUnder_1 rfl hl (Nat.le_of_ble_eq_true rfl) (lv' := [(2, .int (iI (0))), (0, .ref (E 2)), (1, .int (iI napkin))]) rfl (fun ls hl => ?_)
  refine z_iconst hx hb dX6_placesUnder_2 ?_
  refine lv_istore_n hx hb dX6_placesUnder_3 rfl hl (Nat.le_of_ble_eq_true rfl) (lv' := [(3, .int (iI (0))), (2, .int (iI (0))), (0, .ref (E 2)), (1, .int (iI napkin))]) rfl (fun ls hl => ?_)
  have L1 : ∀ (k1 : Nat) (count table : Int) (ls : Array Slot) (H : Heap) (locs : List Loc), lv_has ls 5 [(0, .ref (E 2)), (1, .int (iI napkin)), (2, .int (iI count)), (3, .int (iI table))] → va_P D vwCl (VC E cI cC M) H → va_D (wA (VC E cI cC M)) (VC E cI cC M) → va_S (wA (VC E cI cC M)) s.heap H locs → (0 ≤ table) → (table ≤ 3) → (3 - table < (k1 : Int)) → fX6_placesUnder_L1 M napkin k1 count table = r → W p l e (zRm 2 43) s m args below meth c H locs 0 0 (MQ below (ciQ D (VC E cI cC) M r M) args s 0 0 (wA (VC E cI cC M))) (F0 m 4 ls []) := by
    intro k1
    induction k1 with
    | zero => intro count table ls H locs hl hP hD hS i1 i2 i3 hE; exfalso; omega
    | succ k1 ih1 =>
      intro count table ls H locs hl hP hD hS i1 i2 i3 hE
      rw [fX6_placesUnder_L1] at hE
      refine lv_iload_n hx hb dX6_placesUnder_4 rfl (lv_at hl 3 rfl) ?_
      refine z_iconst hx hb dX6_placesUnder_5 ?_
      refine z_icmp_ge hx hb dX6_placesUnder_6 (tgt := 48) rfl (by omega) (by omega) (fun b1 => ?_) (fun b1 => ?_)
      · rw [if_pos b1] at hE
        refine lv_iload_n hx hb dX6_placesUnder_48 rfl (lv_at hl 2 rfl) ?_
        exact ci_i hx hb hr hlocks hE rfl hS hP dX6_placesUnder_49
      · rw [if_neg b1] at hE
        refine z_iconst hx hb dX6_placesUnder_9 ?_
        refine lv_istore hx hb dX6_placesUnder_10 hl (Nat.le_of_ble_eq_true rfl) (lv' := [(4, .int (iI (0))), (0, .ref (E 2)), (1, .int (iI napkin)), (2, .int (iI count)), (3, .int (iI table))]) rfl (fun ls hl => ?_)
        have L2 : ∀ (k2 : Nat) (cnt place : Int) (ls : Array Slot) (H : Heap) (locs : List Loc), lv_has ls 5 [(0, .ref (E 2)), (1, .int (iI napkin)), (2, .int (iI cnt)), (3, .int (iI table)), (4, .int (iI place))] → va_P D vwCl (VC E cI cC M) H → va_D (wA (VC E cI cC M)) (VC E cI cC M) → va_S (wA (VC E cI cC M)) s.heap H locs → (0 ≤ place) → (place ≤ fX6_laidOn M table) → (fX6_laidOn M table - place < (k2 : Int)) → fX6_placesUnder_L2 M napkin count table (fun x0 x1 => fX6_placesUnder_L1 M napkin k1 x0 x1) k2 cnt place = r → W p l e (zRm 2 43) s m args below meth c H locs 0 0 (MQ below (ciQ D (VC E cI cC) M r M) args s 0 0 (wA (VC E cI cC M))) (F0 m 12 ls []) := by
          intro k2
          induction k2 with
          | zero => intro cnt place ls H locs hl hP hD hS j1 j2 j3 hE; exfalso; omega
          | succ k2 ih2 =>
            intro cnt place ls H locs hl hP hD hS j1 j2 j3 hE
            have q98 := rg_X6_laidOn hC table
            rw [fX6_placesUnder_L2] at hE
            refine lv_iload hx hb dX6_placesUnder_12 (lv_at hl 4 rfl) ?_
            refine lv_aload_n hx hb dX6_placesUnder_14 rfl (lv_at hl 0 rfl) ?_
            refine lv_iload_n hx hb dX6_placesUnder_15 rfl (lv_at hl 3 rfl) ?_
            refine ct_Vi (VC_fix E cI cC) hZo hZb hZ S0 (kX6_laidOn l D E cI cC Z hZo hZb M table (by omega) (fX6_laidOn M table) rfl) (cwV 1 hts gX6_placesUnder_X6_laidOn rfl rfl rfl (by decide +kernel) ⟨(Nat.le_of_ble_eq_true rfl), (Nat.le_of_ble_eq_true rfl)⟩) hK hP hD hS rfl rfl VC_2 rfl hl.1 rfl (Nat.le_of_ble_eq_true rfl) dX6_placesUnder_16 ⟨Nat.zero_le _, Nat.zero_le _⟩ (fun H locs hP hD hS => ?_)
            have q2 := rg_X6_laidOn hC table
            refine z_icmp_ge hx hb dX6_placesUnder_19 (tgt := 42) rfl (by omega) (by omega) (fun b3 => ?_) (fun b3 => ?_)
            · rw [if_pos b3] at hE
              refine z_iinc hx hb dX6_placesUnder_42 hl (k := 3) rfl (Nat.le_of_ble_eq_true rfl) (lv' := [(3, .int (iI (table + 1))), (0, .ref (E 2)), (1, .int (iI napkin)), (2, .int (iI cnt)), (4, .int (iI place))]) rfl (fun ls hl => ?_)
              refine lv_goto hx hb dX6_placesUnder_45 (tgt := 4) rfl ?_
              exact ih1 cnt (table + 1) ls _ _ (lv_sub hl [1, 2, 3, 0] rfl) hP hD hS (by omega) (by omega) (by omega) hE
            · rw [if_neg b3] at hE
              refine lv_aload_n hx hb dX6_placesUnder_22 rfl (lv_at hl 0 rfl) ?_
              refine lv_iload_n hx hb dX6_placesUnder_23 rfl (lv_at hl 3 rfl) ?_
              refine lv_iload hx hb dX6_placesUnder_24 (lv_at hl 4 rfl) ?_
              refine ct_Vi (VC_fix E cI cC) hZo hZb hZ S0 (kX6_seatedAt l D E cI cC Z hZo hZb M table place (by omega) (by omega) (fX6_seatedAt M table place) rfl) (cwV 2 hts gX6_placesUnder_X6_seatedAt rfl rfl rfl (by decide +kernel) ⟨(Nat.le_of_ble_eq_true rfl), (Nat.le_of_ble_eq_true rfl)⟩) hK hP hD hS rfl rfl VC_2 rfl hl.1 rfl (Nat.le_of_ble_eq_true rfl) dX6_placesUnder_26 ⟨Nat.zero_le _, Nat.zero_le _⟩ (fun H locs hP hD hS => ?_)
              have q4 := rg_X6_seatedAt hC table place
              refine lv_iload_n hx hb dX6_placesUnder_29 rfl (lv_at hl 1 rfl) ?_
              refine z_icmp_ne hx hb dX6_placesUnder_30 (tgt := 36) rfl (by omega) (by omega) (fun b5 => ?_) (fun b5 => ?_)
              · rw [if_neg b5] at hE
                refine z_iinc hx hb dX6_placesUnder_36 hl (k := 4) rfl (Nat.le_of_ble_eq_true rfl) (lv' := [(4, .int (iI (place + 1))), (0, .ref (E 2)), (1, .int (iI napkin)), (2, .int (iI cnt)), (3, .int (iI table))]) rfl (fun ls hl => ?_)
                refine lv_goto hx hb dX6_placesUnder_39 (tgt := 12) rfl ?_
                exact ih2 cnt (place + 1) ls _ _ (lv_sub hl [1, 2, 3, 4, 0] rfl) hP hD hS (by omega) (by omega) (by omega) hE
              · rw [if_pos b5] at hE
                refine z_iinc hx hb dX6_placesUnder_33 hl (k := 2) rfl (Nat.le_of_ble_eq_true rfl) (lv' := [(2, .int (iI (cnt + 1))), (0, .ref (E 2)), (1, .int (iI napkin)), (3, .int (iI table)), (4, .int (iI place))]) rfl (fun ls hl => ?_)
                refine z_iinc hx hb dX6_placesUnder_36 hl (k := 4) rfl (Nat.le_of_ble_eq_true rfl) (lv' := [(4, .int (iI (place + 1))), (2, .int (iI (cnt + 1))), (0, .ref (E 2)), (1, .int (iI napkin)), (3, .int (iI table))]) rfl (fun ls hl => ?_)
                refine lv_goto hx hb dX6_placesUnder_39 (tgt := 12) rfl ?_
                exact ih2 (cnt + 1) (place + 1) ls _ _ (lv_sub hl [2, 3, 1, 4, 0] rfl) hP hD hS (by omega) (by omega) (by omega) hE
        exact L2 7 count (0) ls _ _ (lv_sub hl [1, 2, 3, 4, 0] rfl) hP hD hS (by omega) (by have := rg_X6_laidOn hC table; omega) (by have := rg_X6_laidOn hC table; omega) hE
  exact L1 4 (0) (0) ls _ _ (lv_sub hl [2, 3, 1, 0] rfl) hP hD hS (by omega) (by omega) (by omega) hE

def fX6_foldedCount_L1 (M : Mem) : Nat → Int → Int → (Int)
  | 0, _, _ => 0
  | k1 + 1, count, napkin => if ((fX6_napkins M) ≤ napkin) then count else if ((fX6_foldOf M napkin) = 0) then fX6_foldedCount_L1 M k1 count (napkin + 1) else fX6_foldedCount_L1 M k1 (count + 1) (napkin + 1)
def fX6_foldedCount (M : Mem) : Int := fX6_foldedCount_L1 M 11 (0) (0)
set_option maxRecDepth 100000 in
set_option maxHeartbeats 4000000 in
theorem kX6_foldedCount (l : Launch) (D : va_G) (E : Nat → Nat) (cI cC : ClassId) (Z : State → Prop) (hZo : ∀ M : Mem, ZOk (VC E cI cC M) Z) (hZb : ZBl Z) (M : Mem) (hC : CI M) (r : Int) (hE : fX6_foldedCount M = r) : Ci l yX6_foldedCount wsX6_foldedCount 2 43 [.ref (E 2)] D (TY cI cC) (VC E cI cC) Z M r M := by
  refine Ci.of (cc := cX6_foldedCount) (maxL := 3) (ret := (some .int)) (by decide +kernel) rfl (Nat.le_of_ble_eq_true rfl) ?_
  intro p e s m args below meth c ls hx hb hml hr hown hts hlocks hP hK hD hZ hS hl
  have hl : lv_has ls 3 [(0, .ref (E 2))] := hl
  have S0 : CallFix p m c cX6_foldedCount 3 s args wsX6_foldedCount RX6 := ⟨hx, hb, hml, hown, hts⟩
  rw [fX6_foldedCount] at hE
  refine z_iconst hx hb dX6_foldedCount_0 ?_
  refine lv_istore_n hx hb dX6_foldedCount_1 rfl hl (Nat.le_of_ble_eq_true rfl) (lv' := [(1, .int (iI (0))), (0, .ref (E 2))]) rfl (fun ls hl => ?_)
  refine z_iconst hx hb dX6_foldedCount_2 ?_
  refine lv_istore_n hx hb dX6_foldedCount_3 rfl hl (Nat.le_of_ble_eq_true rfl) (lv' := [(2, .int (iI (0))), (1, .int (iI (0))), (0, .ref (E 2))]) rfl (fun ls hl => ?_)
  have L1 : ∀ (k1 : Nat) (count napkin : Int) (ls : Array Slot) (H : Heap) (locs : List Loc), lv_has ls 3 [(0, .ref (E 2)), (1, .int (iI count)), (2, .int (iI napkin))] → va_P D vwCl (VC E cI cC M) H → va_D (wA (VC E cI cC M)) (VC E cI cC M) → va_S (wA (VC E cI cC M)) s.heap H locs → (0 ≤ napkin) → (napkin ≤ fX6_napkins M) → (fX6_napkins M - napkin < (k1 : Int)) → fX6_foldedCount_L1 M k1 count napkin = r → W p l e (zRm 2 43) s m args below meth c H locs 0 0 (MQ below (ciQ D (VC E cI cC) M r M) args s 0 0 (wA (VC E cI cC M))) (F0 m 4 ls []) := by
    intro k1
    induction k1 with
    | zero => intro count napkin ls H locs hl hP hD hS i1 i2 i3 hE; exfalso; omega
    | succ k1 ih1 =>
      intro count napkin ls H locs hl hP hD hS i1 i2 i3 hE
      have q98 := rg_X6_napkins hC
      rw [fX6_foldedCount_L1] at hE
      refine lv_iload_n hx hb dX6_foldedCount_4 rfl (lv_at hl 2 rfl) ?_
      refine lv_aload_n hx hb dX6_foldedCount_5 rfl (lv_at hl 0 rfl) ?_
      refine ct_Vi (VC_fix E cI cC) hZo hZb hZ S0 (kX6_napkins l D E cI cC Z hZo hZb M  (fX6_napkins M) rfl) (cwV 0 hts gX6_foldedCount_X6_napkins rfl rfl rfl (by decide +kernel) ⟨(Nat.le_of_ble_eq_true rfl), (Nat.le_of_ble_eq_true rfl)⟩) hK hP hD hS rfl rfl VC_2 rfl hl.1 rfl (Nat.le_of_ble_eq_true rfl) dX6_foldedCount_6 ⟨Nat.zero_le _, Nat.zero_le _⟩ (fun H locs hP hD hS => ?_)
      have q1 := rg_X6_napkins hC
      refine z_icmp_ge hx hb dX6_foldedCount_9 (tgt := 29) rfl (by omega) (by omega) (fun b2 => ?_) (fun b2 => ?_)
      · rw [if_pos b2] at hE
        refine lv_iload_n hx hb dX6_foldedCount_29 rfl (lv_at hl 1 rfl) ?_
        exact ci_i hx hb hr hlocks hE rfl hS hP dX6_foldedCount_30
      · rw [if_neg b2] at hE
        refine lv_aload_n hx hb dX6_foldedCount_12 rfl (lv_at hl 0 rfl) ?_
        refine lv_iload_n hx hb dX6_foldedCount_13 rfl (lv_at hl 2 rfl) ?_
        refine ct_Vi (VC_fix E cI cC) hZo hZb hZ S0 (kX6_foldOf l D E cI cC Z hZo hZb M napkin (by omega) (fX6_foldOf M napkin) rfl) (cwV 1 hts gX6_foldedCount_X6_foldOf rfl rfl rfl (by decide +kernel) ⟨(Nat.le_of_ble_eq_true rfl), (Nat.le_of_ble_eq_true rfl)⟩) hK hP hD hS rfl rfl VC_2 rfl hl.1 rfl (Nat.le_of_ble_eq_true rfl) dX6_foldedCount_14 ⟨Nat.zero_le _, Nat.zero_le _⟩ (fun H locs hP hD hS => ?_)
        have q3 := rg_X6_foldOf hC napkin
        refine z_if_eq hx hb dX6_foldedCount_17 (tgt := 23) rfl (by omega) (fun b4 => ?_) (fun b4 => ?_)
        · rw [if_pos b4] at hE
          refine z_iinc hx hb dX6_foldedCount_23 hl (k := 2) rfl (Nat.le_of_ble_eq_true rfl) (lv' := [(2, .int (iI (napkin + 1))), (0, .ref (E 2)), (1, .int (iI count))]) rfl (fun ls hl => ?_)
          refine lv_goto hx hb dX6_foldedCount_26 (tgt := 4) rfl ?_
          exact ih1 count (napkin + 1) ls _ _ (lv_sub hl [1, 2, 0] rfl) hP hD hS (by omega) (by omega) (by omega) hE
        · rw [if_neg b4] at hE
          refine z_iinc hx hb dX6_foldedCount_20 hl (k := 1) rfl (Nat.le_of_ble_eq_true rfl) (lv' := [(1, .int (iI (count + 1))), (0, .ref (E 2)), (2, .int (iI napkin))]) rfl (fun ls hl => ?_)
          refine z_iinc hx hb dX6_foldedCount_23 hl (k := 2) rfl (Nat.le_of_ble_eq_true rfl) (lv' := [(2, .int (iI (napkin + 1))), (1, .int (iI (count + 1))), (0, .ref (E 2))]) rfl (fun ls hl => ?_)
          refine lv_goto hx hb dX6_foldedCount_26 (tgt := 4) rfl ?_
          exact ih1 (count + 1) (napkin + 1) ls _ _ (lv_sub hl [2, 1, 0] rfl) hP hD hS (by omega) (by omega) (by omega) hE
  exact L1 11 (0) (0) ls _ _ (lv_sub hl [2, 1, 0] rfl) hP hD hS (by omega) (by have := rg_X6_napkins hC; omega) (by have := rg_X6_napkins hC; omega) hE

def fX6_addNapkin (M : Mem) (colour : Int) : Int × Mem := if ((10) ≤ (fX6_napkins M)) then ((fX6_napkins M), M) else ((fX6_napkins M), (fX6_setOfNapkin (mst M 0 (77) ((fX6_napkins M) + (1))) (0) (fX6_napkins M) colour))
set_option maxRecDepth 100000 in
set_option maxHeartbeats 4000000 in
theorem kX6_addNapkin (l : Launch) (D : va_G) (E : Nat → Nat) (cI cC : ClassId) (Z : State → Prop) (hZo : ∀ M : Mem, ZOk (VC E cI cC M) Z) (hZb : ZBl Z) (M : Mem) (colour : Int) (hC : CI M) (r : Int) (M' : Mem) (hE : fX6_addNapkin M colour = (r, M')) : Ci l yX6_addNapkin wsX6_addNapkin 1 23 [.ref (E 2), .int (iI colour)] D (TY cI cC) (VC E cI cC) Z M r M' := by
  refine Ci.of (cc := cX6_addNapkin) (maxL := 3) (ret := (some .int)) (by decide +kernel) rfl (Nat.le_of_ble_eq_true rfl) ?_
  intro p e s m args below meth c ls hx hb hml hr hown hts hlocks hP hK hD hZ hS hl
  have hl : lv_has ls 3 [(0, .ref (E 2)), (1, .int (iI colour))] := hl
  have S0 : CallFix p m c cX6_addNapkin 3 s args wsX6_addNapkin RX6 := ⟨hx, hb, hml, hown, hts⟩
  have hinX6 : ∀ w ∈ u_ws RX6 TX6 1, w ∈ wsX6_addNapkin := by decide +kernel
  rw [fX6_addNapkin] at hE
  refine lv_aload_n hx hb dX6_addNapkin_0 rfl (lv_at hl 0 rfl) ?_
  refine ct_Vi (VC_fix E cI cC) hZo hZb hZ S0 (kX6_napkins l D E cI cC Z hZo hZb M  (fX6_napkins M) rfl) (cwV 0 hts gX6_addNapkin_X6_napkins rfl rfl rfl (by decide +kernel) ⟨(Nat.le_of_ble_eq_true rfl), (Nat.le_of_ble_eq_true rfl)⟩) hK hP hD hS rfl rfl VC_2 rfl hl.1 rfl (Nat.le_of_ble_eq_true rfl) dX6_addNapkin_1 ⟨Nat.zero_le _, Nat.zero_le _⟩ (fun H locs hP hD hS => ?_)
  have q1 := rg_X6_napkins hC
  refine lv_istore_n hx hb dX6_addNapkin_4 rfl hl (Nat.le_of_ble_eq_true rfl) (lv' := [(2, .int (iI (fX6_napkins M))), (0, .ref (E 2)), (1, .int (iI colour))]) rfl (fun ls hl => ?_)
  refine lv_iload_n hx hb dX6_addNapkin_5 rfl (lv_at hl 0 rfl) ?_
  refine z_bipush hx hb dX6_addNapkin_6 (by decide +kernel) ?_
  refine z_icmp_ge hx hb dX6_addNapkin_8 (tgt := 28) rfl (by omega) (by omega) (fun b2 => ?_) (fun b2 => ?_)
  · rw [if_pos b2] at hE
    refine lv_iload_n hx hb dX6_addNapkin_28 rfl (lv_at hl 0 rfl) ?_
    obtain ⟨e1, e2⟩ := Prod.mk.inj hE
    subst e2
    exact ci_i hx hb hr hlocks e1 rfl hS hP dX6_addNapkin_29
  · rw [if_neg b2] at hE
    refine lv_aload_n hx hb dX6_addNapkin_11 rfl (lv_at hl 1 rfl) ?_
    refine va_get (own := RX6) (ref := "NapkinSyntax$State") (C := RX6) (T := TX6) (N := 1) hx hb hts hinX6 hown hK hP 2 VC_2 rfl 0 (Nat.le_of_ble_eq_true rfl) (hts (.fieldLink RX6 11 "NapkinSyntax$State" "cells" "[I") (by decide +kernel)) (fun _ h => h) (v := .ref (E 3)) rfl dX6_addNapkin_12 ?_
    refine z_bipush hx hb dX6_addNapkin_15 (by decide +kernel) ?_
    refine lv_iload_n hx hb dX6_addNapkin_17 rfl (lv_at hl 0 rfl) ?_
    refine z_iconst hx hb dX6_addNapkin_18 ?_
    refine z_iadd hx hb dX6_addNapkin_19 ?_
    refine z_iast hx hb hK hP hD hS 3 0 VC_3 rfl (by omega) (by omega) (by decide) dX6_addNapkin_20 VCw_0 (fun H locs hP hD hS => ?_)
    refine lv_aload_n hx hb dX6_addNapkin_21 rfl (lv_at hl 1 rfl) ?_
    refine z_iconst hx hb dX6_addNapkin_22 ?_
    refine lv_iload_n hx hb dX6_addNapkin_23 rfl (lv_at hl 0 rfl) ?_
    refine lv_iload_n hx hb dX6_addNapkin_24 rfl (lv_at hl 2 rfl) ?_
    refine ct_Vv (VC_fix E cI cC) hZo hZb hZ S0 (kX6_setOfNapkin l D E cI cC Z hZo hZb (mst M 0 (77) ((fX6_napkins M) + (1))) (0) (fX6_napkins M) colour (by omega) (by omega) (fX6_setOfNapkin (mst M 0 (77) ((fX6_napkins M) + (1))) (0) (fX6_napkins M) colour) rfl) (cwV 3 hts gX6_addNapkin_X6_setOfNapkin rfl rfl rfl (by decide +kernel) ⟨(Nat.le_of_ble_eq_true rfl), (Nat.le_of_ble_eq_true rfl)⟩) hK hP hD hS rfl rfl VC_2 rfl hl.1 rfl (Nat.le_of_ble_eq_true rfl) dX6_addNapkin_25 ⟨Nat.zero_le _, Nat.zero_le _⟩ (fun H locs hP hD hS => ?_)
    refine lv_iload_n hx hb dX6_addNapkin_28 rfl (lv_at hl 0 rfl) ?_
    obtain ⟨e1, e2⟩ := Prod.mk.inj hE
    subst e2
    exact ci_i hx hb hr hlocks e1 rfl hS hP dX6_addNapkin_29

theorem fr_fX6_addNapkin {M : Mem} (colour : Int) {r : Nat} (h0 : Nat.beq r 0 = false) : (fX6_addNapkin M colour).2 r = M r := by
  unfold fX6_addNapkin
  (repeat' with_reducible refine frite_w (fun _ => ?_) (fun _ => ?_)) <;> first | with_reducible rfl | simp only [mst_o, msf_o, mcp_o, fr_fX6_setOfNapkin, h0]

def fX6_foldTo (M : Mem) (napkin fold creases : Int) : Int × Mem := (((fX6_creasesOf M napkin) + creases), (fX6_setOfNapkin (fX6_setOfNapkin (fX6_setOfNapkin M (10) napkin fold) (20) napkin ((fX6_creasesOf M napkin) + creases)) (40) napkin ((fX6_foldingsOf (fX6_setOfNapkin (fX6_setOfNapkin M (10) napkin fold) (20) napkin ((fX6_creasesOf M napkin) + creases)) napkin) + (1))))
set_option maxRecDepth 100000 in
set_option maxHeartbeats 4000000 in
theorem kX6_foldTo (l : Launch) (D : va_G) (E : Nat → Nat) (cI cC : ClassId) (Z : State → Prop) (hZo : ∀ M : Mem, ZOk (VC E cI cC M) Z) (hZb : ZBl Z) (M : Mem) (napkin fold creases : Int) (h1 : -2147483648 ≤ napkin ∧ napkin < 2147483648) (r : Int) (M' : Mem) (hE : fX6_foldTo M napkin fold creases = (r, M')) : Ci l yX6_foldTo wsX6_foldTo 2 43 [.ref (E 2), .int (iI napkin), .int (iI fold), .int (iI creases)] D (TY cI cC) (VC E cI cC) Z M r M' := by
  refine Ci.of (cc := cX6_foldTo) (maxL := 5) (ret := (some .int)) (by decide +kernel) rfl (Nat.le_of_ble_eq_true rfl) ?_
  intro p e s m args below meth c ls hx hb hml hr hown hts hlocks hP hK hD hZ hS hl
  have hl : lv_has ls 5 [(0, .ref (E 2)), (1, .int (iI napkin)), (2, .int (iI fold)), (3, .int (iI creases))] := hl
  have S0 : CallFix p m c cX6_foldTo 5 s args wsX6_foldTo RX6 := ⟨hx, hb, hml, hown, hts⟩
  rw [fX6_foldTo] at hE
  refine lv_aload_n hx hb dX6_foldTo_0 rfl (lv_at hl 0 rfl) ?_
  refine lv_iload_n hx hb dX6_foldTo_1 rfl (lv_at hl 1 rfl) ?_
  refine ct_Vi (VC_fix E cI cC) hZo hZb hZ S0 (kX6_creasesOf l D E cI cC Z hZo hZb M napkin (by omega) (fX6_creasesOf M napkin) rfl) (cwV 1 hts gX6_foldTo_X6_creasesOf rfl rfl rfl (by decide +kernel) ⟨(Nat.le_of_ble_eq_true rfl), (Nat.le_of_ble_eq_true rfl)⟩) hK hP hD hS rfl rfl VC_2 rfl hl.1 rfl (Nat.le_of_ble_eq_true rfl) dX6_foldTo_2 ⟨Nat.zero_le _, Nat.zero_le _⟩ (fun H locs hP hD hS => ?_)
  refine lv_iload_n hx hb dX6_foldTo_5 rfl (lv_at hl 3 rfl) ?_
  refine z_iadd hx hb dX6_foldTo_6 ?_
  refine lv_istore hx hb dX6_foldTo_7 hl (Nat.le_of_ble_eq_true rfl) (lv' := [(4, .int (iI ((fX6_creasesOf M napkin) + creases))), (0, .ref (E 2)), (1, .int (iI napkin)), (2, .int (iI fold)), (3, .int (iI creases))]) rfl (fun ls hl => ?_)
  refine lv_aload_n hx hb dX6_foldTo_9 rfl (lv_at hl 1 rfl) ?_
  refine z_bipush hx hb dX6_foldTo_10 (by decide +kernel) ?_
  refine lv_iload_n hx hb dX6_foldTo_12 rfl (lv_at hl 2 rfl) ?_
  refine lv_iload_n hx hb dX6_foldTo_13 rfl (lv_at hl 3 rfl) ?_
  refine ct_Vv (VC_fix E cI cC) hZo hZb hZ S0 (kX6_setOfNapkin l D E cI cC Z hZo hZb M (10) napkin fold (by omega) (by omega) (fX6_setOfNapkin M (10) napkin fold) rfl) (cwV 3 hts gX6_foldTo_X6_setOfNapkin rfl rfl rfl (by decide +kernel) ⟨(Nat.le_of_ble_eq_true rfl), (Nat.le_of_ble_eq_true rfl)⟩) hK hP hD hS rfl rfl VC_2 rfl hl.1 rfl (Nat.le_of_ble_eq_true rfl) dX6_foldTo_14 ⟨Nat.zero_le _, Nat.zero_le _⟩ (fun H locs hP hD hS => ?_)
  refine lv_aload_n hx hb dX6_foldTo_17 rfl (lv_at hl 1 rfl) ?_
  refine z_bipush hx hb dX6_foldTo_18 (by decide +kernel) ?_
  refine lv_iload_n hx hb dX6_foldTo_20 rfl (lv_at hl 2 rfl) ?_
  refine lv_iload hx hb dX6_foldTo_21 (lv_at hl 0 rfl) ?_
  refine ct_Vv (VC_fix E cI cC) hZo hZb hZ S0 (kX6_setOfNapkin l D E cI cC Z hZo hZb (fX6_setOfNapkin M (10) napkin fold) (20) napkin ((fX6_creasesOf M napkin) + creases) (by omega) (by omega) (fX6_setOfNapkin (fX6_setOfNapkin M (10) napkin fold) (20) napkin ((fX6_creasesOf M napkin) + creases)) rfl) (cwV 3 hts gX6_foldTo_X6_setOfNapkin rfl rfl rfl (by decide +kernel) ⟨(Nat.le_of_ble_eq_true rfl), (Nat.le_of_ble_eq_true rfl)⟩) hK hP hD hS rfl rfl VC_2 rfl hl.1 rfl (Nat.le_of_ble_eq_true rfl) dX6_foldTo_23 ⟨Nat.zero_le _, Nat.zero_le _⟩ (fun H locs hP hD hS => ?_)
  refine lv_aload_n hx hb dX6_foldTo_26 rfl (lv_at hl 1 rfl) ?_
  refine z_bipush hx hb dX6_foldTo_27 (by decide +kernel) ?_
  refine lv_iload_n hx hb dX6_foldTo_29 rfl (lv_at hl 2 rfl) ?_
  refine lv_aload_n hx hb dX6_foldTo_30 rfl (lv_at hl 1 rfl) ?_
  refine lv_iload_n hx hb dX6_foldTo_31 rfl (lv_at hl 2 rfl) ?_
  refine ct_Vi (VC_fix E cI cC) hZo hZb hZ S0 (kX6_foldingsOf l D E cI cC Z hZo hZb (fX6_setOfNapkin (fX6_setOfNapkin M (10) napkin fold) (20) napkin ((fX6_creasesOf M napkin) + creases)) napkin (by omega) (fX6_foldingsOf (fX6_setOfNapkin (fX6_setOfNapkin M (10) napkin fold) (20) napkin ((fX6_creasesOf M napkin) + creases)) napkin) rfl) (cwV 1 hts gX6_foldTo_X6_foldingsOf rfl rfl rfl (by decide +kernel) ⟨(Nat.le_of_ble_eq_true rfl), (Nat.le_of_ble_eq_true rfl)⟩) hK hP hD hS rfl rfl VC_2 rfl hl.1 rfl (Nat.le_of_ble_eq_true rfl) dX6_foldTo_32 ⟨Nat.zero_le _, Nat.zero_le _⟩ (fun H locs hP hD hS => ?_)
  refine z_iconst hx hb dX6_foldTo_35 ?_
  refine z_iadd hx hb dX6_foldTo_36 ?_
  refine ct_Vv (VC_fix E cI cC) hZo hZb hZ S0 (kX6_setOfNapkin l D E cI cC Z hZo hZb (fX6_setOfNapkin (fX6_setOfNapkin M (10) napkin fold) (20) napkin ((fX6_creasesOf M napkin) + creases)) (40) napkin ((fX6_foldingsOf (fX6_setOfNapkin (fX6_setOfNapkin M (10) napkin fold) (20) napkin ((fX6_creasesOf M napkin) + creases)) napkin) + (1)) (by omega) (by omega) (fX6_setOfNapkin (fX6_setOfNapkin (fX6_setOfNapkin M (10) napkin fold) (20) napkin ((fX6_creasesOf M napkin) + creases)) (40) napkin ((fX6_foldingsOf (fX6_setOfNapkin (fX6_setOfNapkin M (10) napkin fold) (20) napkin ((fX6_creasesOf M napkin) + creases)) napkin) + (1))) rfl) (cwV 3 hts gX6_foldTo_X6_setOfNapkin rfl rfl rfl (by decide +kernel) ⟨(Nat.le_of_ble_eq_true rfl), (Nat.le_of_ble_eq_true rfl)⟩) hK hP hD hS rfl rfl VC_2 rfl hl.1 rfl (Nat.le_of_ble_eq_true rfl) dX6_foldTo_37 ⟨Nat.zero_le _, Nat.zero_le _⟩ (fun H locs hP hD hS => ?_)
  refine lv_iload hx hb dX6_foldTo_40 (lv_at hl 0 rfl) ?_
  obtain ⟨e1, e2⟩ := Prod.mk.inj hE
  subst e2
  exact ci_i hx hb hr hlocks e1 rfl hS hP dX6_foldTo_42

theorem fr_fX6_foldTo {M : Mem} (napkin fold creases : Int) {r : Nat} (h0 : Nat.beq r 0 = false) : (fX6_foldTo M napkin fold creases).2 r = M r := by
  unfold fX6_foldTo
  (repeat' with_reducible refine frite_w (fun _ => ?_) (fun _ => ?_)) <;> first | with_reducible rfl | simp only [mst_o, msf_o, mcp_o, fr_fX6_setOfNapkin, h0]

def fX6_open (M : Mem) (napkin : Int) : Int × Mem := ((fX6_foldOf M napkin), (fX6_setOfNapkin M (10) napkin (0)))
set_option maxRecDepth 100000 in
set_option maxHeartbeats 4000000 in
theorem kX6_open (l : Launch) (D : va_G) (E : Nat → Nat) (cI cC : ClassId) (Z : State → Prop) (hZo : ∀ M : Mem, ZOk (VC E cI cC M) Z) (hZb : ZBl Z) (M : Mem) (napkin : Int) (h1 : -2147483648 ≤ napkin ∧ napkin < 2147483648) (r : Int) (M' : Mem) (hE : fX6_open M napkin = (r, M')) : Ci l yX6_open wsX6_open 2 43 [.ref (E 2), .int (iI napkin)] D (TY cI cC) (VC E cI cC) Z M r M' := by
  refine Ci.of (cc := cX6_open) (maxL := 3) (ret := (some .int)) (by decide +kernel) rfl (Nat.le_of_ble_eq_true rfl) ?_
  intro p e s m args below meth c ls hx hb hml hr hown hts hlocks hP hK hD hZ hS hl
  have hl : lv_has ls 3 [(0, .ref (E 2)), (1, .int (iI napkin))] := hl
  have S0 : CallFix p m c cX6_open 3 s args wsX6_open RX6 := ⟨hx, hb, hml, hown, hts⟩
  rw [fX6_open] at hE
  refine lv_aload_n hx hb dX6_open_0 rfl (lv_at hl 0 rfl) ?_
  refine lv_iload_n hx hb dX6_open_1 rfl (lv_at hl 1 rfl) ?_
  refine ct_Vi (VC_fix E cI cC) hZo hZb hZ S0 (kX6_foldOf l D E cI cC Z hZo hZb M napkin (by omega) (fX6_foldOf M napkin) rfl) (cwV 1 hts gX6_open_X6_foldOf rfl rfl rfl (by decide +kernel) ⟨(Nat.le_of_ble_eq_true rfl), (Nat.le_of_ble_eq_true rfl)⟩) hK hP hD hS rfl rfl VC_2 rfl hl.1 rfl (Nat.le_of_ble_eq_true rfl) dX6_open_2 ⟨Nat.zero_le _, Nat.zero_le _⟩ (fun H locs hP hD hS => ?_)
  refine lv_istore_n hx hb dX6_open_5 rfl hl (Nat.le_of_ble_eq_true rfl) (lv' := [(2, .int (iI (fX6_foldOf M napkin))), (0, .ref (E 2)), (1, .int (iI napkin))]) rfl (fun ls hl => ?_)
  refine lv_aload_n hx hb dX6_open_6 rfl (lv_at hl 1 rfl) ?_
  refine z_bipush hx hb dX6_open_7 (by decide +kernel) ?_
  refine lv_iload_n hx hb dX6_open_9 rfl (lv_at hl 2 rfl) ?_
  refine z_iconst hx hb dX6_open_10 ?_
  refine ct_Vv (VC_fix E cI cC) hZo hZb hZ S0 (kX6_setOfNapkin l D E cI cC Z hZo hZb M (10) napkin (0) (by omega) (by omega) (fX6_setOfNapkin M (10) napkin (0)) rfl) (cwV 3 hts gX6_open_X6_setOfNapkin rfl rfl rfl (by decide +kernel) ⟨(Nat.le_of_ble_eq_true rfl), (Nat.le_of_ble_eq_true rfl)⟩) hK hP hD hS rfl rfl VC_2 rfl hl.1 rfl (Nat.le_of_ble_eq_true rfl) dX6_open_11 ⟨Nat.zero_le _, Nat.zero_le _⟩ (fun H locs hP hD hS => ?_)
  refine lv_iload_n hx hb dX6_open_14 rfl (lv_at hl 0 rfl) ?_
  obtain ⟨e1, e2⟩ := Prod.mk.inj hE
  subst e2
  exact ci_i hx hb hr hlocks e1 rfl hS hP dX6_open_15

theorem fr_fX6_open {M : Mem} (napkin : Int) {r : Nat} (h0 : Nat.beq r 0 = false) : (fX6_open M napkin).2 r = M r := by
  unfold fX6_open
  (repeat' with_reducible refine frite_w (fun _ => ?_) (fun _ => ?_)) <;> first | with_reducible rfl | simp only [mst_o, msf_o, mcp_o, fr_fX6_setOfNapkin, h0]

def fX6_addStains (M : Mem) (napkin much : Int) : Int × Mem := (((fX6_stainsOf M napkin) + much), (fX6_setOfNapkin M (30) napkin ((fX6_stainsOf M napkin) + much)))
set_option maxRecDepth 100000 in
set_option maxHeartbeats 4000000 in
theorem kX6_addStains (l : Launch) (D : va_G) (E : Nat → Nat) (cI cC : ClassId) (Z : State → Prop) (hZo : ∀ M : Mem, ZOk (VC E cI cC M) Z) (hZb : ZBl Z) (M : Mem) (napkin much : Int) (h1 : -2147483648 ≤ napkin ∧ napkin < 2147483648) (r : Int) (M' : Mem) (hE : fX6_addStains M napkin much = (r, M')) : Ci l yX6_addStains wsX6_addStains 2 43 [.ref (E 2), .int (iI napkin), .int (iI much)] D (TY cI cC) (VC E cI cC) Z M r M' := by
  refine Ci.of (cc := cX6_addStains) (maxL := 4) (ret := (some .int)) (by decide +kernel) rfl (Nat.le_of_ble_eq_true rfl) ?_
  intro p e s m args below meth c ls hx hb hml hr hown hts hlocks hP hK hD hZ hS hl
  have hl : lv_has ls 4 [(0, .ref (E 2)), (1, .int (iI napkin)), (2, .int (iI much))] := hl
  have S0 : CallFix p m c cX6_addStains 4 s args wsX6_addStains RX6 := ⟨hx, hb, hml, hown, hts⟩
  rw [fX6_addStains] at hE
  refine lv_aload_n hx hb dX6_addStains_0 rfl (lv_at hl 0 rfl) ?_
  refine lv_iload_n hx hb dX6_addStains_1 rfl (lv_at hl 1 rfl) ?_
  refine ct_Vi (VC_fix E cI cC) hZo hZb hZ S0 (kX6_stainsOf l D E cI cC Z hZo hZb M napkin (by omega) (fX6_stainsOf M napkin) rfl) (cwV 1 hts gX6_addStains_X6_stainsOf rfl rfl rfl (by decide +kernel) ⟨(Nat.le_of_ble_eq_true rfl), (Nat.le_of_ble_eq_true rfl)⟩) hK hP hD hS rfl rfl VC_2 rfl hl.1 rfl (Nat.le_of_ble_eq_true rfl) dX6_addStains_2 ⟨Nat.zero_le _, Nat.zero_le _⟩ (fun H locs hP hD hS => ?_)
  refine lv_iload_n hx hb dX6_addStains_5 rfl (lv_at hl 2 rfl) ?_
  refine z_iadd hx hb dX6_addStains_6 ?_
  refine lv_istore_n hx hb dX6_addStains_7 rfl hl (Nat.le_of_ble_eq_true rfl) (lv' := [(3, .int (iI ((fX6_stainsOf M napkin) + much))), (0, .ref (E 2)), (1, .int (iI napkin)), (2, .int (iI much))]) rfl (fun ls hl => ?_)
  refine lv_aload_n hx hb dX6_addStains_8 rfl (lv_at hl 1 rfl) ?_
  refine z_bipush hx hb dX6_addStains_9 (by decide +kernel) ?_
  refine lv_iload_n hx hb dX6_addStains_11 rfl (lv_at hl 2 rfl) ?_
  refine lv_iload_n hx hb dX6_addStains_12 rfl (lv_at hl 0 rfl) ?_
  refine ct_Vv (VC_fix E cI cC) hZo hZb hZ S0 (kX6_setOfNapkin l D E cI cC Z hZo hZb M (30) napkin ((fX6_stainsOf M napkin) + much) (by omega) (by omega) (fX6_setOfNapkin M (30) napkin ((fX6_stainsOf M napkin) + much)) rfl) (cwV 3 hts gX6_addStains_X6_setOfNapkin rfl rfl rfl (by decide +kernel) ⟨(Nat.le_of_ble_eq_true rfl), (Nat.le_of_ble_eq_true rfl)⟩) hK hP hD hS rfl rfl VC_2 rfl hl.1 rfl (Nat.le_of_ble_eq_true rfl) dX6_addStains_13 ⟨Nat.zero_le _, Nat.zero_le _⟩ (fun H locs hP hD hS => ?_)
  refine lv_iload_n hx hb dX6_addStains_16 rfl (lv_at hl 0 rfl) ?_
  obtain ⟨e1, e2⟩ := Prod.mk.inj hE
  subst e2
  exact ci_i hx hb hr hlocks e1 rfl hS hP dX6_addStains_17

theorem fr_fX6_addStains {M : Mem} (napkin much : Int) {r : Nat} (h0 : Nat.beq r 0 = false) : (fX6_addStains M napkin much).2 r = M r := by
  unfold fX6_addStains
  (repeat' with_reducible refine frite_w (fun _ => ?_) (fun _ => ?_)) <;> first | with_reducible rfl | simp only [mst_o, msf_o, mcp_o, fr_fX6_setOfNapkin, h0]

def fX6_clean (M : Mem) (napkin : Int) : Int × Mem := ((fX6_stainsOf M napkin), (mst (fX6_setOfNapkin (fX6_setOfNapkin M (30) napkin (0)) (10) napkin (0)) 0 (79) (((fX6_setOfNapkin (fX6_setOfNapkin M (30) napkin (0)) (10) napkin (0)) 0 (79)) + (fX6_stainsOf M napkin))))
set_option maxRecDepth 100000 in
set_option maxHeartbeats 4000000 in
theorem kX6_clean (l : Launch) (D : va_G) (E : Nat → Nat) (cI cC : ClassId) (Z : State → Prop) (hZo : ∀ M : Mem, ZOk (VC E cI cC M) Z) (hZb : ZBl Z) (M : Mem) (napkin : Int) (h1 : -2147483648 ≤ napkin ∧ napkin < 2147483648) (r : Int) (M' : Mem) (hE : fX6_clean M napkin = (r, M')) : Ci l yX6_clean wsX6_clean 2 43 [.ref (E 2), .int (iI napkin)] D (TY cI cC) (VC E cI cC) Z M r M' := by
  refine Ci.of (cc := cX6_clean) (maxL := 3) (ret := (some .int)) (by decide +kernel) rfl (Nat.le_of_ble_eq_true rfl) ?_
  intro p e s m args below meth c ls hx hb hml hr hown hts hlocks hP hK hD hZ hS hl
  have hl : lv_has ls 3 [(0, .ref (E 2)), (1, .int (iI napkin))] := hl
  have S0 : CallFix p m c cX6_clean 3 s args wsX6_clean RX6 := ⟨hx, hb, hml, hown, hts⟩
  have hinX6 : ∀ w ∈ u_ws RX6 TX6 1, w ∈ wsX6_clean := by decide +kernel
  rw [fX6_clean] at hE
  refine lv_aload_n hx hb dX6_clean_0 rfl (lv_at hl 0 rfl) ?_
  refine lv_iload_n hx hb dX6_clean_1 rfl (lv_at hl 1 rfl) ?_
  refine ct_Vi (VC_fix E cI cC) hZo hZb hZ S0 (kX6_stainsOf l D E cI cC Z hZo hZb M napkin (by omega) (fX6_stainsOf M napkin) rfl) (cwV 1 hts gX6_clean_X6_stainsOf rfl rfl rfl (by decide +kernel) ⟨(Nat.le_of_ble_eq_true rfl), (Nat.le_of_ble_eq_true rfl)⟩) hK hP hD hS rfl rfl VC_2 rfl hl.1 rfl (Nat.le_of_ble_eq_true rfl) dX6_clean_2 ⟨Nat.zero_le _, Nat.zero_le _⟩ (fun H locs hP hD hS => ?_)
  refine lv_istore_n hx hb dX6_clean_5 rfl hl (Nat.le_of_ble_eq_true rfl) (lv' := [(2, .int (iI (fX6_stainsOf M napkin))), (0, .ref (E 2)), (1, .int (iI napkin))]) rfl (fun ls hl => ?_)
  refine lv_aload_n hx hb dX6_clean_6 rfl (lv_at hl 1 rfl) ?_
  refine z_bipush hx hb dX6_clean_7 (by decide +kernel) ?_
  refine lv_iload_n hx hb dX6_clean_9 rfl (lv_at hl 2 rfl) ?_
  refine z_iconst hx hb dX6_clean_10 ?_
  refine ct_Vv (VC_fix E cI cC) hZo hZb hZ S0 (kX6_setOfNapkin l D E cI cC Z hZo hZb M (30) napkin (0) (by omega) (by omega) (fX6_setOfNapkin M (30) napkin (0)) rfl) (cwV 3 hts gX6_clean_X6_setOfNapkin rfl rfl rfl (by decide +kernel) ⟨(Nat.le_of_ble_eq_true rfl), (Nat.le_of_ble_eq_true rfl)⟩) hK hP hD hS rfl rfl VC_2 rfl hl.1 rfl (Nat.le_of_ble_eq_true rfl) dX6_clean_11 ⟨Nat.zero_le _, Nat.zero_le _⟩ (fun H locs hP hD hS => ?_)
  refine lv_aload_n hx hb dX6_clean_14 rfl (lv_at hl 1 rfl) ?_
  refine z_bipush hx hb dX6_clean_15 (by decide +kernel) ?_
  refine lv_iload_n hx hb dX6_clean_17 rfl (lv_at hl 2 rfl) ?_
  refine z_iconst hx hb dX6_clean_18 ?_
  refine ct_Vv (VC_fix E cI cC) hZo hZb hZ S0 (kX6_setOfNapkin l D E cI cC Z hZo hZb (fX6_setOfNapkin M (30) napkin (0)) (10) napkin (0) (by omega) (by omega) (fX6_setOfNapkin (fX6_setOfNapkin M (30) napkin (0)) (10) napkin (0)) rfl) (cwV 3 hts gX6_clean_X6_setOfNapkin rfl rfl rfl (by decide +kernel) ⟨(Nat.le_of_ble_eq_true rfl), (Nat.le_of_ble_eq_true rfl)⟩) hK hP hD hS rfl rfl VC_2 rfl hl.1 rfl (Nat.le_of_ble_eq_true rfl) dX6_clean_19 ⟨Nat.zero_le _, Nat.zero_le _⟩ (fun H locs hP hD hS => ?_)
  refine lv_aload_n hx hb dX6_clean_22 rfl (lv_at hl 1 rfl) ?_
  refine va_get (own := RX6) (ref := "NapkinSyntax$State") (C := RX6) (T := TX6) (N := 1) hx hb hts hinX6 hown hK hP 2 VC_2 rfl 0 (Nat.le_of_ble_eq_true rfl) (hts (.fieldLink RX6 11 "NapkinSyntax$State" "cells" "[I") (by decide +kernel)) (fun _ h => h) (v := .ref (E 3)) rfl dX6_clean_23 ?_
  refine z_bipush hx hb dX6_clean_26 (by decide +kernel) ?_
  refine lv_dup2_11 hx hb dX6_clean_28 rfl rfl ?_
  refine z_iald hx hb hK hP 3 0 VC_3 rfl (by omega) (by omega) (by decide) dX6_clean_29 ?_
  refine lv_iload_n hx hb dX6_clean_30 rfl (lv_at hl 0 rfl) ?_
  refine z_iadd hx hb dX6_clean_31 ?_
  refine z_iast hx hb hK hP hD hS 3 0 VC_3 rfl (by omega) (by omega) (by decide) dX6_clean_32 VCw_0 (fun H locs hP hD hS => ?_)
  refine lv_iload_n hx hb dX6_clean_33 rfl (lv_at hl 0 rfl) ?_
  obtain ⟨e1, e2⟩ := Prod.mk.inj hE
  subst e2
  exact ci_i hx hb hr hlocks e1 rfl hS hP dX6_clean_34

theorem fr_fX6_clean {M : Mem} (napkin : Int) {r : Nat} (h0 : Nat.beq r 0 = false) : (fX6_clean M napkin).2 r = M r := by
  unfold fX6_clean
  (repeat' with_reducible refine frite_w (fun _ => ?_) (fun _ => ?_)) <;> first | with_reducible rfl | simp only [mst_o, msf_o, mcp_o, fr_fX6_setOfNapkin, h0]

def fX6_insert_L1 (M : Mem) (table place napkin : Int) : Nat → Mem → Int → (Mem)
  | 0, Mx, _ => Mx
  | k1 + 1, Mx, later => if (later ≤ place) then (fX6_setOfTable (fX6_setSeat Mx table place napkin) (68) table ((fX6_laidOn M table) + (1))) else fX6_insert_L1 M table place napkin k1 (fX6_setSeat Mx table later (fX6_seatedAt Mx table (later - (1)))) (later + (-1))
def fX6_insert (M : Mem) (table place napkin : Int) : Mem := fX6_insert_L1 M table place napkin 7 M (fX6_laidOn M table)
set_option maxRecDepth 100000 in
set_option maxHeartbeats 4000000 in
theorem kX6_insert (l : Launch) (D : va_G) (E : Nat → Nat) (cI cC : ClassId) (Z : State → Prop) (hZo : ∀ M : Mem, ZOk (VC E cI cC M) Z) (hZb : ZBl Z) (M : Mem) (table place napkin : Int) (h1 : -2147483648 ≤ table ∧ table < 2147483648) (h2 : 0 ≤ place ∧ place ≤ 6) (h3 : -1 ≤ fX6_laidOn M table ∧ fX6_laidOn M table ≤ 6) (M' : Mem) (hE : fX6_insert M table place napkin = M') : Cv l yX6_insert wsX6_insert 2 44 [.ref (E 2), .int (iI table), .int (iI place), .int (iI napkin)] D (TY cI cC) (VC E cI cC) Z M M' := by
  refine Cv.of (cc := cX6_insert) (maxL := 6) (ret := none) (by decide +kernel) rfl (Nat.le_of_ble_eq_true rfl) ?_
  intro p e s m args below meth c ls hx hb hml hr hown hts hlocks hP hK hD hZ hS hl
  have hl : lv_has ls 6 [(0, .ref (E 2)), (1, .int (iI table)), (2, .int (iI place)), (3, .int (iI napkin))] := hl
  have S0 : CallFix p m c cX6_insert 6 s args wsX6_insert RX6 := ⟨hx, hb, hml, hown, hts⟩
  rw [fX6_insert] at hE
  refine lv_aload_n hx hb dX6_insert_0 rfl (lv_at hl 0 rfl) ?_
  refine lv_iload_n hx hb dX6_insert_1 rfl (lv_at hl 1 rfl) ?_
  refine ct_Vi (VC_fix E cI cC) hZo hZb hZ S0 (kX6_laidOn l D E cI cC Z hZo hZb M table (by omega) (fX6_laidOn M table) rfl) (cwV 1 hts gX6_insert_X6_laidOn rfl rfl rfl (by decide +kernel) ⟨(Nat.le_of_ble_eq_true rfl), (Nat.le_of_ble_eq_true rfl)⟩) hK hP hD hS rfl rfl VC_2 rfl hl.1 rfl (Nat.le_of_ble_eq_true rfl) dX6_insert_2 ⟨Nat.zero_le _, Nat.zero_le _⟩ (fun H locs hP hD hS => ?_)
  refine lv_istore hx hb dX6_insert_5 hl (Nat.le_of_ble_eq_true rfl) (lv' := [(4, .int (iI (fX6_laidOn M table))), (0, .ref (E 2)), (1, .int (iI table)), (2, .int (iI place)), (3, .int (iI napkin))]) rfl (fun ls hl => ?_)
  refine lv_iload hx hb dX6_insert_7 (lv_at hl 0 rfl) ?_
  refine lv_istore hx hb dX6_insert_9 hl (Nat.le_of_ble_eq_true rfl) (lv' := [(5, .int (iI (fX6_laidOn M table))), (4, .int (iI (fX6_laidOn M table))), (0, .ref (E 2)), (1, .int (iI table)), (2, .int (iI place)), (3, .int (iI napkin))]) rfl (fun ls hl => ?_)
  have L1 : ∀ (k1 : Nat) (Mx : Mem) (later : Int) (ls : Array Slot) (H : Heap) (locs : List Loc), lv_has ls 6 [(0, .ref (E 2)), (1, .int (iI table)), (2, .int (iI place)), (3, .int (iI napkin)), (4, .int (iI (fX6_laidOn M table))), (5, .int (iI later))] → va_P D vwCl (VC E cI cC Mx) H → va_D (wA (VC E cI cC M)) (VC E cI cC Mx) → va_S (wA (VC E cI cC M)) s.heap H locs → (0 ≤ later ∨ later ≤ place) → (later ≤ 6) → (-1 ≤ later) → (later - place < (k1 : Int) ∧ 0 < (k1 : Int)) → fX6_insert_L1 M table place napkin k1 Mx later = M' → W p l e (zRm 2 44) s m args below meth c H locs 0 0 (MQ below (cvQ D (VC E cI cC) M M') args s 0 0 (wA (VC E cI cC M))) (F0 m 11 ls []) := by
    intro k1
    induction k1 with
    | zero => intro Mx later ls H locs hl hP hD hS i1 i2 i4 i3 hE; exfalso; omega
    | succ k1 ih1 =>
      intro Mx later ls H locs hl hP hD hS i1 i2 i4 i3 hE
      rw [fX6_insert_L1] at hE
      refine lv_iload hx hb dX6_insert_11 (lv_at hl 5 rfl) ?_
      refine lv_iload_n hx hb dX6_insert_13 rfl (lv_at hl 2 rfl) ?_
      refine z_icmp_le hx hb dX6_insert_14 (tgt := 39) rfl (by omega) (by omega) (fun b1 => ?_) (fun b1 => ?_)
      · rw [if_pos b1] at hE
        refine lv_aload_n hx hb dX6_insert_39 rfl (lv_at hl 0 rfl) ?_
        refine lv_iload_n hx hb dX6_insert_40 rfl (lv_at hl 1 rfl) ?_
        refine lv_iload_n hx hb dX6_insert_41 rfl (lv_at hl 2 rfl) ?_
        refine lv_iload_n hx hb dX6_insert_42 rfl (lv_at hl 3 rfl) ?_
        refine ct_Vv (VC_fix E cI cC) hZo hZb hZ S0 (kX6_setSeat l D E cI cC Z hZo hZb Mx table place napkin (by omega) (by omega) (fX6_setSeat Mx table place napkin) rfl) (cwV 3 hts gX6_insert_X6_setSeat rfl rfl rfl (by decide +kernel) ⟨(Nat.le_of_ble_eq_true rfl), (Nat.le_of_ble_eq_true rfl)⟩) hK hP hD hS rfl rfl VC_2 rfl hl.1 rfl (Nat.le_of_ble_eq_true rfl) dX6_insert_43 ⟨Nat.zero_le _, Nat.zero_le _⟩ (fun H locs hP hD hS => ?_)
        refine lv_aload_n hx hb dX6_insert_46 rfl (lv_at hl 0 rfl) ?_
        refine z_bipush hx hb dX6_insert_47 (by decide +kernel) ?_
        refine lv_iload_n hx hb dX6_insert_49 rfl (lv_at hl 1 rfl) ?_
        refine lv_iload hx hb dX6_insert_50 (lv_at hl 4 rfl) ?_
        refine z_iconst hx hb dX6_insert_52 ?_
        refine z_iadd hx hb dX6_insert_53 ?_
        refine ct_Vv (VC_fix E cI cC) hZo hZb hZ S0 (kX6_setOfTable l D E cI cC Z hZo hZb (fX6_setSeat Mx table place napkin) (68) table ((fX6_laidOn M table) + (1)) (by omega) (by omega) (fX6_setOfTable (fX6_setSeat Mx table place napkin) (68) table ((fX6_laidOn M table) + (1))) rfl) (cwV 3 hts gX6_insert_X6_setOfTable rfl rfl rfl (by decide +kernel) ⟨(Nat.le_of_ble_eq_true rfl), (Nat.le_of_ble_eq_true rfl)⟩) hK hP hD hS rfl rfl VC_2 rfl hl.1 rfl (Nat.le_of_ble_eq_true rfl) dX6_insert_54 ⟨Nat.zero_le _, Nat.zero_le _⟩ (fun H locs hP hD hS => ?_)
        subst hE
        exact cv_v hx hb hr hlocks hS hP dX6_insert_57
      · rw [if_neg b1] at hE
        refine lv_aload_n hx hb dX6_insert_17 rfl (lv_at hl 0 rfl) ?_
        refine lv_iload_n hx hb dX6_insert_18 rfl (lv_at hl 1 rfl) ?_
        refine lv_iload hx hb dX6_insert_19 (lv_at hl 5 rfl) ?_
        refine lv_aload_n hx hb dX6_insert_21 rfl (lv_at hl 0 rfl) ?_
        refine lv_iload_n hx hb dX6_insert_22 rfl (lv_at hl 1 rfl) ?_
        refine lv_iload hx hb dX6_insert_23 (lv_at hl 5 rfl) ?_
        refine z_iconst hx hb dX6_insert_25 ?_
        refine z_isub hx hb dX6_insert_26 ?_
        refine ct_Vi (VC_fix E cI cC) hZo hZb hZ S0 (kX6_seatedAt l D E cI cC Z hZo hZb Mx table (later - (1)) (by omega) (by omega) (fX6_seatedAt Mx table (later - (1))) rfl) (cwV 2 hts gX6_insert_X6_seatedAt rfl rfl rfl (by decide +kernel) ⟨(Nat.le_of_ble_eq_true rfl), (Nat.le_of_ble_eq_true rfl)⟩) hK hP hD hS rfl rfl VC_2 rfl hl.1 rfl (Nat.le_of_ble_eq_true rfl) dX6_insert_27 ⟨Nat.zero_le _, Nat.zero_le _⟩ (fun H locs hP hD hS => ?_)
        refine ct_Vv (VC_fix E cI cC) hZo hZb hZ S0 (kX6_setSeat l D E cI cC Z hZo hZb Mx table later (fX6_seatedAt Mx table (later - (1))) (by omega) (by omega) (fX6_setSeat Mx table later (fX6_seatedAt Mx table (later - (1)))) rfl) (cwV 3 hts gX6_insert_X6_setSeat rfl rfl rfl (by decide +kernel) ⟨(Nat.le_of_ble_eq_true rfl), (Nat.le_of_ble_eq_true rfl)⟩) hK hP hD hS rfl rfl VC_2 rfl hl.1 rfl (Nat.le_of_ble_eq_true rfl) dX6_insert_30 ⟨Nat.zero_le _, Nat.zero_le _⟩ (fun H locs hP hD hS => ?_)
        refine z_iinc hx hb dX6_insert_33 hl (k := 5) rfl (Nat.le_of_ble_eq_true rfl) (lv' := [(5, .int (iI (later + (-1)))), (0, .ref (E 2)), (1, .int (iI table)), (2, .int (iI place)), (3, .int (iI napkin)), (4, .int (iI (fX6_laidOn M table)))]) rfl (fun ls hl => ?_)
        refine lv_goto hx hb dX6_insert_36 (tgt := 11) rfl ?_
        exact ih1 (fX6_setSeat Mx table later (fX6_seatedAt Mx table (later - (1)))) (later + (-1)) ls _ _ (lv_sub hl [1, 2, 3, 4, 5, 0] rfl) hP hD hS (by omega) (by omega) (by omega) (by omega) hE
  exact L1 7 M (fX6_laidOn M table) ls _ _ (lv_sub hl [2, 3, 4, 5, 1, 0] rfl) hP hD hS (by omega) (by omega) (by omega) (by omega) hE

theorem fr_fX6_insert_L1 (M : Mem) (table place napkin : Int) {r : Nat} (h0 : Nat.beq r 0 = false) : ∀ (k : Nat) (Mx : Mem) (later : Int), (fX6_insert_L1 M table place napkin k Mx later) r = Mx r := by
  intro k
  induction k with
  | zero => intros; rfl
  | succ k ih =>
    intro Mx later
    rw [fX6_insert_L1]
    (repeat' with_reducible refine frite_v (fun _ => ?_) (fun _ => ?_)) <;> first | with_reducible rfl | simp only [ih, mst_o, msf_o, mcp_o, fr_fX6_setOfTable, fr_fX6_setSeat, h0]
theorem fr_fX6_insert {M : Mem} (table place napkin : Int) {r : Nat} (h0 : Nat.beq r 0 = false) : (fX6_insert M table place napkin) r = M r := by
  unfold fX6_insert
  (repeat' with_reducible refine frite_v (fun _ => ?_) (fun _ => ?_)) <;> first | with_reducible rfl | simp only [mst_o, msf_o, mcp_o, fr_fX6_setOfTable, fr_fX6_setSeat, h0, fr_fX6_insert_L1]

def fX6_removeAt_L1 (M : Mem) (table place : Int) : Nat → Mem → Int → (Mem)
  | 0, Mx, _ => Mx
  | k1 + 1, Mx, later => if ((fX6_laidOn M table) ≤ later) then (fX6_setOfTable Mx (68) table ((fX6_laidOn M table) - (1))) else fX6_removeAt_L1 M table place k1 (fX6_setSeat Mx table (later - (1)) (fX6_seatedAt Mx table later)) (later + 1)
def fX6_removeAt (M : Mem) (table place : Int) : Mem := fX6_removeAt_L1 M table place 8 M (place + (1))
set_option maxRecDepth 100000 in
set_option maxHeartbeats 4000000 in
theorem kX6_removeAt (l : Launch) (D : va_G) (E : Nat → Nat) (cI cC : ClassId) (Z : State → Prop) (hZo : ∀ M : Mem, ZOk (VC E cI cC M) Z) (hZb : ZBl Z) (M : Mem) (table place : Int) (h1 : -2147483648 ≤ table ∧ table < 2147483648) (h2 : -1 ≤ place ∧ place ≤ 5) (h3 : -1 ≤ fX6_laidOn M table ∧ fX6_laidOn M table ≤ 6) (M' : Mem) (hE : fX6_removeAt M table place = M') : Cv l yX6_removeAt wsX6_removeAt 2 44 [.ref (E 2), .int (iI table), .int (iI place)] D (TY cI cC) (VC E cI cC) Z M M' := by
  refine Cv.of (cc := cX6_removeAt) (maxL := 5) (ret := none) (by decide +kernel) rfl (Nat.le_of_ble_eq_true rfl) ?_
  intro p e s m args below meth c ls hx hb hml hr hown hts hlocks hP hK hD hZ hS hl
  have hl : lv_has ls 5 [(0, .ref (E 2)), (1, .int (iI table)), (2, .int (iI place))] := hl
  have S0 : CallFix p m c cX6_removeAt 5 s args wsX6_removeAt RX6 := ⟨hx, hb, hml, hown, hts⟩
  rw [fX6_removeAt] at hE
  refine lv_aload_n hx hb dX6_removeAt_0 rfl (lv_at hl 0 rfl) ?_
  refine lv_iload_n hx hb dX6_removeAt_1 rfl (lv_at hl 1 rfl) ?_
  refine ct_Vi (VC_fix E cI cC) hZo hZb hZ S0 (kX6_laidOn l D E cI cC Z hZo hZb M table (by omega) (fX6_laidOn M table) rfl) (cwV 1 hts gX6_removeAt_X6_laidOn rfl rfl rfl (by decide +kernel) ⟨(Nat.le_of_ble_eq_true rfl), (Nat.le_of_ble_eq_true rfl)⟩) hK hP hD hS rfl rfl VC_2 rfl hl.1 rfl (Nat.le_of_ble_eq_true rfl) dX6_removeAt_2 ⟨Nat.zero_le _, Nat.zero_le _⟩ (fun H locs hP hD hS => ?_)
  refine lv_istore_n hx hb dX6_removeAt_5 rfl hl (Nat.le_of_ble_eq_true rfl) (lv' := [(3, .int (iI (fX6_laidOn M table))), (0, .ref (E 2)), (1, .int (iI table)), (2, .int (iI place))]) rfl (fun ls hl => ?_)
  refine lv_iload_n hx hb dX6_removeAt_6 rfl (lv_at hl 3 rfl) ?_
  refine z_iconst hx hb dX6_removeAt_7 ?_
  refine z_iadd hx hb dX6_removeAt_8 ?_
  refine lv_istore hx hb dX6_removeAt_9 hl (Nat.le_of_ble_eq_true rfl) (lv' := [(4, .int (iI (place + (1)))), (3, .int (iI (fX6_laidOn M table))), (0, .ref (E 2)), (1, .int (iI table)), (2, .int (iI place))]) rfl (fun ls hl => ?_)
  have L1 : ∀ (k1 : Nat) (Mx : Mem) (later : Int) (ls : Array Slot) (H : Heap) (locs : List Loc), lv_has ls 5 [(0, .ref (E 2)), (1, .int (iI table)), (2, .int (iI place)), (3, .int (iI (fX6_laidOn M table))), (4, .int (iI later))] → va_P D vwCl (VC E cI cC Mx) H → va_D (wA (VC E cI cC M)) (VC E cI cC Mx) → va_S (wA (VC E cI cC M)) s.heap H locs → (0 ≤ later) → (later ≤ 6) → (fX6_laidOn M table - later < (k1 : Int) ∧ 0 < (k1 : Int)) → fX6_removeAt_L1 M table place k1 Mx later = M' → W p l e (zRm 2 44) s m args below meth c H locs 0 0 (MQ below (cvQ D (VC E cI cC) M M') args s 0 0 (wA (VC E cI cC M))) (F0 m 11 ls []) := by
    intro k1
    induction k1 with
    | zero => intro Mx later ls H locs hl hP hD hS i1 i2 i3 hE; exfalso; omega
    | succ k1 ih1 =>
      intro Mx later ls H locs hl hP hD hS i1 i2 i3 hE
      rw [fX6_removeAt_L1] at hE
      refine lv_iload hx hb dX6_removeAt_11 (lv_at hl 4 rfl) ?_
      refine lv_iload_n hx hb dX6_removeAt_13 rfl (lv_at hl 3 rfl) ?_
      refine z_icmp_ge hx hb dX6_removeAt_14 (tgt := 39) rfl (by omega) (by omega) (fun b1 => ?_) (fun b1 => ?_)
      · rw [if_pos b1] at hE
        refine lv_aload_n hx hb dX6_removeAt_39 rfl (lv_at hl 0 rfl) ?_
        refine z_bipush hx hb dX6_removeAt_40 (by decide +kernel) ?_
        refine lv_iload_n hx hb dX6_removeAt_42 rfl (lv_at hl 1 rfl) ?_
        refine lv_iload_n hx hb dX6_removeAt_43 rfl (lv_at hl 3 rfl) ?_
        refine z_iconst hx hb dX6_removeAt_44 ?_
        refine z_isub hx hb dX6_removeAt_45 ?_
        refine ct_Vv (VC_fix E cI cC) hZo hZb hZ S0 (kX6_setOfTable l D E cI cC Z hZo hZb Mx (68) table ((fX6_laidOn M table) - (1)) (by omega) (by omega) (fX6_setOfTable Mx (68) table ((fX6_laidOn M table) - (1))) rfl) (cwV 3 hts gX6_removeAt_X6_setOfTable rfl rfl rfl (by decide +kernel) ⟨(Nat.le_of_ble_eq_true rfl), (Nat.le_of_ble_eq_true rfl)⟩) hK hP hD hS rfl rfl VC_2 rfl hl.1 rfl (Nat.le_of_ble_eq_true rfl) dX6_removeAt_46 ⟨Nat.zero_le _, Nat.zero_le _⟩ (fun H locs hP hD hS => ?_)
        subst hE
        exact cv_v hx hb hr hlocks hS hP dX6_removeAt_49
      · rw [if_neg b1] at hE
        refine lv_aload_n hx hb dX6_removeAt_17 rfl (lv_at hl 0 rfl) ?_
        refine lv_iload_n hx hb dX6_removeAt_18 rfl (lv_at hl 1 rfl) ?_
        refine lv_iload hx hb dX6_removeAt_19 (lv_at hl 4 rfl) ?_
        refine z_iconst hx hb dX6_removeAt_21 ?_
        refine z_isub hx hb dX6_removeAt_22 ?_
        refine lv_aload_n hx hb dX6_removeAt_23 rfl (lv_at hl 0 rfl) ?_
        refine lv_iload_n hx hb dX6_removeAt_24 rfl (lv_at hl 1 rfl) ?_
        refine lv_iload hx hb dX6_removeAt_25 (lv_at hl 4 rfl) ?_
        refine ct_Vi (VC_fix E cI cC) hZo hZb hZ S0 (kX6_seatedAt l D E cI cC Z hZo hZb Mx table later (by omega) (by omega) (fX6_seatedAt Mx table later) rfl) (cwV 2 hts gX6_removeAt_X6_seatedAt rfl rfl rfl (by decide +kernel) ⟨(Nat.le_of_ble_eq_true rfl), (Nat.le_of_ble_eq_true rfl)⟩) hK hP hD hS rfl rfl VC_2 rfl hl.1 rfl (Nat.le_of_ble_eq_true rfl) dX6_removeAt_27 ⟨Nat.zero_le _, Nat.zero_le _⟩ (fun H locs hP hD hS => ?_)
        refine ct_Vv (VC_fix E cI cC) hZo hZb hZ S0 (kX6_setSeat l D E cI cC Z hZo hZb Mx table (later - (1)) (fX6_seatedAt Mx table later) (by omega) (by omega) (fX6_setSeat Mx table (later - (1)) (fX6_seatedAt Mx table later)) rfl) (cwV 3 hts gX6_removeAt_X6_setSeat rfl rfl rfl (by decide +kernel) ⟨(Nat.le_of_ble_eq_true rfl), (Nat.le_of_ble_eq_true rfl)⟩) hK hP hD hS rfl rfl VC_2 rfl hl.1 rfl (Nat.le_of_ble_eq_true rfl) dX6_removeAt_30 ⟨Nat.zero_le _, Nat.zero_le _⟩ (fun H locs hP hD hS => ?_)
        refine z_iinc hx hb dX6_removeAt_33 hl (k := 4) rfl (Nat.le_of_ble_eq_true rfl) (lv' := [(4, .int (iI (later + 1))), (0, .ref (E 2)), (1, .int (iI table)), (2, .int (iI place)), (3, .int (iI (fX6_laidOn M table)))]) rfl (fun ls hl => ?_)
        refine lv_goto hx hb dX6_removeAt_36 (tgt := 11) rfl ?_
        exact ih1 (fX6_setSeat Mx table (later - (1)) (fX6_seatedAt Mx table later)) (later + 1) ls _ _ (lv_sub hl [1, 2, 3, 4, 0] rfl) hP hD hS (by omega) (by omega) (by omega) hE
  exact L1 8 M (place + (1)) ls _ _ (lv_sub hl [2, 3, 4, 1, 0] rfl) hP hD hS (by omega) (by omega) (by omega) hE

theorem fr_fX6_removeAt_L1 (M : Mem) (table place : Int) {r : Nat} (h0 : Nat.beq r 0 = false) : ∀ (k : Nat) (Mx : Mem) (later : Int), (fX6_removeAt_L1 M table place k Mx later) r = Mx r := by
  intro k
  induction k with
  | zero => intros; rfl
  | succ k ih =>
    intro Mx later
    rw [fX6_removeAt_L1]
    (repeat' with_reducible refine frite_v (fun _ => ?_) (fun _ => ?_)) <;> first | with_reducible rfl | simp only [ih, mst_o, msf_o, mcp_o, fr_fX6_setOfTable, fr_fX6_setSeat, h0]
theorem fr_fX6_removeAt {M : Mem} (table place : Int) {r : Nat} (h0 : Nat.beq r 0 = false) : (fX6_removeAt M table place) r = M r := by
  unfold fX6_removeAt
  (repeat' with_reducible refine frite_v (fun _ => ?_) (fun _ => ?_)) <;> first | with_reducible rfl | simp only [mst_o, msf_o, mcp_o, fr_fX6_setOfTable, fr_fX6_setSeat, h0, fr_fX6_removeAt_L1]


theorem laid_set (M : Mem) (t v : Int) : fX6_laidOn (fX6_setOfTable M 68 t v) t = (if t < 0 then 0 else if 3 ≤ t then 0 else v) := by
  unfold fX6_laidOn fX6_ofTable fX6_setOfTable
  (repeat' split) <;> first | rfl | omega | (simp [mst, up])
theorem laid_removeAt_L (M : Mem) (t p : Int) (h : fX6_laidOn M t ≤ 6) : ∀ (k : Nat) (Mx : Mem) (s : Int), fX6_laidOn M t - s < k → 0 < (k : Int) → ∃ My : Mem, fX6_removeAt_L1 M t p k Mx s = fX6_setOfTable My 68 t (fX6_laidOn M t - 1) := by
  intro k
  induction k with
  | zero => intro Mx s h1 h2; exfalso; omega
  | succ k ih =>
    intro Mx s h1 h2
    rw [fX6_removeAt_L1]
    split
    · exact ⟨Mx, rfl⟩
    · exact ih _ _ (by omega) (by omega)
theorem laid_removeAt {M : Mem} {t p : Int} (hp : -1 ≤ p) (h : 0 ≤ fX6_laidOn M t ∧ fX6_laidOn M t ≤ 6) : -1 ≤ fX6_laidOn (fX6_removeAt M t p) t ∧ fX6_laidOn (fX6_removeAt M t p) t ≤ 6 := by
  obtain ⟨My, e⟩ := laid_removeAt_L M t p h.2 8 M (p + 1) (by omega) (by omega)
  have e2 : fX6_removeAt M t p = fX6_setOfTable My 68 t (fX6_laidOn M t - 1) := e
  rw [e2, laid_set]
  (repeat' split) <;> omega

def fX6_addLast (M : Mem) (napkin table : Int) : Int × Mem := ((fX6_laidOn M table), (fX6_insert M table (fX6_laidOn M table) napkin))
set_option maxRecDepth 100000 in
set_option maxHeartbeats 4000000 in
theorem kX6_addLast (l : Launch) (D : va_G) (E : Nat → Nat) (cI cC : ClassId) (Z : State → Prop) (hZo : ∀ M : Mem, ZOk (VC E cI cC M) Z) (hZb : ZBl Z) (M : Mem) (napkin table : Int) (h1 : -2147483648 ≤ table ∧ table < 2147483648) (hC : CI M) (r : Int) (M' : Mem) (hE : fX6_addLast M napkin table = (r, M')) : Ci l yX6_addLast wsX6_addLast 3 69 [.ref (E 2), .int (iI napkin), .int (iI table)] D (TY cI cC) (VC E cI cC) Z M r M' := by
  refine Ci.of (cc := cX6_addLast) (maxL := 4) (ret := (some .int)) (by decide +kernel) rfl (Nat.le_of_ble_eq_true rfl) ?_
  intro p e s m args below meth c ls hx hb hml hr hown hts hlocks hP hK hD hZ hS hl
  have hl : lv_has ls 4 [(0, .ref (E 2)), (1, .int (iI napkin)), (2, .int (iI table))] := hl
  have S0 : CallFix p m c cX6_addLast 4 s args wsX6_addLast RX6 := ⟨hx, hb, hml, hown, hts⟩
  rw [fX6_addLast] at hE
  refine lv_aload_n hx hb dX6_addLast_0 rfl (lv_at hl 0 rfl) ?_
  refine lv_iload_n hx hb dX6_addLast_1 rfl (lv_at hl 2 rfl) ?_
  refine ct_Vi (VC_fix E cI cC) hZo hZb hZ S0 (kX6_laidOn l D E cI cC Z hZo hZb M table (by omega) (fX6_laidOn M table) rfl) (cwV 1 hts gX6_addLast_X6_laidOn rfl rfl rfl (by decide +kernel) ⟨(Nat.le_of_ble_eq_true rfl), (Nat.le_of_ble_eq_true rfl)⟩) hK hP hD hS rfl rfl VC_2 rfl hl.1 rfl (Nat.le_of_ble_eq_true rfl) dX6_addLast_2 ⟨Nat.zero_le _, Nat.zero_le _⟩ (fun H locs hP hD hS => ?_)
  have q1 := rg_X6_laidOn hC table
  refine lv_istore_n hx hb dX6_addLast_5 rfl hl (Nat.le_of_ble_eq_true rfl) (lv' := [(3, .int (iI (fX6_laidOn M table))), (0, .ref (E 2)), (1, .int (iI napkin)), (2, .int (iI table))]) rfl (fun ls hl => ?_)
  refine lv_aload_n hx hb dX6_addLast_6 rfl (lv_at hl 1 rfl) ?_
  refine lv_iload_n hx hb dX6_addLast_7 rfl (lv_at hl 3 rfl) ?_
  refine lv_iload_n hx hb dX6_addLast_8 rfl (lv_at hl 0 rfl) ?_
  refine lv_iload_n hx hb dX6_addLast_9 rfl (lv_at hl 2 rfl) ?_
  refine ct_Vv (VC_fix E cI cC) hZo hZb hZ S0 (kX6_insert l D E cI cC Z hZo hZb M table (fX6_laidOn M table) napkin (by omega) (by omega) (by omega) (fX6_insert M table (fX6_laidOn M table) napkin) rfl) (cwV 3 hts gX6_addLast_X6_insert rfl rfl rfl (by decide +kernel) ⟨(Nat.le_of_ble_eq_true rfl), (Nat.le_of_ble_eq_true rfl)⟩) hK hP hD hS rfl rfl VC_2 rfl hl.1 rfl (Nat.le_of_ble_eq_true rfl) dX6_addLast_10 ⟨Nat.zero_le _, Nat.zero_le _⟩ (fun H locs hP hD hS => ?_)
  refine lv_iload_n hx hb dX6_addLast_13 rfl (lv_at hl 0 rfl) ?_
  obtain ⟨e1, e2⟩ := Prod.mk.inj hE
  subst e2
  exact ci_i hx hb hr hlocks e1 rfl hS hP dX6_addLast_14

theorem fr_fX6_addLast {M : Mem} (napkin table : Int) {r : Nat} (h0 : Nat.beq r 0 = false) : (fX6_addLast M napkin table).2 r = M r := by
  unfold fX6_addLast
  (repeat' with_reducible refine frite_w (fun _ => ?_) (fun _ => ?_)) <;> first | with_reducible rfl | simp only [mst_o, msf_o, mcp_o, fr_fX6_insert, h0]

def fX6_remove (M : Mem) (napkin : Int) : Int × Mem := ((fX6_placeUnder M napkin), (fX6_removeAt M (fX6_tableUnder M napkin) (fX6_placeUnder M napkin)))
set_option maxRecDepth 100000 in
set_option maxHeartbeats 4000000 in
theorem kX6_remove (l : Launch) (D : va_G) (E : Nat → Nat) (cI cC : ClassId) (Z : State → Prop) (hZo : ∀ M : Mem, ZOk (VC E cI cC M) Z) (hZb : ZBl Z) (M : Mem) (napkin : Int) (h1 : -2147483648 ≤ napkin ∧ napkin < 2147483648) (hC : CI M) (r : Int) (M' : Mem) (hE : fX6_remove M napkin = (r, M')) : Ci l yX6_remove wsX6_remove 3 68 [.ref (E 2), .int (iI napkin)] D (TY cI cC) (VC E cI cC) Z M r M' := by
  refine Ci.of (cc := cX6_remove) (maxL := 3) (ret := (some .int)) (by decide +kernel) rfl (Nat.le_of_ble_eq_true rfl) ?_
  intro p e s m args below meth c ls hx hb hml hr hown hts hlocks hP hK hD hZ hS hl
  have hl : lv_has ls 3 [(0, .ref (E 2)), (1, .int (iI napkin))] := hl
  have S0 : CallFix p m c cX6_remove 3 s args wsX6_remove RX6 := ⟨hx, hb, hml, hown, hts⟩
  rw [fX6_remove] at hE
  refine lv_aload_n hx hb dX6_remove_0 rfl (lv_at hl 0 rfl) ?_
  refine lv_iload_n hx hb dX6_remove_1 rfl (lv_at hl 1 rfl) ?_
  refine ct_Vi (VC_fix E cI cC) hZo hZb hZ S0 (kX6_placeUnder l D E cI cC Z hZo hZb M napkin (by omega) hC (fX6_placeUnder M napkin) rfl) (cwV 1 hts gX6_remove_X6_placeUnder rfl rfl rfl (by decide +kernel) ⟨(Nat.le_of_ble_eq_true rfl), (Nat.le_of_ble_eq_true rfl)⟩) hK hP hD hS rfl rfl VC_2 rfl hl.1 rfl (Nat.le_of_ble_eq_true rfl) dX6_remove_2 ⟨Nat.zero_le _, Nat.zero_le _⟩ (fun H locs hP hD hS => ?_)
  have q1 := rg_X6_placeUnder M napkin
  refine lv_istore_n hx hb dX6_remove_5 rfl hl (Nat.le_of_ble_eq_true rfl) (lv' := [(2, .int (iI (fX6_placeUnder M napkin))), (0, .ref (E 2)), (1, .int (iI napkin))]) rfl (fun ls hl => ?_)
  refine lv_aload_n hx hb dX6_remove_6 rfl (lv_at hl 1 rfl) ?_
  refine lv_aload_n hx hb dX6_remove_7 rfl (lv_at hl 1 rfl) ?_
  refine lv_iload_n hx hb dX6_remove_8 rfl (lv_at hl 2 rfl) ?_
  refine ct_Vi (VC_fix E cI cC) hZo hZb hZ S0 (kX6_tableUnder l D E cI cC Z hZo hZb M napkin (by omega) hC (fX6_tableUnder M napkin) rfl) (cwV 1 hts gX6_remove_X6_tableUnder rfl rfl rfl (by decide +kernel) ⟨(Nat.le_of_ble_eq_true rfl), (Nat.le_of_ble_eq_true rfl)⟩) hK hP hD hS rfl rfl VC_2 rfl hl.1 rfl (Nat.le_of_ble_eq_true rfl) dX6_remove_9 ⟨Nat.zero_le _, Nat.zero_le _⟩ (fun H locs hP hD hS => ?_)
  have q2 := rg_X6_tableUnder M napkin
  refine lv_iload_n hx hb dX6_remove_12 rfl (lv_at hl 0 rfl) ?_
  refine ct_Vv (VC_fix E cI cC) hZo hZb hZ S0 (kX6_removeAt l D E cI cC Z hZo hZb M (fX6_tableUnder M napkin) (fX6_placeUnder M napkin) (by omega) (by omega) (by have := rg_X6_laidOn hC (fX6_tableUnder M napkin); omega) (fX6_removeAt M (fX6_tableUnder M napkin) (fX6_placeUnder M napkin)) rfl) (cwV 2 hts gX6_remove_X6_removeAt rfl rfl rfl (by decide +kernel) ⟨(Nat.le_of_ble_eq_true rfl), (Nat.le_of_ble_eq_true rfl)⟩) hK hP hD hS rfl rfl VC_2 rfl hl.1 rfl (Nat.le_of_ble_eq_true rfl) dX6_remove_13 ⟨Nat.zero_le _, Nat.zero_le _⟩ (fun H locs hP hD hS => ?_)
  refine lv_iload_n hx hb dX6_remove_16 rfl (lv_at hl 0 rfl) ?_
  obtain ⟨e1, e2⟩ := Prod.mk.inj hE
  subst e2
  exact ci_i hx hb hr hlocks e1 rfl hS hP dX6_remove_17

theorem fr_fX6_remove {M : Mem} (napkin : Int) {r : Nat} (h0 : Nat.beq r 0 = false) : (fX6_remove M napkin).2 r = M r := by
  unfold fX6_remove
  (repeat' with_reducible refine frite_w (fun _ => ?_) (fun _ => ?_)) <;> first | with_reducible rfl | simp only [mst_o, msf_o, mcp_o, fr_fX6_removeAt, h0]

def fX6_shift (M : Mem) (table fro to : Int) : Int × Mem := ((fX6_seatedAt M table fro), (fX6_insert (fX6_removeAt M table fro) table to (fX6_seatedAt M table fro)))
set_option maxRecDepth 100000 in
set_option maxHeartbeats 4000000 in
theorem kX6_shift (l : Launch) (D : va_G) (E : Nat → Nat) (cI cC : ClassId) (Z : State → Prop) (hZo : ∀ M : Mem, ZOk (VC E cI cC M) Z) (hZb : ZBl Z) (M : Mem) (table fro to : Int) (h1 : -2147483648 ≤ table ∧ table < 2147483648) (h2 : 0 ≤ fro ∧ fro ≤ 5) (h3 : 0 ≤ to ∧ to ≤ 6) (hC : CI M) (r : Int) (M' : Mem) (hE : fX6_shift M table fro to = (r, M')) : Ci l yX6_shift wsX6_shift 3 69 [.ref (E 2), .int (iI table), .int (iI fro), .int (iI to)] D (TY cI cC) (VC E cI cC) Z M r M' := by
  refine Ci.of (cc := cX6_shift) (maxL := 5) (ret := (some .int)) (by decide +kernel) rfl (Nat.le_of_ble_eq_true rfl) ?_
  intro p e s m args below meth c ls hx hb hml hr hown hts hlocks hP hK hD hZ hS hl
  have hl : lv_has ls 5 [(0, .ref (E 2)), (1, .int (iI table)), (2, .int (iI fro)), (3, .int (iI to))] := hl
  have S0 : CallFix p m c cX6_shift 5 s args wsX6_shift RX6 := ⟨hx, hb, hml, hown, hts⟩
  rw [fX6_shift] at hE
  refine lv_aload_n hx hb dX6_shift_0 rfl (lv_at hl 0 rfl) ?_
  refine lv_iload_n hx hb dX6_shift_1 rfl (lv_at hl 1 rfl) ?_
  refine lv_iload_n hx hb dX6_shift_2 rfl (lv_at hl 2 rfl) ?_
  refine ct_Vi (VC_fix E cI cC) hZo hZb hZ S0 (kX6_seatedAt l D E cI cC Z hZo hZb M table fro (by omega) (by omega) (fX6_seatedAt M table fro) rfl) (cwV 2 hts gX6_shift_X6_seatedAt rfl rfl rfl (by decide +kernel) ⟨(Nat.le_of_ble_eq_true rfl), (Nat.le_of_ble_eq_true rfl)⟩) hK hP hD hS rfl rfl VC_2 rfl hl.1 rfl (Nat.le_of_ble_eq_true rfl) dX6_shift_3 ⟨Nat.zero_le _, Nat.zero_le _⟩ (fun H locs hP hD hS => ?_)
  have q1 := rg_X6_seatedAt hC table fro
  refine lv_istore hx hb dX6_shift_6 hl (Nat.le_of_ble_eq_true rfl) (lv' := [(4, .int (iI (fX6_seatedAt M table fro))), (0, .ref (E 2)), (1, .int (iI table)), (2, .int (iI fro)), (3, .int (iI to))]) rfl (fun ls hl => ?_)
  refine lv_aload_n hx hb dX6_shift_8 rfl (lv_at hl 1 rfl) ?_
  refine lv_iload_n hx hb dX6_shift_9 rfl (lv_at hl 2 rfl) ?_
  refine lv_iload_n hx hb dX6_shift_10 rfl (lv_at hl 3 rfl) ?_
  refine ct_Vv (VC_fix E cI cC) hZo hZb hZ S0 (kX6_removeAt l D E cI cC Z hZo hZb M table fro (by omega) (by omega) (by have := rg_X6_laidOn hC table; omega) (fX6_removeAt M table fro) rfl) (cwV 2 hts gX6_shift_X6_removeAt rfl rfl rfl (by decide +kernel) ⟨(Nat.le_of_ble_eq_true rfl), (Nat.le_of_ble_eq_true rfl)⟩) hK hP hD hS rfl rfl VC_2 rfl hl.1 rfl (Nat.le_of_ble_eq_true rfl) dX6_shift_11 ⟨Nat.zero_le _, Nat.zero_le _⟩ (fun H locs hP hD hS => ?_)
  refine lv_aload_n hx hb dX6_shift_14 rfl (lv_at hl 1 rfl) ?_
  refine lv_iload_n hx hb dX6_shift_15 rfl (lv_at hl 2 rfl) ?_
  refine lv_iload_n hx hb dX6_shift_16 rfl (lv_at hl 4 rfl) ?_
  refine lv_iload hx hb dX6_shift_17 (lv_at hl 0 rfl) ?_
  refine ct_Vv (VC_fix E cI cC) hZo hZb hZ S0 (kX6_insert l D E cI cC Z hZo hZb (fX6_removeAt M table fro) table to (fX6_seatedAt M table fro) (by omega) (by omega) (laid_removeAt (by omega) (rg_X6_laidOn hC table)) (fX6_insert (fX6_removeAt M table fro) table to (fX6_seatedAt M table fro)) rfl) (cwV 3 hts gX6_shift_X6_insert rfl rfl rfl (by decide +kernel) ⟨(Nat.le_of_ble_eq_true rfl), (Nat.le_of_ble_eq_true rfl)⟩) hK hP hD hS rfl rfl VC_2 rfl hl.1 rfl (Nat.le_of_ble_eq_true rfl) dX6_shift_19 ⟨Nat.zero_le _, Nat.zero_le _⟩ (fun H locs hP hD hS => ?_)
  refine lv_iload hx hb dX6_shift_22 (lv_at hl 0 rfl) ?_
  obtain ⟨e1, e2⟩ := Prod.mk.inj hE
  subst e2
  exact ci_i hx hb hr hlocks e1 rfl hS hP dX6_shift_24

theorem fr_fX6_shift {M : Mem} (table fro to : Int) {r : Nat} (h0 : Nat.beq r 0 = false) : (fX6_shift M table fro to).2 r = M r := by
  unfold fX6_shift
  (repeat' with_reducible refine frite_w (fun _ => ?_) (fun _ => ?_)) <;> first | with_reducible rfl | simp only [mst_o, msf_o, mcp_o, fr_fX6_insert, fr_fX6_removeAt, h0]

def fX6_noteReading (M : Mem) (table phrases : Int) : Mem := if (phrases = 0) then (mst (fX6_setOfTable (fX6_setOfTable M (71) table ((fX6_readingsOf M table) + (1))) (74) table ((fX6_puzzlesOf (fX6_setOfTable M (71) table ((fX6_readingsOf M table) + (1))) table) + (1))) 0 (78) (((fX6_setOfTable (fX6_setOfTable M (71) table ((fX6_readingsOf M table) + (1))) (74) table ((fX6_puzzlesOf (fX6_setOfTable M (71) table ((fX6_readingsOf M table) + (1))) table) + (1))) 0 (78)) + phrases)) else (mst (fX6_setOfTable M (71) table ((fX6_readingsOf M table) + (1))) 0 (78) (((fX6_setOfTable M (71) table ((fX6_readingsOf M table) + (1))) 0 (78)) + phrases))
set_option maxRecDepth 100000 in
set_option maxHeartbeats 4000000 in
theorem kX6_noteReading (l : Launch) (D : va_G) (E : Nat → Nat) (cI cC : ClassId) (Z : State → Prop) (hZo : ∀ M : Mem, ZOk (VC E cI cC M) Z) (hZb : ZBl Z) (M : Mem) (table phrases : Int) (h1 : -2147483648 ≤ table ∧ table < 2147483648) (h2 : -2147483648 ≤ phrases ∧ phrases < 2147483648) (M' : Mem) (hE : fX6_noteReading M table phrases = M') : Cv l yX6_noteReading wsX6_noteReading 2 43 [.ref (E 2), .int (iI table), .int (iI phrases)] D (TY cI cC) (VC E cI cC) Z M M' := by
  refine Cv.of (cc := cX6_noteReading) (maxL := 3) (ret := none) (by decide +kernel) rfl (Nat.le_of_ble_eq_true rfl) ?_
  intro p e s m args below meth c ls hx hb hml hr hown hts hlocks hP hK hD hZ hS hl
  have hl : lv_has ls 3 [(0, .ref (E 2)), (1, .int (iI table)), (2, .int (iI phrases))] := hl
  have S0 : CallFix p m c cX6_noteReading 3 s args wsX6_noteReading RX6 := ⟨hx, hb, hml, hown, hts⟩
  have hinX6 : ∀ w ∈ u_ws RX6 TX6 1, w ∈ wsX6_noteReading := by decide +kernel
  rw [fX6_noteReading] at hE
  refine lv_aload_n hx hb dX6_noteReading_0 rfl (lv_at hl 0 rfl) ?_
  refine z_bipush hx hb dX6_noteReading_1 (by decide +kernel) ?_
  refine lv_iload_n hx hb dX6_noteReading_3 rfl (lv_at hl 1 rfl) ?_
  refine lv_aload_n hx hb dX6_noteReading_4 rfl (lv_at hl 0 rfl) ?_
  refine lv_iload_n hx hb dX6_noteReading_5 rfl (lv_at hl 1 rfl) ?_
  refine ct_Vi (VC_fix E cI cC) hZo hZb hZ S0 (kX6_readingsOf l D E cI cC Z hZo hZb M table (by omega) (fX6_readingsOf M table) rfl) (cwV 1 hts gX6_noteReading_X6_readingsOf rfl rfl rfl (by decide +kernel) ⟨(Nat.le_of_ble_eq_true rfl), (Nat.le_of_ble_eq_true rfl)⟩) hK hP hD hS rfl rfl VC_2 rfl hl.1 rfl (Nat.le_of_ble_eq_true rfl) dX6_noteReading_6 ⟨Nat.zero_le _, Nat.zero_le _⟩ (fun H locs hP hD hS => ?_)
  refine z_iconst hx hb dX6_noteReading_9 ?_
  refine z_iadd hx hb dX6_noteReading_10 ?_
  refine ct_Vv (VC_fix E cI cC) hZo hZb hZ S0 (kX6_setOfTable l D E cI cC Z hZo hZb M (71) table ((fX6_readingsOf M table) + (1)) (by omega) (by omega) (fX6_setOfTable M (71) table ((fX6_readingsOf M table) + (1))) rfl) (cwV 3 hts gX6_noteReading_X6_setOfTable rfl rfl rfl (by decide +kernel) ⟨(Nat.le_of_ble_eq_true rfl), (Nat.le_of_ble_eq_true rfl)⟩) hK hP hD hS rfl rfl VC_2 rfl hl.1 rfl (Nat.le_of_ble_eq_true rfl) dX6_noteReading_11 ⟨Nat.zero_le _, Nat.zero_le _⟩ (fun H locs hP hD hS => ?_)
  refine lv_iload_n hx hb dX6_noteReading_14 rfl (lv_at hl 2 rfl) ?_
  refine z_if_ne hx hb dX6_noteReading_15 (tgt := 32) rfl (by omega) (fun b1 => ?_) (fun b1 => ?_)
  · rw [if_neg b1] at hE
    refine lv_aload_n hx hb dX6_noteReading_32 rfl (lv_at hl 0 rfl) ?_
    refine va_get (own := RX6) (ref := "NapkinSyntax$State") (C := RX6) (T := TX6) (N := 1) hx hb hts hinX6 hown hK hP 2 VC_2 rfl 0 (Nat.le_of_ble_eq_true rfl) (hts (.fieldLink RX6 11 "NapkinSyntax$State" "cells" "[I") (by decide +kernel)) (fun _ h => h) (v := .ref (E 3)) rfl dX6_noteReading_33 ?_
    refine z_bipush hx hb dX6_noteReading_36 (by decide +kernel) ?_
    refine lv_dup2_11 hx hb dX6_noteReading_38 rfl rfl ?_
    refine z_iald hx hb hK hP 3 0 VC_3 rfl (by omega) (by omega) (by decide) dX6_noteReading_39 ?_
    refine lv_iload_n hx hb dX6_noteReading_40 rfl (lv_at hl 2 rfl) ?_
    refine z_iadd hx hb dX6_noteReading_41 ?_
    refine z_iast hx hb hK hP hD hS 3 0 VC_3 rfl (by omega) (by omega) (by decide) dX6_noteReading_42 VCw_0 (fun H locs hP hD hS => ?_)
    subst hE
    exact cv_v hx hb hr hlocks hS hP dX6_noteReading_43
  · rw [if_pos b1] at hE
    refine lv_aload_n hx hb dX6_noteReading_18 rfl (lv_at hl 0 rfl) ?_
    refine z_bipush hx hb dX6_noteReading_19 (by decide +kernel) ?_
    refine lv_iload_n hx hb dX6_noteReading_21 rfl (lv_at hl 1 rfl) ?_
    refine lv_aload_n hx hb dX6_noteReading_22 rfl (lv_at hl 0 rfl) ?_
    refine lv_iload_n hx hb dX6_noteReading_23 rfl (lv_at hl 1 rfl) ?_
    refine ct_Vi (VC_fix E cI cC) hZo hZb hZ S0 (kX6_puzzlesOf l D E cI cC Z hZo hZb (fX6_setOfTable M (71) table ((fX6_readingsOf M table) + (1))) table (by omega) (fX6_puzzlesOf (fX6_setOfTable M (71) table ((fX6_readingsOf M table) + (1))) table) rfl) (cwV 1 hts gX6_noteReading_X6_puzzlesOf rfl rfl rfl (by decide +kernel) ⟨(Nat.le_of_ble_eq_true rfl), (Nat.le_of_ble_eq_true rfl)⟩) hK hP hD hS rfl rfl VC_2 rfl hl.1 rfl (Nat.le_of_ble_eq_true rfl) dX6_noteReading_24 ⟨Nat.zero_le _, Nat.zero_le _⟩ (fun H locs hP hD hS => ?_)
    refine z_iconst hx hb dX6_noteReading_27 ?_
    refine z_iadd hx hb dX6_noteReading_28 ?_
    refine ct_Vv (VC_fix E cI cC) hZo hZb hZ S0 (kX6_setOfTable l D E cI cC Z hZo hZb (fX6_setOfTable M (71) table ((fX6_readingsOf M table) + (1))) (74) table ((fX6_puzzlesOf (fX6_setOfTable M (71) table ((fX6_readingsOf M table) + (1))) table) + (1)) (by omega) (by omega) (fX6_setOfTable (fX6_setOfTable M (71) table ((fX6_readingsOf M table) + (1))) (74) table ((fX6_puzzlesOf (fX6_setOfTable M (71) table ((fX6_readingsOf M table) + (1))) table) + (1))) rfl) (cwV 3 hts gX6_noteReading_X6_setOfTable rfl rfl rfl (by decide +kernel) ⟨(Nat.le_of_ble_eq_true rfl), (Nat.le_of_ble_eq_true rfl)⟩) hK hP hD hS rfl rfl VC_2 rfl hl.1 rfl (Nat.le_of_ble_eq_true rfl) dX6_noteReading_29 ⟨Nat.zero_le _, Nat.zero_le _⟩ (fun H locs hP hD hS => ?_)
    refine lv_aload_n hx hb dX6_noteReading_32 rfl (lv_at hl 0 rfl) ?_
    refine va_get (own := RX6) (ref := "NapkinSyntax$State") (C := RX6) (T := TX6) (N := 1) hx hb hts hinX6 hown hK hP 2 VC_2 rfl 0 (Nat.le_of_ble_eq_true rfl) (hts (.fieldLink RX6 11 "NapkinSyntax$State" "cells" "[I") (by decide +kernel)) (fun _ h => h) (v := .ref (E 3)) rfl dX6_noteReading_33 ?_
    refine z_bipush hx hb dX6_noteReading_36 (by decide +kernel) ?_
    refine lv_dup2_11 hx hb dX6_noteReading_38 rfl rfl ?_
    refine z_iald hx hb hK hP 3 0 VC_3 rfl (by omega) (by omega) (by decide) dX6_noteReading_39 ?_
    refine lv_iload_n hx hb dX6_noteReading_40 rfl (lv_at hl 2 rfl) ?_
    refine z_iadd hx hb dX6_noteReading_41 ?_
    refine z_iast hx hb hK hP hD hS 3 0 VC_3 rfl (by omega) (by omega) (by decide) dX6_noteReading_42 VCw_0 (fun H locs hP hD hS => ?_)
    subst hE
    exact cv_v hx hb hr hlocks hS hP dX6_noteReading_43

theorem fr_fX6_noteReading {M : Mem} (table phrases : Int) {r : Nat} (h0 : Nat.beq r 0 = false) : (fX6_noteReading M table phrases) r = M r := by
  unfold fX6_noteReading
  (repeat' with_reducible refine frite_v (fun _ => ?_) (fun _ => ?_)) <;> first | with_reducible rfl | simp only [mst_o, msf_o, mcp_o, fr_fX6_setOfTable, h0]

def fX6_copyTo_b (M : Mem) : Mem := (mcp M 0 (0) 14 (0) (80))
set_option maxRecDepth 100000 in
set_option maxHeartbeats 4000000 in
theorem kX6_copyTo_b (l : Launch) (D : va_G) (E : Nat → Nat) (cI cC : ClassId) (Z : State → Prop) (hZo : ∀ M : Mem, ZOk (VC E cI cC M) Z) (hZb : ZBl Z) (M : Mem)  (M' : Mem) (hE : fX6_copyTo_b M = M') : Cv l yX6_copyTo wsX6_copyTo 1 26 [.ref (E 2), .ref (E 17)] D (TY cI cC) (VC E cI cC) Z M M' := by
  refine Cv.of (cc := cX6_copyTo) (maxL := 2) (ret := none) (by decide +kernel) rfl (Nat.le_of_ble_eq_true rfl) ?_
  intro p e s m args below meth c ls hx hb hml hr hown hts hlocks hP hK hD hZ hS hl
  have hl : lv_has ls 2 [(0, .ref (E 2)), (1, .ref (E 17))] := hl
  have S0 : CallFix p m c cX6_copyTo 2 s args wsX6_copyTo RX6 := ⟨hx, hb, hml, hown, hts⟩
  have hinX6 : ∀ w ∈ u_ws RX6 TX6 1, w ∈ wsX6_copyTo := by decide +kernel
  rw [fX6_copyTo_b] at hE
  refine lv_aload_n hx hb dX6_copyTo_0 rfl (lv_at hl 1 rfl) ?_
  refine z_alenN (v := (80)) hx hb hK hP 17 0 VC_17 rfl rfl dX6_copyTo_1 ?_
  refine z_bipush hx hb dX6_copyTo_2 (by decide +kernel) ?_
  refine z_icmp_ne hx hb dX6_copyTo_4 (tgt := 19) rfl (by omega) (by omega) (fun h => absurd h (by decide)) (fun h => ?_)
  refine lv_aload_n hx hb dX6_copyTo_7 rfl (lv_at hl 0 rfl) ?_
  refine va_get (own := RX6) (ref := "NapkinSyntax$State") (C := RX6) (T := TX6) (N := 1) hx hb hts hinX6 hown hK hP 2 VC_2 rfl 0 (Nat.le_of_ble_eq_true rfl) (hts (.fieldLink RX6 11 "NapkinSyntax$State" "cells" "[I") (by decide +kernel)) (fun _ h => h) (v := .ref (E 3)) rfl dX6_copyTo_8 ?_
  refine z_iconst hx hb dX6_copyTo_11 ?_
  refine lv_aload_n hx hb dX6_copyTo_12 rfl (lv_at hl 1 rfl) ?_
  refine z_iconst hx hb dX6_copyTo_13 ?_
  refine z_bipush hx hb dX6_copyTo_14 (by decide +kernel) ?_
  refine z_copyi hx hb (hml.trans hl.1.symm) hown (hts (.methodLink RX6 15 arraycopyName) (by decide +kernel)) (hts (.native arraycopyName) (by decide +kernel)) (hts (.static arraycopyName) (by decide +kernel)) (hts (.initialized "java/lang/System") (by decide +kernel)) hK hP hD hS 3 17 0 VC_3 VC_17 rfl (by omega) (by omega) (by omega) (by omega) (by omega) (by decide) (by decide) (Nat.le_of_ble_eq_true rfl) (Nat.le_of_ble_eq_true rfl) dX6_copyTo_16 VCc_0_14 (fun H locs hP hD hS => ?_)
  subst hE
  exact cv_v hx hb hr hlocks hS hP dX6_copyTo_19

theorem fr_fX6_copyTo_b {M : Mem} {r : Nat} (h14 : Nat.beq r 14 = false) : (fX6_copyTo_b M) r = M r := by
  unfold fX6_copyTo_b
  (repeat' with_reducible refine frite_v (fun _ => ?_) (fun _ => ?_)) <;> first | with_reducible rfl | simp only [mst_o, msf_o, mcp_o, h14]

def fX6_copyTo_s (M : Mem) : Mem := (mcp M 0 (0) 15 (0) (80))
set_option maxRecDepth 100000 in
set_option maxHeartbeats 4000000 in
theorem kX6_copyTo_s (l : Launch) (D : va_G) (E : Nat → Nat) (cI cC : ClassId) (Z : State → Prop) (hZo : ∀ M : Mem, ZOk (VC E cI cC M) Z) (hZb : ZBl Z) (M : Mem)  (M' : Mem) (hE : fX6_copyTo_s M = M') : Cv l yX6_copyTo wsX6_copyTo 1 26 [.ref (E 2), .ref (E 18)] D (TY cI cC) (VC E cI cC) Z M M' := by
  refine Cv.of (cc := cX6_copyTo) (maxL := 2) (ret := none) (by decide +kernel) rfl (Nat.le_of_ble_eq_true rfl) ?_
  intro p e s m args below meth c ls hx hb hml hr hown hts hlocks hP hK hD hZ hS hl
  have hl : lv_has ls 2 [(0, .ref (E 2)), (1, .ref (E 18))] := hl
  have S0 : CallFix p m c cX6_copyTo 2 s args wsX6_copyTo RX6 := ⟨hx, hb, hml, hown, hts⟩
  have hinX6 : ∀ w ∈ u_ws RX6 TX6 1, w ∈ wsX6_copyTo := by decide +kernel
  rw [fX6_copyTo_s] at hE
  refine lv_aload_n hx hb dX6_copyTo_0 rfl (lv_at hl 1 rfl) ?_
  refine z_alenN (v := (80)) hx hb hK hP 18 0 VC_18 rfl rfl dX6_copyTo_1 ?_
  refine z_bipush hx hb dX6_copyTo_2 (by decide +kernel) ?_
  refine z_icmp_ne hx hb dX6_copyTo_4 (tgt := 19) rfl (by omega) (by omega) (fun h => absurd h (by decide)) (fun h => ?_)
  refine lv_aload_n hx hb dX6_copyTo_7 rfl (lv_at hl 0 rfl) ?_
  refine va_get (own := RX6) (ref := "NapkinSyntax$State") (C := RX6) (T := TX6) (N := 1) hx hb hts hinX6 hown hK hP 2 VC_2 rfl 0 (Nat.le_of_ble_eq_true rfl) (hts (.fieldLink RX6 11 "NapkinSyntax$State" "cells" "[I") (by decide +kernel)) (fun _ h => h) (v := .ref (E 3)) rfl dX6_copyTo_8 ?_
  refine z_iconst hx hb dX6_copyTo_11 ?_
  refine lv_aload_n hx hb dX6_copyTo_12 rfl (lv_at hl 1 rfl) ?_
  refine z_iconst hx hb dX6_copyTo_13 ?_
  refine z_bipush hx hb dX6_copyTo_14 (by decide +kernel) ?_
  refine z_copyi hx hb (hml.trans hl.1.symm) hown (hts (.methodLink RX6 15 arraycopyName) (by decide +kernel)) (hts (.native arraycopyName) (by decide +kernel)) (hts (.static arraycopyName) (by decide +kernel)) (hts (.initialized "java/lang/System") (by decide +kernel)) hK hP hD hS 3 18 0 VC_3 VC_18 rfl (by omega) (by omega) (by omega) (by omega) (by omega) (by decide) (by decide) (Nat.le_of_ble_eq_true rfl) (Nat.le_of_ble_eq_true rfl) dX6_copyTo_16 VCc_0_15 (fun H locs hP hD hS => ?_)
  subst hE
  exact cv_v hx hb hr hlocks hS hP dX6_copyTo_19

theorem fr_fX6_copyTo_s {M : Mem} {r : Nat} (h15 : Nat.beq r 15 = false) : (fX6_copyTo_s M) r = M r := by
  unfold fX6_copyTo_s
  (repeat' with_reducible refine frite_v (fun _ => ?_) (fun _ => ?_)) <;> first | with_reducible rfl | simp only [mst_o, msf_o, mcp_o, h15]

def fX6_copyFrom_b (M : Mem) : Mem := (mcp M 14 (0) 0 (0) (80))
set_option maxRecDepth 100000 in
set_option maxHeartbeats 4000000 in
theorem kX6_copyFrom_b (l : Launch) (D : va_G) (E : Nat → Nat) (cI cC : ClassId) (Z : State → Prop) (hZo : ∀ M : Mem, ZOk (VC E cI cC M) Z) (hZb : ZBl Z) (M : Mem)  (M' : Mem) (hE : fX6_copyFrom_b M = M') : Cv l yX6_copyFrom wsX6_copyFrom 1 26 [.ref (E 2), .ref (E 17)] D (TY cI cC) (VC E cI cC) Z M M' := by
  refine Cv.of (cc := cX6_copyFrom) (maxL := 2) (ret := none) (by decide +kernel) rfl (Nat.le_of_ble_eq_true rfl) ?_
  intro p e s m args below meth c ls hx hb hml hr hown hts hlocks hP hK hD hZ hS hl
  have hl : lv_has ls 2 [(0, .ref (E 2)), (1, .ref (E 17))] := hl
  have S0 : CallFix p m c cX6_copyFrom 2 s args wsX6_copyFrom RX6 := ⟨hx, hb, hml, hown, hts⟩
  have hinX6 : ∀ w ∈ u_ws RX6 TX6 1, w ∈ wsX6_copyFrom := by decide +kernel
  rw [fX6_copyFrom_b] at hE
  refine lv_aload_n hx hb dX6_copyFrom_0 rfl (lv_at hl 1 rfl) ?_
  refine z_alenN (v := (80)) hx hb hK hP 17 0 VC_17 rfl rfl dX6_copyFrom_1 ?_
  refine z_bipush hx hb dX6_copyFrom_2 (by decide +kernel) ?_
  refine z_icmp_ne hx hb dX6_copyFrom_4 (tgt := 19) rfl (by omega) (by omega) (fun h => absurd h (by decide)) (fun h => ?_)
  refine lv_aload_n hx hb dX6_copyFrom_7 rfl (lv_at hl 1 rfl) ?_
  refine z_iconst hx hb dX6_copyFrom_8 ?_
  refine lv_aload_n hx hb dX6_copyFrom_9 rfl (lv_at hl 0 rfl) ?_
  refine va_get (own := RX6) (ref := "NapkinSyntax$State") (C := RX6) (T := TX6) (N := 1) hx hb hts hinX6 hown hK hP 2 VC_2 rfl 0 (Nat.le_of_ble_eq_true rfl) (hts (.fieldLink RX6 11 "NapkinSyntax$State" "cells" "[I") (by decide +kernel)) (fun _ h => h) (v := .ref (E 3)) rfl dX6_copyFrom_10 ?_
  refine z_iconst hx hb dX6_copyFrom_13 ?_
  refine z_bipush hx hb dX6_copyFrom_14 (by decide +kernel) ?_
  refine z_copyi hx hb (hml.trans hl.1.symm) hown (hts (.methodLink RX6 15 arraycopyName) (by decide +kernel)) (hts (.native arraycopyName) (by decide +kernel)) (hts (.static arraycopyName) (by decide +kernel)) (hts (.initialized "java/lang/System") (by decide +kernel)) hK hP hD hS 17 3 0 VC_17 VC_3 rfl (by omega) (by omega) (by omega) (by omega) (by omega) (by decide) (by decide) (Nat.le_of_ble_eq_true rfl) (Nat.le_of_ble_eq_true rfl) dX6_copyFrom_16 VCc_14_0 (fun H locs hP hD hS => ?_)
  subst hE
  exact cv_v hx hb hr hlocks hS hP dX6_copyFrom_19

theorem fr_fX6_copyFrom_b {M : Mem} {r : Nat} (h0 : Nat.beq r 0 = false) : (fX6_copyFrom_b M) r = M r := by
  unfold fX6_copyFrom_b
  (repeat' with_reducible refine frite_v (fun _ => ?_) (fun _ => ?_)) <;> first | with_reducible rfl | simp only [mst_o, msf_o, mcp_o, h0]

def fX6_copyFrom_s (M : Mem) : Mem := (mcp M 15 (0) 0 (0) (80))
set_option maxRecDepth 100000 in
set_option maxHeartbeats 4000000 in
theorem kX6_copyFrom_s (l : Launch) (D : va_G) (E : Nat → Nat) (cI cC : ClassId) (Z : State → Prop) (hZo : ∀ M : Mem, ZOk (VC E cI cC M) Z) (hZb : ZBl Z) (M : Mem)  (M' : Mem) (hE : fX6_copyFrom_s M = M') : Cv l yX6_copyFrom wsX6_copyFrom 1 26 [.ref (E 2), .ref (E 18)] D (TY cI cC) (VC E cI cC) Z M M' := by
  refine Cv.of (cc := cX6_copyFrom) (maxL := 2) (ret := none) (by decide +kernel) rfl (Nat.le_of_ble_eq_true rfl) ?_
  intro p e s m args below meth c ls hx hb hml hr hown hts hlocks hP hK hD hZ hS hl
  have hl : lv_has ls 2 [(0, .ref (E 2)), (1, .ref (E 18))] := hl
  have S0 : CallFix p m c cX6_copyFrom 2 s args wsX6_copyFrom RX6 := ⟨hx, hb, hml, hown, hts⟩
  have hinX6 : ∀ w ∈ u_ws RX6 TX6 1, w ∈ wsX6_copyFrom := by decide +kernel
  rw [fX6_copyFrom_s] at hE
  refine lv_aload_n hx hb dX6_copyFrom_0 rfl (lv_at hl 1 rfl) ?_
  refine z_alenN (v := (80)) hx hb hK hP 18 0 VC_18 rfl rfl dX6_copyFrom_1 ?_
  refine z_bipush hx hb dX6_copyFrom_2 (by decide +kernel) ?_
  refine z_icmp_ne hx hb dX6_copyFrom_4 (tgt := 19) rfl (by omega) (by omega) (fun h => absurd h (by decide)) (fun h => ?_)
  refine lv_aload_n hx hb dX6_copyFrom_7 rfl (lv_at hl 1 rfl) ?_
  refine z_iconst hx hb dX6_copyFrom_8 ?_
  refine lv_aload_n hx hb dX6_copyFrom_9 rfl (lv_at hl 0 rfl) ?_
  refine va_get (own := RX6) (ref := "NapkinSyntax$State") (C := RX6) (T := TX6) (N := 1) hx hb hts hinX6 hown hK hP 2 VC_2 rfl 0 (Nat.le_of_ble_eq_true rfl) (hts (.fieldLink RX6 11 "NapkinSyntax$State" "cells" "[I") (by decide +kernel)) (fun _ h => h) (v := .ref (E 3)) rfl dX6_copyFrom_10 ?_
  refine z_iconst hx hb dX6_copyFrom_13 ?_
  refine z_bipush hx hb dX6_copyFrom_14 (by decide +kernel) ?_
  refine z_copyi hx hb (hml.trans hl.1.symm) hown (hts (.methodLink RX6 15 arraycopyName) (by decide +kernel)) (hts (.native arraycopyName) (by decide +kernel)) (hts (.static arraycopyName) (by decide +kernel)) (hts (.initialized "java/lang/System") (by decide +kernel)) hK hP hD hS 18 3 0 VC_18 VC_3 rfl (by omega) (by omega) (by omega) (by omega) (by omega) (by decide) (by decide) (Nat.le_of_ble_eq_true rfl) (Nat.le_of_ble_eq_true rfl) dX6_copyFrom_16 VCc_15_0 (fun H locs hP hD hS => ?_)
  subst hE
  exact cv_v hx hb hr hlocks hS hP dX6_copyFrom_19

theorem fr_fX6_copyFrom_s {M : Mem} {r : Nat} (h0 : Nat.beq r 0 = false) : (fX6_copyFrom_s M) r = M r := by
  unfold fX6_copyFrom_s
  (repeat' with_reducible refine frite_v (fun _ => ?_) (fun _ => ?_)) <;> first | with_reducible rfl | simp only [mst_o, msf_o, mcp_o, h0]
