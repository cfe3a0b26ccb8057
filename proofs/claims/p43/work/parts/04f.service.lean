/-! the class Service -/

theorem SI_up {M : Mem} (h : SI M) {n a b c d : Int} (hn : 0 ≤ n ∧ n < 6) (ha : -1 ≤ a ∧ a ≤ 9) (hb : 0 ≤ b ∧ b ≤ 4) (hc : 0 ≤ c ∧ c ≤ 3) (hd : 0 ≤ d ∧ d ≤ 9) : SI (msf (mst (mst (mst (mst M 1 n a) 2 n b) 3 n c) 4 n d) 7 (n + 1)) :=
  ⟨⟨(by omega : 0 ≤ n + 1), (by omega : n + 1 ≤ 6)⟩, fun j h1 h2 => (mst_r (b := 6) (SI_1 h) ha (fun _ _ h => Or.inr h) j h1 h2 : -1 ≤ up (M 1) n a j ∧ up (M 1) n a j ≤ 9), fun j h1 h2 => (mst_r (b := 6) (SI_2 h) hb (fun _ _ h => Or.inr h) j h1 h2 : 0 ≤ up (M 2) n b j ∧ up (M 2) n b j ≤ 4), fun j h1 h2 => (mst_r (b := 6) (SI_3 h) hc (fun _ _ h => Or.inr h) j h1 h2 : 0 ≤ up (M 3) n c j ∧ up (M 3) n c j ≤ 3), fun j h1 h2 => (mst_r (b := 6) (SI_4 h) hd (fun _ _ h => Or.inr h) j h1 h2 : 0 ≤ up (M 4) n d j ∧ up (M 4) n d j ≤ 9)⟩
theorem hear_0 (M : Mem) (t : Int) : fX4_hear M t 0 = M 0 := fr_fX4_hear t rfl rfl rfl rfl rfl
theorem CI_hear {M : Mem} (hC : CI M) (t : Int) : CI (fX4_hear M t) := CI_of0 (hear_0 M t) hC
theorem SI_hear_L {M : Mem} (t : Int) : ∀ (k : Nat) (Mx : Mem) (p : Int), CI Mx → SI Mx → SI (fX4_hear_L1 M t k Mx p) := by
  intro k
  induction k with
  | zero => intro Mx p _ h; exact h
  | succ k ih =>
    intro Mx p hC h
    rw [fX4_hear_L1]
    split
    · exact h
    · split
      · exact ih _ _ hC h
      · split
        · exact ih _ _ hC h
        · have hz := SI_n h
          exact ih _ _ hC (SI_up h (by omega) (rg_X6_seatedAt hC _ _) (rg_X6_foldOf hC _) (rg_X6_colourOf hC _) (rg_X6_stainsOf hC _))
theorem SI_hear {M : Mem} (hC : CI M) (h : SI M) (t : Int) : SI (fX4_hear M t) :=
  SI_hear_L t 8 _ 0 hC ⟨⟨(by decide : (0 : Int) ≤ 0), (by decide : (0 : Int) ≤ 6)⟩, h.2⟩
theorem tX6_hasNapkin {M : Mem} {n : Int} (h : ¬ fX6_hasNapkin M n = 0) : 0 ≤ n ∧ n < M 0 77 := by
  unfold fX6_hasNapkin at h
  (repeat' split at h) <;> omega

def fX8_isTable (table : Int) : Int := if (table < 0) then (0) else if ((3) ≤ table) then (0) else (1)
set_option maxRecDepth 100000 in
set_option maxHeartbeats 4000000 in
theorem kX8_isTable (l : Launch) (D : va_G) (E : Nat → Nat) (cI cC : ClassId) (Z : State → Prop) (hZo : ∀ M : Mem, ZOk (VC E cI cC M) Z) (hZb : ZBl Z) (M : Mem) (table : Int) (h1 : -2147483648 ≤ table ∧ table < 2147483648) (r : Int) (hE : fX8_isTable table = r) : Ci l yX8_isTable wsX8_isTable 0 0 [.int (iI table)] D (TY cI cC) (VC E cI cC) Z M r M := by
  refine Ci.of (cc := cX8_isTable) (maxL := 1) (ret := (some .boolean)) (by decide +kernel) rfl (Nat.le_of_ble_eq_true rfl) ?_
  intro p e s m args below meth c ls hx hb hml hr hown hts hlocks hP hK hD hZ hS hl
  have hl : lv_has ls 1 [(0, .int (iI table))] := hl
  have S0 : CallFix p m c cX8_isTable 1 s args wsX8_isTable RX8 := ⟨hx, hb, hml, hown, hts⟩
  rw [fX8_isTable] at hE
  refine lv_iload_n hx hb dX8_isTable_0 rfl (lv_at hl 0 rfl) ?_
  refine z_if_lt hx hb dX8_isTable_1 (tgt := 13) rfl (by omega) (fun b1 => ?_) (fun b1 => ?_)
  · rw [if_pos b1] at hE
    refine z_iconst hx hb dX8_isTable_13 ?_
    exact ci_i hx hb hr hlocks hE nr_b0 hS hP dX8_isTable_14
  · rw [if_neg b1] at hE
    refine lv_iload_n hx hb dX8_isTable_4 rfl (lv_at hl 0 rfl) ?_
    refine z_iconst hx hb dX8_isTable_5 ?_
    refine z_icmp_ge hx hb dX8_isTable_6 (tgt := 13) rfl (by omega) (by omega) (fun b2 => ?_) (fun b2 => ?_)
    · rw [if_pos b2] at hE
      refine z_iconst hx hb dX8_isTable_13 ?_
      exact ci_i hx hb hr hlocks hE nr_b0 hS hP dX8_isTable_14
    · rw [if_neg b2] at hE
      refine z_iconst hx hb dX8_isTable_9 ?_
      refine lv_goto hx hb dX8_isTable_10 (tgt := 14) rfl ?_
      exact ci_i hx hb hr hlocks hE nr_b1 hS hP dX8_isTable_14

def fX8_refusedFor (reason detail : Int) : Int := ((reason * (16)) + detail)
set_option maxRecDepth 100000 in
set_option maxHeartbeats 4000000 in
theorem kX8_refusedFor (l : Launch) (D : va_G) (E : Nat → Nat) (cI cC : ClassId) (Z : State → Prop) (hZo : ∀ M : Mem, ZOk (VC E cI cC M) Z) (hZb : ZBl Z) (M : Mem) (reason detail : Int)  (r : Int) (hE : fX8_refusedFor reason detail = r) : Ci l yX8_refusedFor wsX8_refusedFor 0 0 [.int (iI reason), .int (iI detail)] D (TY cI cC) (VC E cI cC) Z M r M := by
  refine Ci.of (cc := cX8_refusedFor) (maxL := 2) (ret := (some .int)) (by decide +kernel) rfl (Nat.le_of_ble_eq_true rfl) ?_
  intro p e s m args below meth c ls hx hb hml hr hown hts hlocks hP hK hD hZ hS hl
  have hl : lv_has ls 2 [(0, .int (iI reason)), (1, .int (iI detail))] := hl
  have S0 : CallFix p m c cX8_refusedFor 2 s args wsX8_refusedFor RX8 := ⟨hx, hb, hml, hown, hts⟩
  rw [fX8_refusedFor] at hE
  refine lv_iload_n hx hb dX8_refusedFor_0 rfl (lv_at hl 0 rfl) ?_
  refine z_bipush hx hb dX8_refusedFor_1 (by decide +kernel) ?_
  refine z_imul hx hb dX8_refusedFor_3 ?_
  refine lv_iload_n hx hb dX8_refusedFor_4 rfl (lv_at hl 1 rfl) ?_
  refine z_iadd hx hb dX8_refusedFor_5 ?_
  exact ci_i hx hb hr hlocks hE rfl hS hP dX8_refusedFor_6


theorem bX8_isTable (t : Int) : 0 ≤ fX8_isTable t ∧ fX8_isTable t ≤ 1 := by unfold fX8_isTable; (repeat' split) <;> omega
theorem tX8_isTable {t : Int} (h : ¬ fX8_isTable t = 0) : 0 ≤ t ∧ t < 3 := by
  unfold fX8_isTable at h
  (repeat' split at h) <;> omega
theorem eX8_refusedFor (a b : Int) : fX8_refusedFor a b = a * 16 + b := rfl

def fX5_judgeNew (M : Mem) (colour : Int) : Int := if (colour < 0) then (-2) else if (colour < (4)) then if ((10) ≤ (fX6_napkins M)) then (fX8_refusedFor (1) (10)) else (0) else (-2)
set_option maxRecDepth 100000 in
set_option maxHeartbeats 4000000 in
theorem kX5_judgeNew (l : Launch) (D : va_G) (E : Nat → Nat) (cI cC : ClassId) (T : Nat → Nat) (M : Mem) (colour : Int) (h1 : -2147483648 ≤ colour ∧ colour < 2147483648) (hC : CI M) (r : Int) (hE : fX5_judgeNew M colour = r) : Ci l yX5_judgeNew wsX5_judgeNew 1 21 [.ref (E 1), .int (iI colour)] D (TY cI cC) (VC E cI cC) (ZC E cI cC T) M r M := by
  refine Ci.of (cc := cX5_judgeNew) (maxL := 2) (ret := (some .int)) (by decide +kernel) rfl (Nat.le_of_ble_eq_true rfl) ?_
  intro p e s m args below meth c ls hx hb hml hr hown hts hlocks hP hK hD hZ hS hl
  have hl : lv_has ls 2 [(0, .ref (E 1)), (1, .int (iI colour))] := hl
  have S0 : CallFix p m c cX5_judgeNew 2 s args wsX5_judgeNew RX5 := ⟨hx, hb, hml, hown, hts⟩
  have hinX5 : ∀ w ∈ u_ws RX5 TX5 2, w ∈ wsX5_judgeNew := by decide +kernel
  rw [fX5_judgeNew] at hE
  refine lv_iload_n hx hb dX5_judgeNew_0 rfl (lv_at hl 1 rfl) ?_
  refine z_if_lt hx hb dX5_judgeNew_1 (tgt := 9) rfl (by omega) (fun b1 => ?_) (fun b1 => ?_)
  · rw [if_pos b1] at hE
    refine z_bipush hx hb dX5_judgeNew_9 (by decide +kernel) ?_
    exact ci_i hx hb hr hlocks hE rfl hS hP dX5_judgeNew_11
  · rw [if_neg b1] at hE
    refine lv_iload_n hx hb dX5_judgeNew_4 rfl (lv_at hl 1 rfl) ?_
    refine z_iconst hx hb dX5_judgeNew_5 ?_
    refine z_icmp_lt hx hb dX5_judgeNew_6 (tgt := 12) rfl (by omega) (by omega) (fun b2 => ?_) (fun b2 => ?_)
    · rw [if_pos b2] at hE
      refine lv_aload_n hx hb dX5_judgeNew_12 rfl (lv_at hl 0 rfl) ?_
      refine va_get (own := RX5) (ref := "NapkinSyntax$Service") (C := RX5) (T := TX5) (N := 2) hx hb hts hinX5 hown hK hP 1 VC_1 rfl 0 (Nat.le_of_ble_eq_true rfl) (hts (.fieldLink RX5 12 "NapkinSyntax$Service" "state" "LNapkinSyntax$State;") (by decide +kernel)) (fun _ h => h) (v := .ref (E 2)) rfl dX5_judgeNew_13 ?_
      refine ct_Vi (VC_fix E cI cC) (ZC_ok E cI cC T) (ZC_bl E cI cC T) hZ S0 (kX6_napkins l D E cI cC (ZC E cI cC T) (ZC_ok E cI cC T) (ZC_bl E cI cC T) M  (fX6_napkins M) rfl) (cwV 0 hts gX5_judgeNew_X6_napkins rfl rfl rfl (by decide +kernel) ⟨(Nat.le_of_ble_eq_true rfl), (Nat.le_of_ble_eq_true rfl)⟩) hK hP hD hS rfl rfl VC_2 rfl hl.1 rfl (Nat.le_of_ble_eq_true rfl) dX5_judgeNew_16 ⟨Nat.zero_le _, Nat.zero_le _⟩ (fun H locs hP hD hS => ?_)
      have q3 := rg_X6_napkins hC
      refine z_bipush hx hb dX5_judgeNew_19 (by decide +kernel) ?_
      refine z_icmp_ge hx hb dX5_judgeNew_21 (tgt := 28) rfl (by omega) (by omega) (fun b4 => ?_) (fun b4 => ?_)
      · rw [if_pos b4] at hE
        refine z_iconst hx hb dX5_judgeNew_28 ?_
        refine z_bipush hx hb dX5_judgeNew_29 (by decide +kernel) ?_
        refine ct_Ni (VC_fix E cI cC) (ZC_ok E cI cC T) (ZC_bl E cI cC T) hZ S0 (kX8_refusedFor l D E cI cC (ZC E cI cC T) (ZC_ok E cI cC T) (ZC_bl E cI cC T) M (1) (10)  (fX8_refusedFor (1) (10)) rfl) ⟨va_cnB 2 hts gX5_judgeNew_X8_refusedFor_n111 rfl rfl rfl (ZC_nX5_111 hZ) (hts (.initialized RX8) (by decide +kernel)) (by decide +kernel) ⟨(Nat.le_of_ble_eq_true rfl), (Nat.le_of_ble_eq_true rfl)⟩, hts (.static yX8_refusedFor) (by decide +kernel), trivial⟩ hK hP hD hS rfl hl.1 rfl (Nat.le_of_ble_eq_true rfl) dX5_judgeNew_31 ⟨Nat.zero_le _, Nat.zero_le _⟩ (fun H locs hP hD hS => ?_)
        exact ci_i hx hb hr hlocks hE rfl hS hP dX5_judgeNew_34
      · rw [if_neg b4] at hE
        refine z_iconst hx hb dX5_judgeNew_24 ?_
        refine lv_goto hx hb dX5_judgeNew_25 (tgt := 34) rfl ?_
        exact ci_i hx hb hr hlocks hE rfl hS hP dX5_judgeNew_34
    · rw [if_neg b2] at hE
      refine z_bipush hx hb dX5_judgeNew_9 (by decide +kernel) ?_
      exact ci_i hx hb hr hlocks hE rfl hS hP dX5_judgeNew_11

def fX5_creasesFor (fold : Int) : Int := if (fold < 0) then (0) else if ((5) ≤ fold) then (0) else (crs fold)
set_option maxRecDepth 100000 in
set_option maxHeartbeats 4000000 in
theorem kX5_creasesFor (l : Launch) (D : va_G) (E : Nat → Nat) (cI cC : ClassId) (T : Nat → Nat) (M : Mem) (fold : Int) (h1 : -2147483648 ≤ fold ∧ fold < 2147483648) (r : Int) (hE : fX5_creasesFor fold = r) : Ci l yX5_creasesFor wsX5_creasesFor 0 0 [.int (iI fold)] D (TY cI cC) (VC E cI cC) (ZC E cI cC T) M r M := by
  refine Ci.of (cc := cX5_creasesFor) (maxL := 1) (ret := (some .int)) (by decide +kernel) rfl (Nat.le_of_ble_eq_true rfl) ?_
  intro p e s m args below meth c ls hx hb hml hr hown hts hlocks hP hK hD hZ hS hl
  have hl : lv_has ls 1 [(0, .int (iI fold))] := hl
  have S0 : CallFix p m c cX5_creasesFor 1 s args wsX5_creasesFor RX5 := ⟨hx, hb, hml, hown, hts⟩
  rw [fX5_creasesFor] at hE
  refine lv_iload_n hx hb dX5_creasesFor_0 rfl (lv_at hl 0 rfl) ?_
  refine z_if_lt hx hb dX5_creasesFor_1 (tgt := 20) rfl (by omega) (fun b1 => ?_) (fun b1 => ?_)
  · rw [if_pos b1] at hE
    refine z_iconst hx hb dX5_creasesFor_20 ?_
    exact ci_i hx hb hr hlocks hE rfl hS hP dX5_creasesFor_21
  · rw [if_neg b1] at hE
    refine lv_iload_n hx hb dX5_creasesFor_4 rfl (lv_at hl 0 rfl) ?_
    refine va_getsN hx hb (ZC_cr hZ M) hS hown (va_Nw.use rfl (ZC_nfX5_143 hZ)) (fun _ h => h) dX5_creasesFor_5 ?_
    refine z_tlen (v := (5)) hx hb (ZC_crt hZ M) hS rfl dX5_creasesFor_8 ?_
    refine z_icmp_ge hx hb dX5_creasesFor_9 (tgt := 20) rfl (by omega) (by omega) (fun b2 => ?_) (fun b2 => ?_)
    · rw [if_pos b2] at hE
      refine z_iconst hx hb dX5_creasesFor_20 ?_
      exact ci_i hx hb hr hlocks hE rfl hS hP dX5_creasesFor_21
    · rw [if_neg b2] at hE
      refine va_getsN hx hb (ZC_cr hZ M) hS hown (va_Nw.use rfl (ZC_nfX5_143 hZ)) (fun _ h => h) dX5_creasesFor_12 ?_
      refine lv_iload_n hx hb dX5_creasesFor_15 rfl (lv_at hl 0 rfl) ?_
      refine z_ti hx hb (ZC_crt hZ M) hS (f := crs) (by omega) (by omega) (by decide) dX5_creasesFor_16 ?_
      have q3 := crs_r fold
      refine lv_goto hx hb dX5_creasesFor_17 (tgt := 21) rfl ?_
      exact ci_i hx hb hr hlocks hE rfl hS hP dX5_creasesFor_21


theorem rg_X5_creasesFor (f : Int) : 0 ≤ fX5_creasesFor f ∧ fX5_creasesFor f ≤ 3 := by
  have := crs_r f
  unfold fX5_creasesFor
  (repeat' split) <;> omega

def fX5_judgeFold (M : Mem) (napkin fold : Int) : Int := if ((fX6_hasNapkin M napkin) = 0) then (-1) else if (fold < (1)) then (-2) else if (fold ≤ (4)) then if ((fX6_foldOf M napkin) = fold) then (fX8_refusedFor (2) fold) else if ((12) < ((fX6_creasesOf M napkin) + (fX5_creasesFor fold))) then (fX8_refusedFor (3) (fX6_creasesOf M napkin)) else (0) else (-2)
set_option maxRecDepth 100000 in
set_option maxHeartbeats 4000000 in
theorem kX5_judgeFold (l : Launch) (D : va_G) (E : Nat → Nat) (cI cC : ClassId) (T : Nat → Nat) (M : Mem) (napkin fold : Int) (h1 : -2147483648 ≤ napkin ∧ napkin < 2147483648) (h2 : -2147483648 ≤ fold ∧ fold < 2147483648) (hC : CI M) (r : Int) (hE : fX5_judgeFold M napkin fold = r) : Ci l yX5_judgeFold wsX5_judgeFold 2 43 [.ref (E 1), .int (iI napkin), .int (iI fold)] D (TY cI cC) (VC E cI cC) (ZC E cI cC T) M r M := by
  refine Ci.of (cc := cX5_judgeFold) (maxL := 4) (ret := (some .int)) (by decide +kernel) rfl (Nat.le_of_ble_eq_true rfl) ?_
  intro p e s m args below meth c ls hx hb hml hr hown hts hlocks hP hK hD hZ hS hl
  have hl : lv_has ls 4 [(0, .ref (E 1)), (1, .int (iI napkin)), (2, .int (iI fold))] := hl
  have S0 : CallFix p m c cX5_judgeFold 4 s args wsX5_judgeFold RX5 := ⟨hx, hb, hml, hown, hts⟩
  have hinX5 : ∀ w ∈ u_ws RX5 TX5 2, w ∈ wsX5_judgeFold := by decide +kernel
  rw [fX5_judgeFold] at hE
  refine lv_aload_n hx hb dX5_judgeFold_0 rfl (lv_at hl 0 rfl) ?_
  refine va_get (own := RX5) (ref := "NapkinSyntax$Service") (C := RX5) (T := TX5) (N := 2) hx hb hts hinX5 hown hK hP 1 VC_1 rfl 0 (Nat.le_of_ble_eq_true rfl) (hts (.fieldLink RX5 12 "NapkinSyntax$Service" "state" "LNapkinSyntax$State;") (by decide +kernel)) (fun _ h => h) (v := .ref (E 2)) rfl dX5_judgeFold_1 ?_
  refine lv_iload_n hx hb dX5_judgeFold_4 rfl (lv_at hl 1 rfl) ?_
  refine ct_Vi (VC_fix E cI cC) (ZC_ok E cI cC T) (ZC_bl E cI cC T) hZ S0 (kX6_hasNapkin l D E cI cC (ZC E cI cC T) (ZC_ok E cI cC T) (ZC_bl E cI cC T) M napkin (by omega) hC (fX6_hasNapkin M napkin) rfl) (cwV 1 hts gX5_judgeFold_X6_hasNapkin rfl rfl rfl (by decide +kernel) ⟨(Nat.le_of_ble_eq_true rfl), (Nat.le_of_ble_eq_true rfl)⟩) hK hP hD hS rfl rfl VC_2 rfl hl.1 rfl (Nat.le_of_ble_eq_true rfl) dX5_judgeFold_5 ⟨Nat.zero_le _, Nat.zero_le _⟩ (fun H locs hP hD hS => ?_)
  have q1 := bX6_hasNapkin M napkin
  refine z_if_ne hx hb dX5_judgeFold_8 (tgt := 13) rfl (by omega) (fun b2 => ?_) (fun b2 => ?_)
  · rw [if_neg b2] at hE
    refine lv_iload_n hx hb dX5_judgeFold_13 rfl (lv_at hl 2 rfl) ?_
    refine z_iconst hx hb dX5_judgeFold_14 ?_
    refine z_icmp_lt hx hb dX5_judgeFold_15 (tgt := 23) rfl (by omega) (by omega) (fun b3 => ?_) (fun b3 => ?_)
    · rw [if_pos b3] at hE
      refine z_bipush hx hb dX5_judgeFold_23 (by decide +kernel) ?_
      exact ci_i hx hb hr hlocks hE rfl hS hP dX5_judgeFold_25
    · rw [if_neg b3] at hE
      refine lv_iload_n hx hb dX5_judgeFold_18 rfl (lv_at hl 2 rfl) ?_
      refine z_iconst hx hb dX5_judgeFold_19 ?_
      refine z_icmp_le hx hb dX5_judgeFold_20 (tgt := 26) rfl (by omega) (by omega) (fun b4 => ?_) (fun b4 => ?_)
      · rw [if_pos b4] at hE
        refine lv_aload_n hx hb dX5_judgeFold_26 rfl (lv_at hl 0 rfl) ?_
        refine va_get (own := RX5) (ref := "NapkinSyntax$Service") (C := RX5) (T := TX5) (N := 2) hx hb hts hinX5 hown hK hP 1 VC_1 rfl 0 (Nat.le_of_ble_eq_true rfl) (hts (.fieldLink RX5 12 "NapkinSyntax$Service" "state" "LNapkinSyntax$State;") (by decide +kernel)) (fun _ h => h) (v := .ref (E 2)) rfl dX5_judgeFold_27 ?_
        refine lv_iload_n hx hb dX5_judgeFold_30 rfl (lv_at hl 1 rfl) ?_
        refine ct_Vi (VC_fix E cI cC) (ZC_ok E cI cC T) (ZC_bl E cI cC T) hZ S0 (kX6_foldOf l D E cI cC (ZC E cI cC T) (ZC_ok E cI cC T) (ZC_bl E cI cC T) M napkin (by omega) (fX6_foldOf M napkin) rfl) (cwV 1 hts gX5_judgeFold_X6_foldOf rfl rfl rfl (by decide +kernel) ⟨(Nat.le_of_ble_eq_true rfl), (Nat.le_of_ble_eq_true rfl)⟩) hK hP hD hS rfl rfl VC_2 rfl hl.1 rfl (Nat.le_of_ble_eq_true rfl) dX5_judgeFold_31 ⟨Nat.zero_le _, Nat.zero_le _⟩ (fun H locs hP hD hS => ?_)
        have q5 := rg_X6_foldOf hC napkin
        refine lv_iload_n hx hb dX5_judgeFold_34 rfl (lv_at hl 2 rfl) ?_
        refine z_icmp_ne hx hb dX5_judgeFold_35 (tgt := 44) rfl (by omega) (by omega) (fun b6 => ?_) (fun b6 => ?_)
        · rw [if_neg b6] at hE
          refine lv_aload_n hx hb dX5_judgeFold_44 rfl (lv_at hl 0 rfl) ?_
          refine va_get (own := RX5) (ref := "NapkinSyntax$Service") (C := RX5) (T := TX5) (N := 2) hx hb hts hinX5 hown hK hP 1 VC_1 rfl 0 (Nat.le_of_ble_eq_true rfl) (hts (.fieldLink RX5 12 "NapkinSyntax$Service" "state" "LNapkinSyntax$State;") (by decide +kernel)) (fun _ h => h) (v := .ref (E 2)) rfl dX5_judgeFold_45 ?_
          refine lv_iload_n hx hb dX5_judgeFold_48 rfl (lv_at hl 1 rfl) ?_
          refine ct_Vi (VC_fix E cI cC) (ZC_ok E cI cC T) (ZC_bl E cI cC T) hZ S0 (kX6_creasesOf l D E cI cC (ZC E cI cC T) (ZC_ok E cI cC T) (ZC_bl E cI cC T) M napkin (by omega) (fX6_creasesOf M napkin) rfl) (cwV 1 hts gX5_judgeFold_X6_creasesOf rfl rfl rfl (by decide +kernel) ⟨(Nat.le_of_ble_eq_true rfl), (Nat.le_of_ble_eq_true rfl)⟩) hK hP hD hS rfl rfl VC_2 rfl hl.1 rfl (Nat.le_of_ble_eq_true rfl) dX5_judgeFold_49 ⟨Nat.zero_le _, Nat.zero_le _⟩ (fun H locs hP hD hS => ?_)
          have q7 := rg_X6_creasesOf hC napkin
          refine lv_istore_n hx hb dX5_judgeFold_52 rfl hl (Nat.le_of_ble_eq_true rfl) (lv' := [(3, .int (iI (fX6_creasesOf M napkin))), (0, .ref (E 1)), (1, .int (iI napkin)), (2, .int (iI fold))]) rfl (fun ls hl => ?_)
          refine lv_iload_n hx hb dX5_judgeFold_53 rfl (lv_at hl 0 rfl) ?_
          refine lv_iload_n hx hb dX5_judgeFold_54 rfl (lv_at hl 3 rfl) ?_
          refine ct_Si (VC_fix E cI cC) (ZC_ok E cI cC T) (ZC_bl E cI cC T) hZ S0 (kX5_creasesFor l D E cI cC T M fold (by omega) (fX5_creasesFor fold) rfl) (va_cwS 1 hts gX5_judgeFold_X5_creasesFor rfl rfl rfl (by decide +kernel) ⟨(Nat.le_of_ble_eq_true rfl), (Nat.le_of_ble_eq_true rfl)⟩) hK hP hD hS rfl hl.1 rfl (Nat.le_of_ble_eq_true rfl) dX5_judgeFold_55 ⟨Nat.zero_le _, Nat.zero_le _⟩ (fun H locs hP hD hS => ?_)
          have q8 := rg_X5_creasesFor fold
          refine z_iadd hx hb dX5_judgeFold_58 ?_
          refine z_bipush hx hb dX5_judgeFold_59 (by decide +kernel) ?_
          refine z_icmp_gt hx hb dX5_judgeFold_61 (tgt := 68) rfl (by omega) (by omega) (fun b9 => ?_) (fun b9 => ?_)
          · rw [if_pos b9] at hE
            refine z_iconst hx hb dX5_judgeFold_68 ?_
            refine lv_iload_n hx hb dX5_judgeFold_69 rfl (lv_at hl 0 rfl) ?_
            refine ct_Ni (VC_fix E cI cC) (ZC_ok E cI cC T) (ZC_bl E cI cC T) hZ S0 (kX8_refusedFor l D E cI cC (ZC E cI cC T) (ZC_ok E cI cC T) (ZC_bl E cI cC T) M (3) (fX6_creasesOf M napkin)  (fX8_refusedFor (3) (fX6_creasesOf M napkin)) rfl) ⟨va_cnB 2 hts gX5_judgeFold_X8_refusedFor_n111 rfl rfl rfl (ZC_nX5_111 hZ) (hts (.initialized RX8) (by decide +kernel)) (by decide +kernel) ⟨(Nat.le_of_ble_eq_true rfl), (Nat.le_of_ble_eq_true rfl)⟩, hts (.static yX8_refusedFor) (by decide +kernel), trivial⟩ hK hP hD hS rfl hl.1 rfl (Nat.le_of_ble_eq_true rfl) dX5_judgeFold_70 ⟨Nat.zero_le _, Nat.zero_le _⟩ (fun H locs hP hD hS => ?_)
            exact ci_i hx hb hr hlocks hE rfl hS hP dX5_judgeFold_73
          · rw [if_neg b9] at hE
            refine z_iconst hx hb dX5_judgeFold_64 ?_
            refine lv_goto hx hb dX5_judgeFold_65 (tgt := 73) rfl ?_
            exact ci_i hx hb hr hlocks hE rfl hS hP dX5_judgeFold_73
        · rw [if_pos b6] at hE
          refine z_iconst hx hb dX5_judgeFold_38 ?_
          refine lv_iload_n hx hb dX5_judgeFold_39 rfl (lv_at hl 2 rfl) ?_
          refine ct_Ni (VC_fix E cI cC) (ZC_ok E cI cC T) (ZC_bl E cI cC T) hZ S0 (kX8_refusedFor l D E cI cC (ZC E cI cC T) (ZC_ok E cI cC T) (ZC_bl E cI cC T) M (2) fold  (fX8_refusedFor (2) fold) rfl) ⟨va_cnB 2 hts gX5_judgeFold_X8_refusedFor_n111 rfl rfl rfl (ZC_nX5_111 hZ) (hts (.initialized RX8) (by decide +kernel)) (by decide +kernel) ⟨(Nat.le_of_ble_eq_true rfl), (Nat.le_of_ble_eq_true rfl)⟩, hts (.static yX8_refusedFor) (by decide +kernel), trivial⟩ hK hP hD hS rfl hl.1 rfl (Nat.le_of_ble_eq_true rfl) dX5_judgeFold_40 ⟨Nat.zero_le _, Nat.zero_le _⟩ (fun H locs hP hD hS => ?_)
          exact ci_i hx hb hr hlocks hE rfl hS hP dX5_judgeFold_43
      · rw [if_neg b4] at hE
        refine z_bipush hx hb dX5_judgeFold_23 (by decide +kernel) ?_
        exact ci_i hx hb hr hlocks hE rfl hS hP dX5_judgeFold_25
  · rw [if_pos b2] at hE
    refine z_iconst hx hb dX5_judgeFold_11 ?_
    exact ci_i hx hb hr hlocks hE rfl hS hP dX5_judgeFold_12

def fX5_judgeOpen (M : Mem) (napkin : Int) : Int := if ((fX6_hasNapkin M napkin) = 0) then (-1) else if ((fX6_foldOf M napkin) = 0) then (fX8_refusedFor (2) (0)) else (0)
set_option maxRecDepth 100000 in
set_option maxHeartbeats 4000000 in
theorem kX5_judgeOpen (l : Launch) (D : va_G) (E : Nat → Nat) (cI cC : ClassId) (T : Nat → Nat) (M : Mem) (napkin : Int) (h1 : -2147483648 ≤ napkin ∧ napkin < 2147483648) (hC : CI M) (r : Int) (hE : fX5_judgeOpen M napkin = r) : Ci l yX5_judgeOpen wsX5_judgeOpen 2 43 [.ref (E 1), .int (iI napkin)] D (TY cI cC) (VC E cI cC) (ZC E cI cC T) M r M := by
  refine Ci.of (cc := cX5_judgeOpen) (maxL := 2) (ret := (some .int)) (by decide +kernel) rfl (Nat.le_of_ble_eq_true rfl) ?_
  intro p e s m args below meth c ls hx hb hml hr hown hts hlocks hP hK hD hZ hS hl
  have hl : lv_has ls 2 [(0, .ref (E 1)), (1, .int (iI napkin))] := hl
  have S0 : CallFix p m c cX5_judgeOpen 2 s args wsX5_judgeOpen RX5 := ⟨hx, hb, hml, hown, hts⟩
  have hinX5 : ∀ w ∈ u_ws RX5 TX5 2, w ∈ wsX5_judgeOpen := by decide +kernel
  rw [fX5_judgeOpen] at hE
  refine lv_aload_n hx hb dX5_judgeOpen_0 rfl (lv_at hl 0 rfl) ?_
  refine va_get (own := RX5) (ref := "NapkinSyntax$Service") (C := RX5) (T := TX5) (N := 2) hx hb hts hinX5 hown hK hP 1 VC_1 rfl 0 (Nat.le_of_ble_eq_true rfl) (hts (.fieldLink RX5 12 "NapkinSyntax$Service" "state" "LNapkinSyntax$State;") (by decide +kernel)) (fun _ h => h) (v := .ref (E 2)) rfl dX5_judgeOpen_1 ?_
  refine lv_iload_n hx hb dX5_judgeOpen_4 rfl (lv_at hl 1 rfl) ?_
  refine ct_Vi (VC_fix E cI cC) (ZC_ok E cI cC T) (ZC_bl E cI cC T) hZ S0 (kX6_hasNapkin l D E cI cC (ZC E cI cC T) (ZC_ok E cI cC T) (ZC_bl E cI cC T) M napkin (by omega) hC (fX6_hasNapkin M napkin) rfl) (cwV 1 hts gX5_judgeOpen_X6_hasNapkin rfl rfl rfl (by decide +kernel) ⟨(Nat.le_of_ble_eq_true rfl), (Nat.le_of_ble_eq_true rfl)⟩) hK hP hD hS rfl rfl VC_2 rfl hl.1 rfl (Nat.le_of_ble_eq_true rfl) dX5_judgeOpen_5 ⟨Nat.zero_le _, Nat.zero_le _⟩ (fun H locs hP hD hS => ?_)
  have q1 := bX6_hasNapkin M napkin
  refine z_if_ne hx hb dX5_judgeOpen_8 (tgt := 13) rfl (by omega) (fun b2 => ?_) (fun b2 => ?_)
  · rw [if_neg b2] at hE
    refine lv_aload_n hx hb dX5_judgeOpen_13 rfl (lv_at hl 0 rfl) ?_
    refine va_get (own := RX5) (ref := "NapkinSyntax$Service") (C := RX5) (T := TX5) (N := 2) hx hb hts hinX5 hown hK hP 1 VC_1 rfl 0 (Nat.le_of_ble_eq_true rfl) (hts (.fieldLink RX5 12 "NapkinSyntax$Service" "state" "LNapkinSyntax$State;") (by decide +kernel)) (fun _ h => h) (v := .ref (E 2)) rfl dX5_judgeOpen_14 ?_
    refine lv_iload_n hx hb dX5_judgeOpen_17 rfl (lv_at hl 1 rfl) ?_
    refine ct_Vi (VC_fix E cI cC) (ZC_ok E cI cC T) (ZC_bl E cI cC T) hZ S0 (kX6_foldOf l D E cI cC (ZC E cI cC T) (ZC_ok E cI cC T) (ZC_bl E cI cC T) M napkin (by omega) (fX6_foldOf M napkin) rfl) (cwV 1 hts gX5_judgeOpen_X6_foldOf rfl rfl rfl (by decide +kernel) ⟨(Nat.le_of_ble_eq_true rfl), (Nat.le_of_ble_eq_true rfl)⟩) hK hP hD hS rfl rfl VC_2 rfl hl.1 rfl (Nat.le_of_ble_eq_true rfl) dX5_judgeOpen_18 ⟨Nat.zero_le _, Nat.zero_le _⟩ (fun H locs hP hD hS => ?_)
    have q3 := rg_X6_foldOf hC napkin
    refine z_if_eq hx hb dX5_judgeOpen_21 (tgt := 28) rfl (by omega) (fun b4 => ?_) (fun b4 => ?_)
    · rw [if_pos b4] at hE
      refine z_iconst hx hb dX5_judgeOpen_28 ?_
      refine z_iconst hx hb dX5_judgeOpen_29 ?_
      refine ct_Ni (VC_fix E cI cC) (ZC_ok E cI cC T) (ZC_bl E cI cC T) hZ S0 (kX8_refusedFor l D E cI cC (ZC E cI cC T) (ZC_ok E cI cC T) (ZC_bl E cI cC T) M (2) (0)  (fX8_refusedFor (2) (0)) rfl) ⟨va_cnB 2 hts gX5_judgeOpen_X8_refusedFor_n111 rfl rfl rfl (ZC_nX5_111 hZ) (hts (.initialized RX8) (by decide +kernel)) (by decide +kernel) ⟨(Nat.le_of_ble_eq_true rfl), (Nat.le_of_ble_eq_true rfl)⟩, hts (.static yX8_refusedFor) (by decide +kernel), trivial⟩ hK hP hD hS rfl hl.1 rfl (Nat.le_of_ble_eq_true rfl) dX5_judgeOpen_30 ⟨Nat.zero_le _, Nat.zero_le _⟩ (fun H locs hP hD hS => ?_)
      exact ci_i hx hb hr hlocks hE rfl hS hP dX5_judgeOpen_33
    · rw [if_neg b4] at hE
      refine z_iconst hx hb dX5_judgeOpen_24 ?_
      refine lv_goto hx hb dX5_judgeOpen_25 (tgt := 33) rfl ?_
      exact ci_i hx hb hr hlocks hE rfl hS hP dX5_judgeOpen_33
  · rw [if_pos b2] at hE
    refine z_iconst hx hb dX5_judgeOpen_11 ?_
    exact ci_i hx hb hr hlocks hE rfl hS hP dX5_judgeOpen_12

def fX5_judgeLay (M : Mem) (napkin table : Int) : Int := if ((fX6_hasNapkin M napkin) = 0) then (-1) else if ((fX8_isTable table) = 0) then (-1) else if ((fX6_tableUnder M napkin) = (-1)) then if ((6) ≤ (fX6_laidOn M table)) then (fX8_refusedFor (1) (6)) else (0) else (fX8_refusedFor (4) (fX6_tableUnder M napkin))
set_option maxRecDepth 100000 in
set_option maxHeartbeats 4000000 in
theorem kX5_judgeLay (l : Launch) (D : va_G) (E : Nat → Nat) (cI cC : ClassId) (T : Nat → Nat) (M : Mem) (napkin table : Int) (h1 : -2147483648 ≤ napkin ∧ napkin < 2147483648) (h2 : -2147483648 ≤ table ∧ table < 2147483648) (hC : CI M) (r : Int) (hE : fX5_judgeLay M napkin table = r) : Ci l yX5_judgeLay wsX5_judgeLay 2 44 [.ref (E 1), .int (iI napkin), .int (iI table)] D (TY cI cC) (VC E cI cC) (ZC E cI cC T) M r M := by
  refine Ci.of (cc := cX5_judgeLay) (maxL := 3) (ret := (some .int)) (by decide +kernel) rfl (Nat.le_of_ble_eq_true rfl) ?_
  intro p e s m args below meth c ls hx hb hml hr hown hts hlocks hP hK hD hZ hS hl
  have hl : lv_has ls 3 [(0, .ref (E 1)), (1, .int (iI napkin)), (2, .int (iI table))] := hl
  have S0 : CallFix p m c cX5_judgeLay 3 s args wsX5_judgeLay RX5 := ⟨hx, hb, hml, hown, hts⟩
  have hinX5 : ∀ w ∈ u_ws RX5 TX5 2, w ∈ wsX5_judgeLay := by decide +kernel
  rw [fX5_judgeLay] at hE
  refine lv_aload_n hx hb dX5_judgeLay_0 rfl (lv_at hl 0 rfl) ?_
  refine va_get (own := RX5) (ref := "NapkinSyntax$Service") (C := RX5) (T := TX5) (N := 2) hx hb hts hinX5 hown hK hP 1 VC_1 rfl 0 (Nat.le_of_ble_eq_true rfl) (hts (.fieldLink RX5 12 "NapkinSyntax$Service" "state" "LNapkinSyntax$State;") (by decide +kernel)) (fun _ h => h) (v := .ref (E 2)) rfl dX5_judgeLay_1 ?_
  refine lv_iload_n hx hb dX5_judgeLay_4 rfl (lv_at hl 1 rfl) ?_
  refine ct_Vi (VC_fix E cI cC) (ZC_ok E cI cC T) (ZC_bl E cI cC T) hZ S0 (kX6_hasNapkin l D E cI cC (ZC E cI cC T) (ZC_ok E cI cC T) (ZC_bl E cI cC T) M napkin (by omega) hC (fX6_hasNapkin M napkin) rfl) (cwV 1 hts gX5_judgeLay_X6_hasNapkin rfl rfl rfl (by decide +kernel) ⟨(Nat.le_of_ble_eq_true rfl), (Nat.le_of_ble_eq_true rfl)⟩) hK hP hD hS rfl rfl VC_2 rfl hl.1 rfl (Nat.le_of_ble_eq_true rfl) dX5_judgeLay_5 ⟨Nat.zero_le _, Nat.zero_le _⟩ (fun H locs hP hD hS => ?_)
  have q1 := bX6_hasNapkin M napkin
  refine z_if_eq hx hb dX5_judgeLay_8 (tgt := 18) rfl (by omega) (fun b2 => ?_) (fun b2 => ?_)
  · rw [if_pos b2] at hE
    refine z_iconst hx hb dX5_judgeLay_18 ?_
    exact ci_i hx hb hr hlocks hE rfl hS hP dX5_judgeLay_19
  · rw [if_neg b2] at hE
    refine lv_iload_n hx hb dX5_judgeLay_11 rfl (lv_at hl 2 rfl) ?_
    refine ct_Ni (VC_fix E cI cC) (ZC_ok E cI cC T) (ZC_bl E cI cC T) hZ S0 (kX8_isTable l D E cI cC (ZC E cI cC T) (ZC_ok E cI cC T) (ZC_bl E cI cC T) M table (by omega) (fX8_isTable table) rfl) ⟨va_cnB 1 hts gX5_judgeLay_X8_isTable_n124 rfl rfl rfl (ZC_nX5_124 hZ) (hts (.initialized RX8) (by decide +kernel)) (by decide +kernel) ⟨(Nat.le_of_ble_eq_true rfl), (Nat.le_of_ble_eq_true rfl)⟩, hts (.static yX8_isTable) (by decide +kernel), trivial⟩ hK hP hD hS rfl hl.1 rfl (Nat.le_of_ble_eq_true rfl) dX5_judgeLay_12 ⟨Nat.zero_le _, Nat.zero_le _⟩ (fun H locs hP hD hS => ?_)
    have q3 := bX8_isTable table
    refine z_if_ne hx hb dX5_judgeLay_15 (tgt := 20) rfl (by omega) (fun b4 => ?_) (fun b4 => ?_)
    · rw [if_neg b4] at hE
      refine lv_aload_n hx hb dX5_judgeLay_20 rfl (lv_at hl 0 rfl) ?_
      refine va_get (own := RX5) (ref := "NapkinSyntax$Service") (C := RX5) (T := TX5) (N := 2) hx hb hts hinX5 hown hK hP 1 VC_1 rfl 0 (Nat.le_of_ble_eq_true rfl) (hts (.fieldLink RX5 12 "NapkinSyntax$Service" "state" "LNapkinSyntax$State;") (by decide +kernel)) (fun _ h => h) (v := .ref (E 2)) rfl dX5_judgeLay_21 ?_
      refine lv_iload_n hx hb dX5_judgeLay_24 rfl (lv_at hl 1 rfl) ?_
      refine ct_Vi (VC_fix E cI cC) (ZC_ok E cI cC T) (ZC_bl E cI cC T) hZ S0 (kX6_tableUnder l D E cI cC (ZC E cI cC T) (ZC_ok E cI cC T) (ZC_bl E cI cC T) M napkin (by omega) hC (fX6_tableUnder M napkin) rfl) (cwV 1 hts gX5_judgeLay_X6_tableUnder rfl rfl rfl (by decide +kernel) ⟨(Nat.le_of_ble_eq_true rfl), (Nat.le_of_ble_eq_true rfl)⟩) hK hP hD hS rfl rfl VC_2 rfl hl.1 rfl (Nat.le_of_ble_eq_true rfl) dX5_judgeLay_25 ⟨Nat.zero_le _, Nat.zero_le _⟩ (fun H locs hP hD hS => ?_)
      have q5 := rg_X6_tableUnder M napkin
      refine z_iconst hx hb dX5_judgeLay_28 ?_
      refine z_icmp_eq hx hb dX5_judgeLay_29 (tgt := 45) rfl (by omega) (by omega) (fun b6 => ?_) (fun b6 => ?_)
      · rw [if_pos b6] at hE
        refine lv_aload_n hx hb dX5_judgeLay_45 rfl (lv_at hl 0 rfl) ?_
        refine va_get (own := RX5) (ref := "NapkinSyntax$Service") (C := RX5) (T := TX5) (N := 2) hx hb hts hinX5 hown hK hP 1 VC_1 rfl 0 (Nat.le_of_ble_eq_true rfl) (hts (.fieldLink RX5 12 "NapkinSyntax$Service" "state" "LNapkinSyntax$State;") (by decide +kernel)) (fun _ h => h) (v := .ref (E 2)) rfl dX5_judgeLay_46 ?_
        refine lv_iload_n hx hb dX5_judgeLay_49 rfl (lv_at hl 2 rfl) ?_
        refine ct_Vi (VC_fix E cI cC) (ZC_ok E cI cC T) (ZC_bl E cI cC T) hZ S0 (kX6_laidOn l D E cI cC (ZC E cI cC T) (ZC_ok E cI cC T) (ZC_bl E cI cC T) M table (by omega) (fX6_laidOn M table) rfl) (cwV 1 hts gX5_judgeLay_X6_laidOn rfl rfl rfl (by decide +kernel) ⟨(Nat.le_of_ble_eq_true rfl), (Nat.le_of_ble_eq_true rfl)⟩) hK hP hD hS rfl rfl VC_2 rfl hl.1 rfl (Nat.le_of_ble_eq_true rfl) dX5_judgeLay_50 ⟨Nat.zero_le _, Nat.zero_le _⟩ (fun H locs hP hD hS => ?_)
        have q7 := rg_X6_laidOn hC table
        refine z_bipush hx hb dX5_judgeLay_53 (by decide +kernel) ?_
        refine z_icmp_ge hx hb dX5_judgeLay_55 (tgt := 62) rfl (by omega) (by omega) (fun b8 => ?_) (fun b8 => ?_)
        · rw [if_pos b8] at hE
          refine z_iconst hx hb dX5_judgeLay_62 ?_
          refine z_bipush hx hb dX5_judgeLay_63 (by decide +kernel) ?_
          refine ct_Ni (VC_fix E cI cC) (ZC_ok E cI cC T) (ZC_bl E cI cC T) hZ S0 (kX8_refusedFor l D E cI cC (ZC E cI cC T) (ZC_ok E cI cC T) (ZC_bl E cI cC T) M (1) (6)  (fX8_refusedFor (1) (6)) rfl) ⟨va_cnB 2 hts gX5_judgeLay_X8_refusedFor_n111 rfl rfl rfl (ZC_nX5_111 hZ) (hts (.initialized RX8) (by decide +kernel)) (by decide +kernel) ⟨(Nat.le_of_ble_eq_true rfl), (Nat.le_of_ble_eq_true rfl)⟩, hts (.static yX8_refusedFor) (by decide +kernel), trivial⟩ hK hP hD hS rfl hl.1 rfl (Nat.le_of_ble_eq_true rfl) dX5_judgeLay_65 ⟨Nat.zero_le _, Nat.zero_le _⟩ (fun H locs hP hD hS => ?_)
          exact ci_i hx hb hr hlocks hE rfl hS hP dX5_judgeLay_68
        · rw [if_neg b8] at hE
          refine z_iconst hx hb dX5_judgeLay_58 ?_
          refine lv_goto hx hb dX5_judgeLay_59 (tgt := 68) rfl ?_
          exact ci_i hx hb hr hlocks hE rfl hS hP dX5_judgeLay_68
      · rw [if_neg b6] at hE
        refine z_iconst hx hb dX5_judgeLay_32 ?_
        refine lv_aload_n hx hb dX5_judgeLay_33 rfl (lv_at hl 0 rfl) ?_
        refine va_get (own := RX5) (ref := "NapkinSyntax$Service") (C := RX5) (T := TX5) (N := 2) hx hb hts hinX5 hown hK hP 1 VC_1 rfl 0 (Nat.le_of_ble_eq_true rfl) (hts (.fieldLink RX5 12 "NapkinSyntax$Service" "state" "LNapkinSyntax$State;") (by decide +kernel)) (fun _ h => h) (v := .ref (E 2)) rfl dX5_judgeLay_34 ?_
        refine lv_iload_n hx hb dX5_judgeLay_37 rfl (lv_at hl 1 rfl) ?_
        refine ct_Vi (VC_fix E cI cC) (ZC_ok E cI cC T) (ZC_bl E cI cC T) hZ S0 (kX6_tableUnder l D E cI cC (ZC E cI cC T) (ZC_ok E cI cC T) (ZC_bl E cI cC T) M napkin (by omega) hC (fX6_tableUnder M napkin) rfl) (cwV 1 hts gX5_judgeLay_X6_tableUnder rfl rfl rfl (by decide +kernel) ⟨(Nat.le_of_ble_eq_true rfl), (Nat.le_of_ble_eq_true rfl)⟩) hK hP hD hS rfl rfl VC_2 rfl hl.1 rfl (Nat.le_of_ble_eq_true rfl) dX5_judgeLay_38 ⟨Nat.zero_le _, Nat.zero_le _⟩ (fun H locs hP hD hS => ?_)
        have q9 := rg_X6_tableUnder M napkin
        refine ct_Ni (VC_fix E cI cC) (ZC_ok E cI cC T) (ZC_bl E cI cC T) hZ S0 (kX8_refusedFor l D E cI cC (ZC E cI cC T) (ZC_ok E cI cC T) (ZC_bl E cI cC T) M (4) (fX6_tableUnder M napkin)  (fX8_refusedFor (4) (fX6_tableUnder M napkin)) rfl) ⟨va_cnB 2 hts gX5_judgeLay_X8_refusedFor_n111 rfl rfl rfl (ZC_nX5_111 hZ) (hts (.initialized RX8) (by decide +kernel)) (by decide +kernel) ⟨(Nat.le_of_ble_eq_true rfl), (Nat.le_of_ble_eq_true rfl)⟩, hts (.static yX8_refusedFor) (by decide +kernel), trivial⟩ hK hP hD hS rfl hl.1 rfl (Nat.le_of_ble_eq_true rfl) dX5_judgeLay_41 ⟨Nat.zero_le _, Nat.zero_le _⟩ (fun H locs hP hD hS => ?_)
        exact ci_i hx hb hr hlocks hE rfl hS hP dX5_judgeLay_44
    · rw [if_pos b4] at hE
      refine z_iconst hx hb dX5_judgeLay_18 ?_
      exact ci_i hx hb hr hlocks hE rfl hS hP dX5_judgeLay_19

def fX5_judgeTake (M : Mem) (napkin : Int) : Int := if ((fX6_hasNapkin M napkin) = 0) then (-1) else if ((fX6_tableUnder M napkin) = (-1)) then (fX8_refusedFor (5) napkin) else (0)
set_option maxRecDepth 100000 in
set_option maxHeartbeats 4000000 in
theorem kX5_judgeTake (l : Launch) (D : va_G) (E : Nat → Nat) (cI cC : ClassId) (T : Nat → Nat) (M : Mem) (napkin : Int) (h1 : -2147483648 ≤ napkin ∧ napkin < 2147483648) (hC : CI M) (r : Int) (hE : fX5_judgeTake M napkin = r) : Ci l yX5_judgeTake wsX5_judgeTake 2 44 [.ref (E 1), .int (iI napkin)] D (TY cI cC) (VC E cI cC) (ZC E cI cC T) M r M := by
  refine Ci.of (cc := cX5_judgeTake) (maxL := 2) (ret := (some .int)) (by decide +kernel) rfl (Nat.le_of_ble_eq_true rfl) ?_
  intro p e s m args below meth c ls hx hb hml hr hown hts hlocks hP hK hD hZ hS hl
  have hl : lv_has ls 2 [(0, .ref (E 1)), (1, .int (iI napkin))] := hl
  have S0 : CallFix p m c cX5_judgeTake 2 s args wsX5_judgeTake RX5 := ⟨hx, hb, hml, hown, hts⟩
  have hinX5 : ∀ w ∈ u_ws RX5 TX5 2, w ∈ wsX5_judgeTake := by decide +kernel
  rw [fX5_judgeTake] at hE
  refine lv_aload_n hx hb dX5_judgeTake_0 rfl (lv_at hl 0 rfl) ?_
  refine va_get (own := RX5) (ref := "NapkinSyntax$Service") (C := RX5) (T := TX5) (N := 2) hx hb hts hinX5 hown hK hP 1 VC_1 rfl 0 (Nat.le_of_ble_eq_true rfl) (hts (.fieldLink RX5 12 "NapkinSyntax$Service" "state" "LNapkinSyntax$State;") (by decide +kernel)) (fun _ h => h) (v := .ref (E 2)) rfl dX5_judgeTake_1 ?_
  refine lv_iload_n hx hb dX5_judgeTake_4 rfl (lv_at hl 1 rfl) ?_
  refine ct_Vi (VC_fix E cI cC) (ZC_ok E cI cC T) (ZC_bl E cI cC T) hZ S0 (kX6_hasNapkin l D E cI cC (ZC E cI cC T) (ZC_ok E cI cC T) (ZC_bl E cI cC T) M napkin (by omega) hC (fX6_hasNapkin M napkin) rfl) (cwV 1 hts gX5_judgeTake_X6_hasNapkin rfl rfl rfl (by decide +kernel) ⟨(Nat.le_of_ble_eq_true rfl), (Nat.le_of_ble_eq_true rfl)⟩) hK hP hD hS rfl rfl VC_2 rfl hl.1 rfl (Nat.le_of_ble_eq_true rfl) dX5_judgeTake_5 ⟨Nat.zero_le _, Nat.zero_le _⟩ (fun H locs hP hD hS => ?_)
  have q1 := bX6_hasNapkin M napkin
  refine z_if_ne hx hb dX5_judgeTake_8 (tgt := 13) rfl (by omega) (fun b2 => ?_) (fun b2 => ?_)
  · rw [if_neg b2] at hE
    refine lv_aload_n hx hb dX5_judgeTake_13 rfl (lv_at hl 0 rfl) ?_
    refine va_get (own := RX5) (ref := "NapkinSyntax$Service") (C := RX5) (T := TX5) (N := 2) hx hb hts hinX5 hown hK hP 1 VC_1 rfl 0 (Nat.le_of_ble_eq_true rfl) (hts (.fieldLink RX5 12 "NapkinSyntax$Service" "state" "LNapkinSyntax$State;") (by decide +kernel)) (fun _ h => h) (v := .ref (E 2)) rfl dX5_judgeTake_14 ?_
    refine lv_iload_n hx hb dX5_judgeTake_17 rfl (lv_at hl 1 rfl) ?_
    refine ct_Vi (VC_fix E cI cC) (ZC_ok E cI cC T) (ZC_bl E cI cC T) hZ S0 (kX6_tableUnder l D E cI cC (ZC E cI cC T) (ZC_ok E cI cC T) (ZC_bl E cI cC T) M napkin (by omega) hC (fX6_tableUnder M napkin) rfl) (cwV 1 hts gX5_judgeTake_X6_tableUnder rfl rfl rfl (by decide +kernel) ⟨(Nat.le_of_ble_eq_true rfl), (Nat.le_of_ble_eq_true rfl)⟩) hK hP hD hS rfl rfl VC_2 rfl hl.1 rfl (Nat.le_of_ble_eq_true rfl) dX5_judgeTake_18 ⟨Nat.zero_le _, Nat.zero_le _⟩ (fun H locs hP hD hS => ?_)
    have q3 := rg_X6_tableUnder M napkin
    refine z_iconst hx hb dX5_judgeTake_21 ?_
    refine z_icmp_eq hx hb dX5_judgeTake_22 (tgt := 29) rfl (by omega) (by omega) (fun b4 => ?_) (fun b4 => ?_)
    · rw [if_pos b4] at hE
      refine z_iconst hx hb dX5_judgeTake_29 ?_
      refine lv_iload_n hx hb dX5_judgeTake_30 rfl (lv_at hl 1 rfl) ?_
      refine ct_Ni (VC_fix E cI cC) (ZC_ok E cI cC T) (ZC_bl E cI cC T) hZ S0 (kX8_refusedFor l D E cI cC (ZC E cI cC T) (ZC_ok E cI cC T) (ZC_bl E cI cC T) M (5) napkin  (fX8_refusedFor (5) napkin) rfl) ⟨va_cnB 2 hts gX5_judgeTake_X8_refusedFor_n111 rfl rfl rfl (ZC_nX5_111 hZ) (hts (.initialized RX8) (by decide +kernel)) (by decide +kernel) ⟨(Nat.le_of_ble_eq_true rfl), (Nat.le_of_ble_eq_true rfl)⟩, hts (.static yX8_refusedFor) (by decide +kernel), trivial⟩ hK hP hD hS rfl hl.1 rfl (Nat.le_of_ble_eq_true rfl) dX5_judgeTake_31 ⟨Nat.zero_le _, Nat.zero_le _⟩ (fun H locs hP hD hS => ?_)
      exact ci_i hx hb hr hlocks hE rfl hS hP dX5_judgeTake_34
    · rw [if_neg b4] at hE
      refine z_iconst hx hb dX5_judgeTake_25 ?_
      refine lv_goto hx hb dX5_judgeTake_26 (tgt := 34) rfl ?_
      exact ci_i hx hb hr hlocks hE rfl hS hP dX5_judgeTake_34
  · rw [if_pos b2] at hE
    refine z_iconst hx hb dX5_judgeTake_11 ?_
    exact ci_i hx hb hr hlocks hE rfl hS hP dX5_judgeTake_12

def fX5_judgeMove (M : Mem) (table fro to : Int) : Int := if ((fX8_isTable table) = 0) then (-1) else if ((fX6_hasPlace M table fro) = 0) then (-1) else if ((fX6_hasPlace M table to) = 0) then (-1) else if (fro = to) then (fX8_refusedFor (2) to) else (0)
set_option maxRecDepth 100000 in
set_option maxHeartbeats 4000000 in
theorem kX5_judgeMove (l : Launch) (D : va_G) (E : Nat → Nat) (cI cC : ClassId) (T : Nat → Nat) (M : Mem) (table fro to : Int) (h1 : -2147483648 ≤ table ∧ table < 2147483648) (h2 : -2147483648 ≤ fro ∧ fro < 2147483648) (h3 : -2147483648 ≤ to ∧ to < 2147483648) (hC : CI M) (r : Int) (hE : fX5_judgeMove M table fro to = r) : Ci l yX5_judgeMove wsX5_judgeMove 3 65 [.ref (E 1), .int (iI table), .int (iI fro), .int (iI to)] D (TY cI cC) (VC E cI cC) (ZC E cI cC T) M r M := by
  refine Ci.of (cc := cX5_judgeMove) (maxL := 4) (ret := (some .int)) (by decide +kernel) rfl (Nat.le_of_ble_eq_true rfl) ?_
  intro p e s m args below meth c ls hx hb hml hr hown hts hlocks hP hK hD hZ hS hl
  have hl : lv_has ls 4 [(0, .ref (E 1)), (1, .int (iI table)), (2, .int (iI fro)), (3, .int (iI to))] := hl
  have S0 : CallFix p m c cX5_judgeMove 4 s args wsX5_judgeMove RX5 := ⟨hx, hb, hml, hown, hts⟩
  have hinX5 : ∀ w ∈ u_ws RX5 TX5 2, w ∈ wsX5_judgeMove := by decide +kernel
  rw [fX5_judgeMove] at hE
  refine lv_iload_n hx hb dX5_judgeMove_0 rfl (lv_at hl 1 rfl) ?_
  refine ct_Ni (VC_fix E cI cC) (ZC_ok E cI cC T) (ZC_bl E cI cC T) hZ S0 (kX8_isTable l D E cI cC (ZC E cI cC T) (ZC_ok E cI cC T) (ZC_bl E cI cC T) M table (by omega) (fX8_isTable table) rfl) ⟨va_cnB 1 hts gX5_judgeMove_X8_isTable_n124 rfl rfl rfl (ZC_nX5_124 hZ) (hts (.initialized RX8) (by decide +kernel)) (by decide +kernel) ⟨(Nat.le_of_ble_eq_true rfl), (Nat.le_of_ble_eq_true rfl)⟩, hts (.static yX8_isTable) (by decide +kernel), trivial⟩ hK hP hD hS rfl hl.1 rfl (Nat.le_of_ble_eq_true rfl) dX5_judgeMove_1 ⟨Nat.zero_le _, Nat.zero_le _⟩ (fun H locs hP hD hS => ?_)
  have q1 := bX8_isTable table
  refine z_if_eq hx hb dX5_judgeMove_4 (tgt := 31) rfl (by omega) (fun b2 => ?_) (fun b2 => ?_)
  · rw [if_pos b2] at hE
    refine z_iconst hx hb dX5_judgeMove_31 ?_
    exact ci_i hx hb hr hlocks hE rfl hS hP dX5_judgeMove_32
  · rw [if_neg b2] at hE
    refine lv_aload_n hx hb dX5_judgeMove_7 rfl (lv_at hl 0 rfl) ?_
    refine va_get (own := RX5) (ref := "NapkinSyntax$Service") (C := RX5) (T := TX5) (N := 2) hx hb hts hinX5 hown hK hP 1 VC_1 rfl 0 (Nat.le_of_ble_eq_true rfl) (hts (.fieldLink RX5 12 "NapkinSyntax$Service" "state" "LNapkinSyntax$State;") (by decide +kernel)) (fun _ h => h) (v := .ref (E 2)) rfl dX5_judgeMove_8 ?_
    refine lv_iload_n hx hb dX5_judgeMove_11 rfl (lv_at hl 1 rfl) ?_
    refine lv_iload_n hx hb dX5_judgeMove_12 rfl (lv_at hl 2 rfl) ?_
    refine ct_Vi (VC_fix E cI cC) (ZC_ok E cI cC T) (ZC_bl E cI cC T) hZ S0 (kX6_hasPlace l D E cI cC (ZC E cI cC T) (ZC_ok E cI cC T) (ZC_bl E cI cC T) M table fro (by omega) (by omega) hC (fX6_hasPlace M table fro) rfl) (cwV 2 hts gX5_judgeMove_X6_hasPlace rfl rfl rfl (by decide +kernel) ⟨(Nat.le_of_ble_eq_true rfl), (Nat.le_of_ble_eq_true rfl)⟩) hK hP hD hS rfl rfl VC_2 rfl hl.1 rfl (Nat.le_of_ble_eq_true rfl) dX5_judgeMove_13 ⟨Nat.zero_le _, Nat.zero_le _⟩ (fun H locs hP hD hS => ?_)
    have q3 := bX6_hasPlace M table fro
    refine z_if_eq hx hb dX5_judgeMove_16 (tgt := 31) rfl (by omega) (fun b4 => ?_) (fun b4 => ?_)
    · rw [if_pos b4] at hE
      refine z_iconst hx hb dX5_judgeMove_31 ?_
      exact ci_i hx hb hr hlocks hE rfl hS hP dX5_judgeMove_32
    · rw [if_neg b4] at hE
      refine lv_aload_n hx hb dX5_judgeMove_19 rfl (lv_at hl 0 rfl) ?_
      refine va_get (own := RX5) (ref := "NapkinSyntax$Service") (C := RX5) (T := TX5) (N := 2) hx hb hts hinX5 hown hK hP 1 VC_1 rfl 0 (Nat.le_of_ble_eq_true rfl) (hts (.fieldLink RX5 12 "NapkinSyntax$Service" "state" "LNapkinSyntax$State;") (by decide +kernel)) (fun _ h => h) (v := .ref (E 2)) rfl dX5_judgeMove_20 ?_
      refine lv_iload_n hx hb dX5_judgeMove_23 rfl (lv_at hl 1 rfl) ?_
      refine lv_iload_n hx hb dX5_judgeMove_24 rfl (lv_at hl 3 rfl) ?_
      refine ct_Vi (VC_fix E cI cC) (ZC_ok E cI cC T) (ZC_bl E cI cC T) hZ S0 (kX6_hasPlace l D E cI cC (ZC E cI cC T) (ZC_ok E cI cC T) (ZC_bl E cI cC T) M table to (by omega) (by omega) hC (fX6_hasPlace M table to) rfl) (cwV 2 hts gX5_judgeMove_X6_hasPlace rfl rfl rfl (by decide +kernel) ⟨(Nat.le_of_ble_eq_true rfl), (Nat.le_of_ble_eq_true rfl)⟩) hK hP hD hS rfl rfl VC_2 rfl hl.1 rfl (Nat.le_of_ble_eq_true rfl) dX5_judgeMove_25 ⟨Nat.zero_le _, Nat.zero_le _⟩ (fun H locs hP hD hS => ?_)
      have q5 := bX6_hasPlace M table to
      refine z_if_ne hx hb dX5_judgeMove_28 (tgt := 33) rfl (by omega) (fun b6 => ?_) (fun b6 => ?_)
      · rw [if_neg b6] at hE
        refine lv_iload_n hx hb dX5_judgeMove_33 rfl (lv_at hl 2 rfl) ?_
        refine lv_iload_n hx hb dX5_judgeMove_34 rfl (lv_at hl 3 rfl) ?_
        refine z_icmp_eq hx hb dX5_judgeMove_35 (tgt := 42) rfl (by omega) (by omega) (fun b7 => ?_) (fun b7 => ?_)
        · rw [if_pos b7] at hE
          refine z_iconst hx hb dX5_judgeMove_42 ?_
          refine lv_iload_n hx hb dX5_judgeMove_43 rfl (lv_at hl 3 rfl) ?_
          refine ct_Ni (VC_fix E cI cC) (ZC_ok E cI cC T) (ZC_bl E cI cC T) hZ S0 (kX8_refusedFor l D E cI cC (ZC E cI cC T) (ZC_ok E cI cC T) (ZC_bl E cI cC T) M (2) to  (fX8_refusedFor (2) to) rfl) ⟨va_cnB 2 hts gX5_judgeMove_X8_refusedFor_n111 rfl rfl rfl (ZC_nX5_111 hZ) (hts (.initialized RX8) (by decide +kernel)) (by decide +kernel) ⟨(Nat.le_of_ble_eq_true rfl), (Nat.le_of_ble_eq_true rfl)⟩, hts (.static yX8_refusedFor) (by decide +kernel), trivial⟩ hK hP hD hS rfl hl.1 rfl (Nat.le_of_ble_eq_true rfl) dX5_judgeMove_44 ⟨Nat.zero_le _, Nat.zero_le _⟩ (fun H locs hP hD hS => ?_)
          exact ci_i hx hb hr hlocks hE rfl hS hP dX5_judgeMove_47
        · rw [if_neg b7] at hE
          refine z_iconst hx hb dX5_judgeMove_38 ?_
          refine lv_goto hx hb dX5_judgeMove_39 (tgt := 47) rfl ?_
          exact ci_i hx hb hr hlocks hE rfl hS hP dX5_judgeMove_47
      · rw [if_pos b6] at hE
        refine z_iconst hx hb dX5_judgeMove_31 ?_
        exact ci_i hx hb hr hlocks hE rfl hS hP dX5_judgeMove_32

def fX5_judgeStain (M : Mem) (napkin much : Int) : Int := if ((fX6_hasNapkin M napkin) = 0) then (-1) else if (much < (1)) then (-2) else if (much ≤ (9)) then if ((9) < ((fX6_stainsOf M napkin) + much)) then (fX8_refusedFor (6) (fX6_stainsOf M napkin)) else (0) else (-2)
set_option maxRecDepth 100000 in
set_option maxHeartbeats 4000000 in
theorem kX5_judgeStain (l : Launch) (D : va_G) (E : Nat → Nat) (cI cC : ClassId) (T : Nat → Nat) (M : Mem) (napkin much : Int) (h1 : -2147483648 ≤ napkin ∧ napkin < 2147483648) (h2 : -2147483648 ≤ much ∧ much < 2147483648) (hC : CI M) (r : Int) (hE : fX5_judgeStain M napkin much = r) : Ci l yX5_judgeStain wsX5_judgeStain 2 43 [.ref (E 1), .int (iI napkin), .int (iI much)] D (TY cI cC) (VC E cI cC) (ZC E cI cC T) M r M := by
  refine Ci.of (cc := cX5_judgeStain) (maxL := 4) (ret := (some .int)) (by decide +kernel) rfl (Nat.le_of_ble_eq_true rfl) ?_
  intro p e s m args below meth c ls hx hb hml hr hown hts hlocks hP hK hD hZ hS hl
  have hl : lv_has ls 4 [(0, .ref (E 1)), (1, .int (iI napkin)), (2, .int (iI much))] := hl
  have S0 : CallFix p m c cX5_judgeStain 4 s args wsX5_judgeStain RX5 := ⟨hx, hb, hml, hown, hts⟩
  have hinX5 : ∀ w ∈ u_ws RX5 TX5 2, w ∈ wsX5_judgeStain := by decide +kernel
  rw [fX5_judgeStain] at hE
  refine lv_aload_n hx hb dX5_judgeStain_0 rfl (lv_at hl 0 rfl) ?_
  refine va_get (own := RX5) (ref := "NapkinSyntax$Service") (C := RX5) (T := TX5) (N := 2) hx hb hts hinX5 hown hK hP 1 VC_1 rfl 0 (Nat.le_of_ble_eq_true rfl) (hts (.fieldLink RX5 12 "NapkinSyntax$Service" "state" "LNapkinSyntax$State;") (by decide +kernel)) (fun _ h => h) (v := .ref (E 2)) rfl dX5_judgeStain_1 ?_
  refine lv_iload_n hx hb dX5_judgeStain_4 rfl (lv_at hl 1 rfl) ?_
  refine ct_Vi (VC_fix E cI cC) (ZC_ok E cI cC T) (ZC_bl E cI cC T) hZ S0 (kX6_hasNapkin l D E cI cC (ZC E cI cC T) (ZC_ok E cI cC T) (ZC_bl E cI cC T) M napkin (by omega) hC (fX6_hasNapkin M napkin) rfl) (cwV 1 hts gX5_judgeStain_X6_hasNapkin rfl rfl rfl (by decide +kernel) ⟨(Nat.le_of_ble_eq_true rfl), (Nat.le_of_ble_eq_true rfl)⟩) hK hP hD hS rfl rfl VC_2 rfl hl.1 rfl (Nat.le_of_ble_eq_true rfl) dX5_judgeStain_5 ⟨Nat.zero_le _, Nat.zero_le _⟩ (fun H locs hP hD hS => ?_)
  have q1 := bX6_hasNapkin M napkin
  refine z_if_ne hx hb dX5_judgeStain_8 (tgt := 13) rfl (by omega) (fun b2 => ?_) (fun b2 => ?_)
  · rw [if_neg b2] at hE
    refine lv_iload_n hx hb dX5_judgeStain_13 rfl (lv_at hl 2 rfl) ?_
    refine z_iconst hx hb dX5_judgeStain_14 ?_
    refine z_icmp_lt hx hb dX5_judgeStain_15 (tgt := 24) rfl (by omega) (by omega) (fun b3 => ?_) (fun b3 => ?_)
    · rw [if_pos b3] at hE
      refine z_bipush hx hb dX5_judgeStain_24 (by decide +kernel) ?_
      exact ci_i hx hb hr hlocks hE rfl hS hP dX5_judgeStain_26
    · rw [if_neg b3] at hE
      refine lv_iload_n hx hb dX5_judgeStain_18 rfl (lv_at hl 2 rfl) ?_
      refine z_bipush hx hb dX5_judgeStain_19 (by decide +kernel) ?_
      refine z_icmp_le hx hb dX5_judgeStain_21 (tgt := 27) rfl (by omega) (by omega) (fun b4 => ?_) (fun b4 => ?_)
      · rw [if_pos b4] at hE
        refine lv_aload_n hx hb dX5_judgeStain_27 rfl (lv_at hl 0 rfl) ?_
        refine va_get (own := RX5) (ref := "NapkinSyntax$Service") (C := RX5) (T := TX5) (N := 2) hx hb hts hinX5 hown hK hP 1 VC_1 rfl 0 (Nat.le_of_ble_eq_true rfl) (hts (.fieldLink RX5 12 "NapkinSyntax$Service" "state" "LNapkinSyntax$State;") (by decide +kernel)) (fun _ h => h) (v := .ref (E 2)) rfl dX5_judgeStain_28 ?_
        refine lv_iload_n hx hb dX5_judgeStain_31 rfl (lv_at hl 1 rfl) ?_
        refine ct_Vi (VC_fix E cI cC) (ZC_ok E cI cC T) (ZC_bl E cI cC T) hZ S0 (kX6_stainsOf l D E cI cC (ZC E cI cC T) (ZC_ok E cI cC T) (ZC_bl E cI cC T) M napkin (by omega) (fX6_stainsOf M napkin) rfl) (cwV 1 hts gX5_judgeStain_X6_stainsOf rfl rfl rfl (by decide +kernel) ⟨(Nat.le_of_ble_eq_true rfl), (Nat.le_of_ble_eq_true rfl)⟩) hK hP hD hS rfl rfl VC_2 rfl hl.1 rfl (Nat.le_of_ble_eq_true rfl) dX5_judgeStain_32 ⟨Nat.zero_le _, Nat.zero_le _⟩ (fun H locs hP hD hS => ?_)
        have q5 := rg_X6_stainsOf hC napkin
        refine lv_istore_n hx hb dX5_judgeStain_35 rfl hl (Nat.le_of_ble_eq_true rfl) (lv' := [(3, .int (iI (fX6_stainsOf M napkin))), (0, .ref (E 1)), (1, .int (iI napkin)), (2, .int (iI much))]) rfl (fun ls hl => ?_)
        refine lv_iload_n hx hb dX5_judgeStain_36 rfl (lv_at hl 0 rfl) ?_
        refine lv_iload_n hx hb dX5_judgeStain_37 rfl (lv_at hl 3 rfl) ?_
        refine z_iadd hx hb dX5_judgeStain_38 ?_
        refine z_bipush hx hb dX5_judgeStain_39 (by decide +kernel) ?_
        refine z_icmp_gt hx hb dX5_judgeStain_41 (tgt := 48) rfl (by omega) (by omega) (fun b6 => ?_) (fun b6 => ?_)
        · rw [if_pos b6] at hE
          refine z_bipush hx hb dX5_judgeStain_48 (by decide +kernel) ?_
          refine lv_iload_n hx hb dX5_judgeStain_50 rfl (lv_at hl 0 rfl) ?_
          refine ct_Ni (VC_fix E cI cC) (ZC_ok E cI cC T) (ZC_bl E cI cC T) hZ S0 (kX8_refusedFor l D E cI cC (ZC E cI cC T) (ZC_ok E cI cC T) (ZC_bl E cI cC T) M (6) (fX6_stainsOf M napkin)  (fX8_refusedFor (6) (fX6_stainsOf M napkin)) rfl) ⟨va_cnB 2 hts gX5_judgeStain_X8_refusedFor_n111 rfl rfl rfl (ZC_nX5_111 hZ) (hts (.initialized RX8) (by decide +kernel)) (by decide +kernel) ⟨(Nat.le_of_ble_eq_true rfl), (Nat.le_of_ble_eq_true rfl)⟩, hts (.static yX8_refusedFor) (by decide +kernel), trivial⟩ hK hP hD hS rfl hl.1 rfl (Nat.le_of_ble_eq_true rfl) dX5_judgeStain_51 ⟨Nat.zero_le _, Nat.zero_le _⟩ (fun H locs hP hD hS => ?_)
          exact ci_i hx hb hr hlocks hE rfl hS hP dX5_judgeStain_54
        · rw [if_neg b6] at hE
          refine z_iconst hx hb dX5_judgeStain_44 ?_
          refine lv_goto hx hb dX5_judgeStain_45 (tgt := 54) rfl ?_
          exact ci_i hx hb hr hlocks hE rfl hS hP dX5_judgeStain_54
      · rw [if_neg b4] at hE
        refine z_bipush hx hb dX5_judgeStain_24 (by decide +kernel) ?_
        exact ci_i hx hb hr hlocks hE rfl hS hP dX5_judgeStain_26
  · rw [if_pos b2] at hE
    refine z_iconst hx hb dX5_judgeStain_11 ?_
    exact ci_i hx hb hr hlocks hE rfl hS hP dX5_judgeStain_12

def fX5_judgeWash (M : Mem) (napkin : Int) : Int := if ((fX6_hasNapkin M napkin) = 0) then (-1) else if ((fX6_tableUnder M napkin) = (-1)) then if ((fX6_stainsOf M napkin) ≤ 0) then (fX8_refusedFor (7) napkin) else (0) else (fX8_refusedFor (4) (fX6_tableUnder M napkin))
set_option maxRecDepth 100000 in
set_option maxHeartbeats 4000000 in
theorem kX5_judgeWash (l : Launch) (D : va_G) (E : Nat → Nat) (cI cC : ClassId) (T : Nat → Nat) (M : Mem) (napkin : Int) (h1 : -2147483648 ≤ napkin ∧ napkin < 2147483648) (hC : CI M) (r : Int) (hE : fX5_judgeWash M napkin = r) : Ci l yX5_judgeWash wsX5_judgeWash 2 44 [.ref (E 1), .int (iI napkin)] D (TY cI cC) (VC E cI cC) (ZC E cI cC T) M r M := by
  refine Ci.of (cc := cX5_judgeWash) (maxL := 2) (ret := (some .int)) (by decide +kernel) rfl (Nat.le_of_ble_eq_true rfl) ?_
  intro p e s m args below meth c ls hx hb hml hr hown hts hlocks hP hK hD hZ hS hl
  have hl : lv_has ls 2 [(0, .ref (E 1)), (1, .int (iI napkin))] := hl
  have S0 : CallFix p m c cX5_judgeWash 2 s args wsX5_judgeWash RX5 := ⟨hx, hb, hml, hown, hts⟩
  have hinX5 : ∀ w ∈ u_ws RX5 TX5 2, w ∈ wsX5_judgeWash := by decide +kernel
  rw [fX5_judgeWash] at hE
  refine lv_aload_n hx hb dX5_judgeWash_0 rfl (lv_at hl 0 rfl) ?_
  refine va_get (own := RX5) (ref := "NapkinSyntax$Service") (C := RX5) (T := TX5) (N := 2) hx hb hts hinX5 hown hK hP 1 VC_1 rfl 0 (Nat.le_of_ble_eq_true rfl) (hts (.fieldLink RX5 12 "NapkinSyntax$Service" "state" "LNapkinSyntax$State;") (by decide +kernel)) (fun _ h => h) (v := .ref (E 2)) rfl dX5_judgeWash_1 ?_
  refine lv_iload_n hx hb dX5_judgeWash_4 rfl (lv_at hl 1 rfl) ?_
  refine ct_Vi (VC_fix E cI cC) (ZC_ok E cI cC T) (ZC_bl E cI cC T) hZ S0 (kX6_hasNapkin l D E cI cC (ZC E cI cC T) (ZC_ok E cI cC T) (ZC_bl E cI cC T) M napkin (by omega) hC (fX6_hasNapkin M napkin) rfl) (cwV 1 hts gX5_judgeWash_X6_hasNapkin rfl rfl rfl (by decide +kernel) ⟨(Nat.le_of_ble_eq_true rfl), (Nat.le_of_ble_eq_true rfl)⟩) hK hP hD hS rfl rfl VC_2 rfl hl.1 rfl (Nat.le_of_ble_eq_true rfl) dX5_judgeWash_5 ⟨Nat.zero_le _, Nat.zero_le _⟩ (fun H locs hP hD hS => ?_)
  have q1 := bX6_hasNapkin M napkin
  refine z_if_ne hx hb dX5_judgeWash_8 (tgt := 13) rfl (by omega) (fun b2 => ?_) (fun b2 => ?_)
  · rw [if_neg b2] at hE
    refine lv_aload_n hx hb dX5_judgeWash_13 rfl (lv_at hl 0 rfl) ?_
    refine va_get (own := RX5) (ref := "NapkinSyntax$Service") (C := RX5) (T := TX5) (N := 2) hx hb hts hinX5 hown hK hP 1 VC_1 rfl 0 (Nat.le_of_ble_eq_true rfl) (hts (.fieldLink RX5 12 "NapkinSyntax$Service" "state" "LNapkinSyntax$State;") (by decide +kernel)) (fun _ h => h) (v := .ref (E 2)) rfl dX5_judgeWash_14 ?_
    refine lv_iload_n hx hb dX5_judgeWash_17 rfl (lv_at hl 1 rfl) ?_
    refine ct_Vi (VC_fix E cI cC) (ZC_ok E cI cC T) (ZC_bl E cI cC T) hZ S0 (kX6_tableUnder l D E cI cC (ZC E cI cC T) (ZC_ok E cI cC T) (ZC_bl E cI cC T) M napkin (by omega) hC (fX6_tableUnder M napkin) rfl) (cwV 1 hts gX5_judgeWash_X6_tableUnder rfl rfl rfl (by decide +kernel) ⟨(Nat.le_of_ble_eq_true rfl), (Nat.le_of_ble_eq_true rfl)⟩) hK hP hD hS rfl rfl VC_2 rfl hl.1 rfl (Nat.le_of_ble_eq_true rfl) dX5_judgeWash_18 ⟨Nat.zero_le _, Nat.zero_le _⟩ (fun H locs hP hD hS => ?_)
    have q3 := rg_X6_tableUnder M napkin
    refine z_iconst hx hb dX5_judgeWash_21 ?_
    refine z_icmp_eq hx hb dX5_judgeWash_22 (tgt := 38) rfl (by omega) (by omega) (fun b4 => ?_) (fun b4 => ?_)
    · rw [if_pos b4] at hE
      refine lv_aload_n hx hb dX5_judgeWash_38 rfl (lv_at hl 0 rfl) ?_
      refine va_get (own := RX5) (ref := "NapkinSyntax$Service") (C := RX5) (T := TX5) (N := 2) hx hb hts hinX5 hown hK hP 1 VC_1 rfl 0 (Nat.le_of_ble_eq_true rfl) (hts (.fieldLink RX5 12 "NapkinSyntax$Service" "state" "LNapkinSyntax$State;") (by decide +kernel)) (fun _ h => h) (v := .ref (E 2)) rfl dX5_judgeWash_39 ?_
      refine lv_iload_n hx hb dX5_judgeWash_42 rfl (lv_at hl 1 rfl) ?_
      refine ct_Vi (VC_fix E cI cC) (ZC_ok E cI cC T) (ZC_bl E cI cC T) hZ S0 (kX6_stainsOf l D E cI cC (ZC E cI cC T) (ZC_ok E cI cC T) (ZC_bl E cI cC T) M napkin (by omega) (fX6_stainsOf M napkin) rfl) (cwV 1 hts gX5_judgeWash_X6_stainsOf rfl rfl rfl (by decide +kernel) ⟨(Nat.le_of_ble_eq_true rfl), (Nat.le_of_ble_eq_true rfl)⟩) hK hP hD hS rfl rfl VC_2 rfl hl.1 rfl (Nat.le_of_ble_eq_true rfl) dX5_judgeWash_43 ⟨Nat.zero_le _, Nat.zero_le _⟩ (fun H locs hP hD hS => ?_)
      have q5 := rg_X6_stainsOf hC napkin
      refine z_if_le hx hb dX5_judgeWash_46 (tgt := 53) rfl (by omega) (fun b6 => ?_) (fun b6 => ?_)
      · rw [if_pos b6] at hE
        refine z_bipush hx hb dX5_judgeWash_53 (by decide +kernel) ?_
        refine lv_iload_n hx hb dX5_judgeWash_55 rfl (lv_at hl 1 rfl) ?_
        refine ct_Ni (VC_fix E cI cC) (ZC_ok E cI cC T) (ZC_bl E cI cC T) hZ S0 (kX8_refusedFor l D E cI cC (ZC E cI cC T) (ZC_ok E cI cC T) (ZC_bl E cI cC T) M (7) napkin  (fX8_refusedFor (7) napkin) rfl) ⟨va_cnB 2 hts gX5_judgeWash_X8_refusedFor_n111 rfl rfl rfl (ZC_nX5_111 hZ) (hts (.initialized RX8) (by decide +kernel)) (by decide +kernel) ⟨(Nat.le_of_ble_eq_true rfl), (Nat.le_of_ble_eq_true rfl)⟩, hts (.static yX8_refusedFor) (by decide +kernel), trivial⟩ hK hP hD hS rfl hl.1 rfl (Nat.le_of_ble_eq_true rfl) dX5_judgeWash_56 ⟨Nat.zero_le _, Nat.zero_le _⟩ (fun H locs hP hD hS => ?_)
        exact ci_i hx hb hr hlocks hE rfl hS hP dX5_judgeWash_59
      · rw [if_neg b6] at hE
        refine z_iconst hx hb dX5_judgeWash_49 ?_
        refine lv_goto hx hb dX5_judgeWash_50 (tgt := 59) rfl ?_
        exact ci_i hx hb hr hlocks hE rfl hS hP dX5_judgeWash_59
    · rw [if_neg b4] at hE
      refine z_iconst hx hb dX5_judgeWash_25 ?_
      refine lv_aload_n hx hb dX5_judgeWash_26 rfl (lv_at hl 0 rfl) ?_
      refine va_get (own := RX5) (ref := "NapkinSyntax$Service") (C := RX5) (T := TX5) (N := 2) hx hb hts hinX5 hown hK hP 1 VC_1 rfl 0 (Nat.le_of_ble_eq_true rfl) (hts (.fieldLink RX5 12 "NapkinSyntax$Service" "state" "LNapkinSyntax$State;") (by decide +kernel)) (fun _ h => h) (v := .ref (E 2)) rfl dX5_judgeWash_27 ?_
      refine lv_iload_n hx hb dX5_judgeWash_30 rfl (lv_at hl 1 rfl) ?_
      refine ct_Vi (VC_fix E cI cC) (ZC_ok E cI cC T) (ZC_bl E cI cC T) hZ S0 (kX6_tableUnder l D E cI cC (ZC E cI cC T) (ZC_ok E cI cC T) (ZC_bl E cI cC T) M napkin (by omega) hC (fX6_tableUnder M napkin) rfl) (cwV 1 hts gX5_judgeWash_X6_tableUnder rfl rfl rfl (by decide +kernel) ⟨(Nat.le_of_ble_eq_true rfl), (Nat.le_of_ble_eq_true rfl)⟩) hK hP hD hS rfl rfl VC_2 rfl hl.1 rfl (Nat.le_of_ble_eq_true rfl) dX5_judgeWash_31 ⟨Nat.zero_le _, Nat.zero_le _⟩ (fun H locs hP hD hS => ?_)
      have q7 := rg_X6_tableUnder M napkin
      refine ct_Ni (VC_fix E cI cC) (ZC_ok E cI cC T) (ZC_bl E cI cC T) hZ S0 (kX8_refusedFor l D E cI cC (ZC E cI cC T) (ZC_ok E cI cC T) (ZC_bl E cI cC T) M (4) (fX6_tableUnder M napkin)  (fX8_refusedFor (4) (fX6_tableUnder M napkin)) rfl) ⟨va_cnB 2 hts gX5_judgeWash_X8_refusedFor_n111 rfl rfl rfl (ZC_nX5_111 hZ) (hts (.initialized RX8) (by decide +kernel)) (by decide +kernel) ⟨(Nat.le_of_ble_eq_true rfl), (Nat.le_of_ble_eq_true rfl)⟩, hts (.static yX8_refusedFor) (by decide +kernel), trivial⟩ hK hP hD hS rfl hl.1 rfl (Nat.le_of_ble_eq_true rfl) dX5_judgeWash_34 ⟨Nat.zero_le _, Nat.zero_le _⟩ (fun H locs hP hD hS => ?_)
      exact ci_i hx hb hr hlocks hE rfl hS hP dX5_judgeWash_37
  · rw [if_pos b2] at hE
    refine z_iconst hx hb dX5_judgeWash_11 ?_
    exact ci_i hx hb hr hlocks hE rfl hS hP dX5_judgeWash_12

def fX5_judgeRead (M : Mem) (table : Int) : Int × Mem := if ((fX8_isTable table) = 0) then ((-1), M) else if ((fX4_size (fX4_hear M table)) ≤ 0) then ((fX8_refusedFor (8) (fX6_laidOn (fX4_hear M table) table)), (fX4_hear M table)) else ((0), (fX4_hear M table))
set_option maxRecDepth 100000 in
set_option maxHeartbeats 4000000 in
theorem kX5_judgeRead (l : Launch) (D : va_G) (E : Nat → Nat) (cI cC : ClassId) (T : Nat → Nat) (M : Mem) (table : Int) (h1 : -2147483648 ≤ table ∧ table < 2147483648) (hC : CI M) (hQ : SI M) (r : Int) (M' : Mem) (hE : fX5_judgeRead M table = (r, M')) : Ci l yX5_judgeRead wsX5_judgeRead 3 67 [.ref (E 1), .int (iI table)] D (TY cI cC) (VC E cI cC) (ZC E cI cC T) M r M' := by
  refine Ci.of (cc := cX5_judgeRead) (maxL := 2) (ret := (some .int)) (by decide +kernel) rfl (Nat.le_of_ble_eq_true rfl) ?_
  intro p e s m args below meth c ls hx hb hml hr hown hts hlocks hP hK hD hZ hS hl
  have hl : lv_has ls 2 [(0, .ref (E 1)), (1, .int (iI table))] := hl
  have S0 : CallFix p m c cX5_judgeRead 2 s args wsX5_judgeRead RX5 := ⟨hx, hb, hml, hown, hts⟩
  have hinX5 : ∀ w ∈ u_ws RX5 TX5 2, w ∈ wsX5_judgeRead := by decide +kernel
  rw [fX5_judgeRead] at hE
  refine lv_iload_n hx hb dX5_judgeRead_0 rfl (lv_at hl 1 rfl) ?_
  refine ct_Ni (VC_fix E cI cC) (ZC_ok E cI cC T) (ZC_bl E cI cC T) hZ S0 (kX8_isTable l D E cI cC (ZC E cI cC T) (ZC_ok E cI cC T) (ZC_bl E cI cC T) M table (by omega) (fX8_isTable table) rfl) ⟨va_cnB 1 hts gX5_judgeRead_X8_isTable_n124 rfl rfl rfl (ZC_nX5_124 hZ) (hts (.initialized RX8) (by decide +kernel)) (by decide +kernel) ⟨(Nat.le_of_ble_eq_true rfl), (Nat.le_of_ble_eq_true rfl)⟩, hts (.static yX8_isTable) (by decide +kernel), trivial⟩ hK hP hD hS rfl hl.1 rfl (Nat.le_of_ble_eq_true rfl) dX5_judgeRead_1 ⟨Nat.zero_le _, Nat.zero_le _⟩ (fun H locs hP hD hS => ?_)
  have q1 := bX8_isTable table
  refine z_if_ne hx hb dX5_judgeRead_4 (tgt := 9) rfl (by omega) (fun b2 => ?_) (fun b2 => ?_)
  · rw [if_neg b2] at hE
    refine lv_aload_n hx hb dX5_judgeRead_9 rfl (lv_at hl 0 rfl) ?_
    refine va_get (own := RX5) (ref := "NapkinSyntax$Service") (C := RX5) (T := TX5) (N := 2) hx hb hts hinX5 hown hK hP 1 VC_1 rfl 1 (Nat.le_of_ble_eq_true rfl) (hts (.fieldLink RX5 21 "NapkinSyntax$Service" "sentence" "LNapkinSyntax$Sentence;") (by decide +kernel)) (fun _ h => h) (v := .ref (E 4)) rfl dX5_judgeRead_10 ?_
    refine lv_aload_n hx hb dX5_judgeRead_13 rfl (lv_at hl 0 rfl) ?_
    refine va_get (own := RX5) (ref := "NapkinSyntax$Service") (C := RX5) (T := TX5) (N := 2) hx hb hts hinX5 hown hK hP 1 VC_1 rfl 0 (Nat.le_of_ble_eq_true rfl) (hts (.fieldLink RX5 12 "NapkinSyntax$Service" "state" "LNapkinSyntax$State;") (by decide +kernel)) (fun _ h => h) (v := .ref (E 2)) rfl dX5_judgeRead_14 ?_
    refine lv_iload_n hx hb dX5_judgeRead_17 rfl (lv_at hl 1 rfl) ?_
    refine ct_Vv (VC_fix E cI cC) (ZC_ok E cI cC T) (ZC_bl E cI cC T) hZ S0 (kX4_hear l D E cI cC (ZC E cI cC T) (ZC_ok E cI cC T) (ZC_bl E cI cC T) M table (by omega) hC (fX4_hear M table) rfl) (cwV 2 hts gX5_judgeRead_X4_hear rfl rfl rfl (by decide +kernel) ⟨(Nat.le_of_ble_eq_true rfl), (Nat.le_of_ble_eq_true rfl)⟩) hK hP hD hS rfl rfl VC_4 rfl hl.1 rfl (Nat.le_of_ble_eq_true rfl) dX5_judgeRead_18 ⟨Nat.zero_le _, Nat.zero_le _⟩ (fun H locs hP hD hS => ?_)
    refine lv_aload_n hx hb dX5_judgeRead_21 rfl (lv_at hl 0 rfl) ?_
    refine va_get (own := RX5) (ref := "NapkinSyntax$Service") (C := RX5) (T := TX5) (N := 2) hx hb hts hinX5 hown hK hP 1 VC_1 rfl 1 (Nat.le_of_ble_eq_true rfl) (hts (.fieldLink RX5 21 "NapkinSyntax$Service" "sentence" "LNapkinSyntax$Sentence;") (by decide +kernel)) (fun _ h => h) (v := .ref (E 4)) rfl dX5_judgeRead_22 ?_
    refine ct_Vi (VC_fix E cI cC) (ZC_ok E cI cC T) (ZC_bl E cI cC T) hZ S0 (kX4_size l D E cI cC (ZC E cI cC T) (ZC_ok E cI cC T) (ZC_bl E cI cC T) (fX4_hear M table) (SI_hear hC hQ table) (fX4_size (fX4_hear M table)) rfl) (cwV 0 hts gX5_judgeRead_X4_size rfl rfl rfl (by decide +kernel) ⟨(Nat.le_of_ble_eq_true rfl), (Nat.le_of_ble_eq_true rfl)⟩) hK hP hD hS rfl rfl VC_4 rfl hl.1 rfl (Nat.le_of_ble_eq_true rfl) dX5_judgeRead_25 ⟨Nat.zero_le _, Nat.zero_le _⟩ (fun H locs hP hD hS => ?_)
    have q3 := rg_X4_size (SI_hear hC hQ table)
    refine z_if_le hx hb dX5_judgeRead_28 (tgt := 35) rfl (by omega) (fun b4 => ?_) (fun b4 => ?_)
    · rw [if_pos b4] at hE
      refine z_bipush hx hb dX5_judgeRead_35 (by decide +kernel) ?_
      refine lv_aload_n hx hb dX5_judgeRead_37 rfl (lv_at hl 0 rfl) ?_
      refine va_get (own := RX5) (ref := "NapkinSyntax$Service") (C := RX5) (T := TX5) (N := 2) hx hb hts hinX5 hown hK hP 1 VC_1 rfl 0 (Nat.le_of_ble_eq_true rfl) (hts (.fieldLink RX5 12 "NapkinSyntax$Service" "state" "LNapkinSyntax$State;") (by decide +kernel)) (fun _ h => h) (v := .ref (E 2)) rfl dX5_judgeRead_38 ?_
      refine lv_iload_n hx hb dX5_judgeRead_41 rfl (lv_at hl 1 rfl) ?_
      refine ct_Vi (VC_fix E cI cC) (ZC_ok E cI cC T) (ZC_bl E cI cC T) hZ S0 (kX6_laidOn l D E cI cC (ZC E cI cC T) (ZC_ok E cI cC T) (ZC_bl E cI cC T) (fX4_hear M table) table (by omega) (fX6_laidOn (fX4_hear M table) table) rfl) (cwV 1 hts gX5_judgeRead_X6_laidOn rfl rfl rfl (by decide +kernel) ⟨(Nat.le_of_ble_eq_true rfl), (Nat.le_of_ble_eq_true rfl)⟩) hK hP hD hS rfl rfl VC_2 rfl hl.1 rfl (Nat.le_of_ble_eq_true rfl) dX5_judgeRead_42 ⟨Nat.zero_le _, Nat.zero_le _⟩ (fun H locs hP hD hS => ?_)
      have q5 := rg_X6_laidOn (CI_of0 (fr_fX4_hear table rfl rfl rfl rfl rfl) hC) table
      refine ct_Ni (VC_fix E cI cC) (ZC_ok E cI cC T) (ZC_bl E cI cC T) hZ S0 (kX8_refusedFor l D E cI cC (ZC E cI cC T) (ZC_ok E cI cC T) (ZC_bl E cI cC T) (fX4_hear M table) (8) (fX6_laidOn (fX4_hear M table) table)  (fX8_refusedFor (8) (fX6_laidOn (fX4_hear M table) table)) rfl) ⟨va_cnB 2 hts gX5_judgeRead_X8_refusedFor_n111 rfl rfl rfl (ZC_nX5_111 hZ) (hts (.initialized RX8) (by decide +kernel)) (by decide +kernel) ⟨(Nat.le_of_ble_eq_true rfl), (Nat.le_of_ble_eq_true rfl)⟩, hts (.static yX8_refusedFor) (by decide +kernel), trivial⟩ hK hP hD hS rfl hl.1 rfl (Nat.le_of_ble_eq_true rfl) dX5_judgeRead_45 ⟨Nat.zero_le _, Nat.zero_le _⟩ (fun H locs hP hD hS => ?_)
      obtain ⟨e1, e2⟩ := Prod.mk.inj hE
      subst e2
      exact ci_i hx hb hr hlocks e1 rfl hS hP dX5_judgeRead_48
    · rw [if_neg b4] at hE
      refine z_iconst hx hb dX5_judgeRead_31 ?_
      refine lv_goto hx hb dX5_judgeRead_32 (tgt := 48) rfl ?_
      obtain ⟨e1, e2⟩ := Prod.mk.inj hE
      subst e2
      exact ci_i hx hb hr hlocks e1 rfl hS hP dX5_judgeRead_48
  · rw [if_pos b2] at hE
    refine z_iconst hx hb dX5_judgeRead_7 ?_
    obtain ⟨e1, e2⟩ := Prod.mk.inj hE
    subst e2
    exact ci_i hx hb hr hlocks e1 rfl hS hP dX5_judgeRead_8

theorem fr_fX5_judgeRead {M : Mem} (table : Int) {r : Nat} (h1 : Nat.beq r 1 = false) (h2 : Nat.beq r 2 = false) (h3 : Nat.beq r 3 = false) (h4 : Nat.beq r 4 = false) (h7 : Nat.beq r 7 = false) : (fX5_judgeRead M table).2 r = M r := by
  unfold fX5_judgeRead
  (repeat' with_reducible refine frite_w (fun _ => ?_) (fun _ => ?_)) <;> first | with_reducible rfl | simp only [mst_o, msf_o, mcp_o, fr_fX4_hear, h1, h2, h3, h4, h7]

def fX5_readByHost (M : Mem) (table : Int) : Int × Mem := ((fX4_phraseCount (fX4_hear M table)), (fX6_noteReading (fX4_hear M table) table (fX4_phraseCount (fX4_hear M table))))
set_option maxRecDepth 100000 in
set_option maxHeartbeats 4000000 in
theorem kX5_readByHost (l : Launch) (D : va_G) (E : Nat → Nat) (cI cC : ClassId) (Z : State → Prop) (hZo : ∀ M : Mem, ZOk (VC E cI cC M) Z) (hZb : ZBl Z) (M : Mem) (table : Int) (h1 : -2147483648 ≤ table ∧ table < 2147483648) (hC : CI M) (hQ : SI M) (r : Int) (M' : Mem) (hE : fX5_readByHost M table = (r, M')) : Ci l yX5_readByHost wsX5_readByHost 3 67 [.ref (E 1), .int (iI table)] D (TY cI cC) (VC E cI cC) Z M r M' := by
  refine Ci.of (cc := cX5_readByHost) (maxL := 3) (ret := (some .int)) (by decide +kernel) rfl (Nat.le_of_ble_eq_true rfl) ?_
  intro p e s m args below meth c ls hx hb hml hr hown hts hlocks hP hK hD hZ hS hl
  have hl : lv_has ls 3 [(0, .ref (E 1)), (1, .int (iI table))] := hl
  have S0 : CallFix p m c cX5_readByHost 3 s args wsX5_readByHost RX5 := ⟨hx, hb, hml, hown, hts⟩
  have hinX5 : ∀ w ∈ u_ws RX5 TX5 2, w ∈ wsX5_readByHost := by decide +kernel
  rw [fX5_readByHost] at hE
  refine lv_aload_n hx hb dX5_readByHost_0 rfl (lv_at hl 0 rfl) ?_
  refine va_get (own := RX5) (ref := "NapkinSyntax$Service") (C := RX5) (T := TX5) (N := 2) hx hb hts hinX5 hown hK hP 1 VC_1 rfl 1 (Nat.le_of_ble_eq_true rfl) (hts (.fieldLink RX5 21 "NapkinSyntax$Service" "sentence" "LNapkinSyntax$Sentence;") (by decide +kernel)) (fun _ h => h) (v := .ref (E 4)) rfl dX5_readByHost_1 ?_
  refine lv_aload_n hx hb dX5_readByHost_4 rfl (lv_at hl 0 rfl) ?_
  refine va_get (own := RX5) (ref := "NapkinSyntax$Service") (C := RX5) (T := TX5) (N := 2) hx hb hts hinX5 hown hK hP 1 VC_1 rfl 0 (Nat.le_of_ble_eq_true rfl) (hts (.fieldLink RX5 12 "NapkinSyntax$Service" "state" "LNapkinSyntax$State;") (by decide +kernel)) (fun _ h => h) (v := .ref (E 2)) rfl dX5_readByHost_5 ?_
  refine lv_iload_n hx hb dX5_readByHost_8 rfl (lv_at hl 1 rfl) ?_
  refine ct_Vv (VC_fix E cI cC) hZo hZb hZ S0 (kX4_hear l D E cI cC Z hZo hZb M table (by omega) hC (fX4_hear M table) rfl) (cwV 2 hts gX5_readByHost_X4_hear rfl rfl rfl (by decide +kernel) ⟨(Nat.le_of_ble_eq_true rfl), (Nat.le_of_ble_eq_true rfl)⟩) hK hP hD hS rfl rfl VC_4 rfl hl.1 rfl (Nat.le_of_ble_eq_true rfl) dX5_readByHost_9 ⟨Nat.zero_le _, Nat.zero_le _⟩ (fun H locs hP hD hS => ?_)
  refine lv_aload_n hx hb dX5_readByHost_12 rfl (lv_at hl 0 rfl) ?_
  refine va_get (own := RX5) (ref := "NapkinSyntax$Service") (C := RX5) (T := TX5) (N := 2) hx hb hts hinX5 hown hK hP 1 VC_1 rfl 1 (Nat.le_of_ble_eq_true rfl) (hts (.fieldLink RX5 21 "NapkinSyntax$Service" "sentence" "LNapkinSyntax$Sentence;") (by decide +kernel)) (fun _ h => h) (v := .ref (E 4)) rfl dX5_readByHost_13 ?_
  refine ct_Vi (VC_fix E cI cC) hZo hZb hZ S0 (kX4_phraseCount l D E cI cC Z hZo hZb (fX4_hear M table) (SI_hear hC hQ table) (fX4_phraseCount (fX4_hear M table)) rfl) (cwV 0 hts gX5_readByHost_X4_phraseCount rfl rfl rfl (by decide +kernel) ⟨(Nat.le_of_ble_eq_true rfl), (Nat.le_of_ble_eq_true rfl)⟩) hK hP hD hS rfl rfl VC_4 rfl hl.1 rfl (Nat.le_of_ble_eq_true rfl) dX5_readByHost_16 ⟨Nat.zero_le _, Nat.zero_le _⟩ (fun H locs hP hD hS => ?_)
  have q1 := rg_X4_phraseCount (SI_hear hC hQ table)
  refine lv_istore_n hx hb dX5_readByHost_19 rfl hl (Nat.le_of_ble_eq_true rfl) (lv' := [(2, .int (iI (fX4_phraseCount (fX4_hear M table)))), (0, .ref (E 1)), (1, .int (iI table))]) rfl (fun ls hl => ?_)
  refine lv_aload_n hx hb dX5_readByHost_20 rfl (lv_at hl 1 rfl) ?_
  refine va_get (own := RX5) (ref := "NapkinSyntax$Service") (C := RX5) (T := TX5) (N := 2) hx hb hts hinX5 hown hK hP 1 VC_1 rfl 0 (Nat.le_of_ble_eq_true rfl) (hts (.fieldLink RX5 12 "NapkinSyntax$Service" "state" "LNapkinSyntax$State;") (by decide +kernel)) (fun _ h => h) (v := .ref (E 2)) rfl dX5_readByHost_21 ?_
  refine lv_iload_n hx hb dX5_readByHost_24 rfl (lv_at hl 2 rfl) ?_
  refine lv_iload_n hx hb dX5_readByHost_25 rfl (lv_at hl 0 rfl) ?_
  refine ct_Vv (VC_fix E cI cC) hZo hZb hZ S0 (kX6_noteReading l D E cI cC Z hZo hZb (fX4_hear M table) table (fX4_phraseCount (fX4_hear M table)) (by omega) (by omega) (fX6_noteReading (fX4_hear M table) table (fX4_phraseCount (fX4_hear M table))) rfl) (cwV 2 hts gX5_readByHost_X6_noteReading rfl rfl rfl (by decide +kernel) ⟨(Nat.le_of_ble_eq_true rfl), (Nat.le_of_ble_eq_true rfl)⟩) hK hP hD hS rfl rfl VC_2 rfl hl.1 rfl (Nat.le_of_ble_eq_true rfl) dX5_readByHost_26 ⟨Nat.zero_le _, Nat.zero_le _⟩ (fun H locs hP hD hS => ?_)
  refine lv_iload_n hx hb dX5_readByHost_29 rfl (lv_at hl 0 rfl) ?_
  obtain ⟨e1, e2⟩ := Prod.mk.inj hE
  subst e2
  exact ci_i hx hb hr hlocks e1 rfl hS hP dX5_readByHost_30

theorem fr_fX5_readByHost {M : Mem} (table : Int) {r : Nat} (h0 : Nat.beq r 0 = false) (h1 : Nat.beq r 1 = false) (h2 : Nat.beq r 2 = false) (h3 : Nat.beq r 3 = false) (h4 : Nat.beq r 4 = false) (h7 : Nat.beq r 7 = false) : (fX5_readByHost M table).2 r = M r := by
  unfold fX5_readByHost
  (repeat' with_reducible refine frite_w (fun _ => ?_) (fun _ => ?_)) <;> first | with_reducible rfl | simp only [mst_o, msf_o, mcp_o, fr_fX4_hear, fr_fX6_noteReading, h0, h1, h2, h3, h4, h7]

def fX5_judge (M : Mem) (co first second third : Int) : Int × Mem := if ((swm co) = 1) then ((fX5_judgeNew M first), M) else if ((swm co) = 2) then ((fX5_judgeFold M first second), M) else if ((swm co) = 3) then ((fX5_judgeOpen M first), M) else if ((swm co) = 4) then ((fX5_judgeLay M first second), M) else if ((swm co) = 5) then ((fX5_judgeTake M first), M) else if ((swm co) = 6) then ((fX5_judgeMove M first second third), M) else if ((swm co) = 7) then ((fX5_judgeStain M first second), M) else if ((swm co) = 8) then ((fX5_judgeWash M first), M) else ((fX5_judgeRead M first).1, (fX5_judgeRead M first).2)
set_option maxRecDepth 100000 in
set_option maxHeartbeats 4000000 in
theorem kX5_judge (l : Launch) (D : va_G) (E : Nat → Nat) (cI cC : ClassId) (T : Nat → Nat) (M : Mem) (co first second third : Int) (h0 : 0 ≤ co ∧ co < 9) (h1 : -2147483648 ≤ first ∧ first < 2147483648) (h2 : -2147483648 ≤ second ∧ second < 2147483648) (h3 : -2147483648 ≤ third ∧ third < 2147483648) (hC : CI M) (hQ : SI M) (r : Int) (M' : Mem) (hE : fX5_judge M co first second third = (r, M')) : Ci l yX5_judge wsX5_judge 4 88 [.ref (E 1), .ref (T (co).toNat), .int (iI first), .int (iI second), .int (iI third)] D (TY cI cC) (VC E cI cC) (ZC E cI cC T) M r M' := by
  refine Ci.of (cc := cX5_judge) (maxL := 5) (ret := (some .int)) (by decide +kernel) rfl (Nat.le_of_ble_eq_true rfl) ?_
  intro p e s m args below meth c ls hx hb hml hr hown hts hlocks hP hK hD hZ hS hl
  have hl : lv_has ls 5 [(0, .ref (E 1)), (1, .ref (T (co).toNat)), (2, .int (iI first)), (3, .int (iI second)), (4, .int (iI third))] := hl
  have S0 : CallFix p m c cX5_judge 5 s args wsX5_judge RX5 := ⟨hx, hb, hml, hown, hts⟩
  rw [fX5_judge] at hE
  refine va_gets hx hb (ZC_sw hZ M) hS hown (hts (.fieldLink RX5 25 "NapkinSyntax$1" "$SwitchMap$NapkinSyntax$Command" "[I") (by decide +kernel)) (fun _ h => h) dX5_judge_0 ?_
  refine lv_aload_n hx hb dX5_judge_3 rfl (lv_at hl 1 rfl) ?_
  refine ct_Ui (VC_fix E cI cC) (ZC_ok E cI cC T) (ZC_bl E cI cC T) hZ S0 (kJx29ce0_ordinal_8abf5 l D E cI cC T M co (by omega) co rfl) (va_cwU 0 hts gX5_judge_Jx29ce0_ordinal_8abf5_u31X1 rfl rfl rfl rfl (by decide +kernel) ⟨(Nat.le_of_ble_eq_true rfl), (Nat.le_of_ble_eq_true rfl)⟩) hK hP hD hS (va_Orecv (ZC_cmo hZ M (co).toNat (by omega)) hS) rfl hl.1 rfl (Nat.le_of_ble_eq_true rfl) dX5_judge_4 ⟨Nat.zero_le _, Nat.zero_le _⟩ (fun H locs hP hD hS => ?_)
  refine z_ti hx hb (ZC_swt hZ M) hS (f := swm) (by omega) (by omega) (by decide) dX5_judge_7 ?_
  have q1 := swm_r co
  by_cases b2 : ((swm co) = 1)
  · rw [if_pos b2] at hE
    refine z_table hx hb dX5_judge_8 (k0 := 1) (tgt := 56) (by omega) b2 (by decide) (by decide) rfl rfl ?_
    refine lv_aload_n hx hb dX5_judge_56 rfl (lv_at hl 0 rfl) ?_
    refine lv_iload_n hx hb dX5_judge_57 rfl (lv_at hl 2 rfl) ?_
    refine ct_Vi (VC_fix E cI cC) (ZC_ok E cI cC T) (ZC_bl E cI cC T) hZ S0 (kX5_judgeNew l D E cI cC T M first (by omega) hC (fX5_judgeNew M first) rfl) (cwV 1 hts gX5_judge_X5_judgeNew rfl rfl rfl (by decide +kernel) ⟨(Nat.le_of_ble_eq_true rfl), (Nat.le_of_ble_eq_true rfl)⟩) hK hP hD hS rfl rfl VC_1 rfl hl.1 rfl (Nat.le_of_ble_eq_true rfl) dX5_judge_58 ⟨Nat.zero_le _, Nat.zero_le _⟩ (fun H locs hP hD hS => ?_)
    obtain ⟨e1, e2⟩ := Prod.mk.inj hE
    subst e2
    exact ci_i hx hb hr hlocks e1 rfl hS hP dX5_judge_61
  · rw [if_neg b2] at hE
    by_cases b3 : ((swm co) = 2)
    · rw [if_pos b3] at hE
      refine z_table hx hb dX5_judge_8 (k0 := 2) (tgt := 62) (by omega) b3 (by decide) (by decide) rfl rfl ?_
      refine lv_aload_n hx hb dX5_judge_62 rfl (lv_at hl 0 rfl) ?_
      refine lv_iload_n hx hb dX5_judge_63 rfl (lv_at hl 2 rfl) ?_
      refine lv_iload_n hx hb dX5_judge_64 rfl (lv_at hl 3 rfl) ?_
      refine ct_Vi (VC_fix E cI cC) (ZC_ok E cI cC T) (ZC_bl E cI cC T) hZ S0 (kX5_judgeFold l D E cI cC T M first second (by omega) (by omega) hC (fX5_judgeFold M first second) rfl) (cwV 2 hts gX5_judge_X5_judgeFold rfl rfl rfl (by decide +kernel) ⟨(Nat.le_of_ble_eq_true rfl), (Nat.le_of_ble_eq_true rfl)⟩) hK hP hD hS rfl rfl VC_1 rfl hl.1 rfl (Nat.le_of_ble_eq_true rfl) dX5_judge_65 ⟨Nat.zero_le _, Nat.zero_le _⟩ (fun H locs hP hD hS => ?_)
      obtain ⟨e1, e2⟩ := Prod.mk.inj hE
      subst e2
      exact ci_i hx hb hr hlocks e1 rfl hS hP dX5_judge_68
    · rw [if_neg b3] at hE
      by_cases b4 : ((swm co) = 3)
      · rw [if_pos b4] at hE
        refine z_table hx hb dX5_judge_8 (k0 := 3) (tgt := 69) (by omega) b4 (by decide) (by decide) rfl rfl ?_
        refine lv_aload_n hx hb dX5_judge_69 rfl (lv_at hl 0 rfl) ?_
        refine lv_iload_n hx hb dX5_judge_70 rfl (lv_at hl 2 rfl) ?_
        refine ct_Vi (VC_fix E cI cC) (ZC_ok E cI cC T) (ZC_bl E cI cC T) hZ S0 (kX5_judgeOpen l D E cI cC T M first (by omega) hC (fX5_judgeOpen M first) rfl) (cwV 1 hts gX5_judge_X5_judgeOpen rfl rfl rfl (by decide +kernel) ⟨(Nat.le_of_ble_eq_true rfl), (Nat.le_of_ble_eq_true rfl)⟩) hK hP hD hS rfl rfl VC_1 rfl hl.1 rfl (Nat.le_of_ble_eq_true rfl) dX5_judge_71 ⟨Nat.zero_le _, Nat.zero_le _⟩ (fun H locs hP hD hS => ?_)
        obtain ⟨e1, e2⟩ := Prod.mk.inj hE
        subst e2
        exact ci_i hx hb hr hlocks e1 rfl hS hP dX5_judge_74
      · rw [if_neg b4] at hE
        by_cases b5 : ((swm co) = 4)
        · rw [if_pos b5] at hE
          refine z_table hx hb dX5_judge_8 (k0 := 4) (tgt := 75) (by omega) b5 (by decide) (by decide) rfl rfl ?_
          refine lv_aload_n hx hb dX5_judge_75 rfl (lv_at hl 0 rfl) ?_
          refine lv_iload_n hx hb dX5_judge_76 rfl (lv_at hl 2 rfl) ?_
          refine lv_iload_n hx hb dX5_judge_77 rfl (lv_at hl 3 rfl) ?_
          refine ct_Vi (VC_fix E cI cC) (ZC_ok E cI cC T) (ZC_bl E cI cC T) hZ S0 (kX5_judgeLay l D E cI cC T M first second (by omega) (by omega) hC (fX5_judgeLay M first second) rfl) (cwV 2 hts gX5_judge_X5_judgeLay rfl rfl rfl (by decide +kernel) ⟨(Nat.le_of_ble_eq_true rfl), (Nat.le_of_ble_eq_true rfl)⟩) hK hP hD hS rfl rfl VC_1 rfl hl.1 rfl (Nat.le_of_ble_eq_true rfl) dX5_judge_78 ⟨Nat.zero_le _, Nat.zero_le _⟩ (fun H locs hP hD hS => ?_)
          obtain ⟨e1, e2⟩ := Prod.mk.inj hE
          subst e2
          exact ci_i hx hb hr hlocks e1 rfl hS hP dX5_judge_81
        · rw [if_neg b5] at hE
          by_cases b6 : ((swm co) = 5)
          · rw [if_pos b6] at hE
            refine z_table hx hb dX5_judge_8 (k0 := 5) (tgt := 82) (by omega) b6 (by decide) (by decide) rfl rfl ?_
            refine lv_aload_n hx hb dX5_judge_82 rfl (lv_at hl 0 rfl) ?_
            refine lv_iload_n hx hb dX5_judge_83 rfl (lv_at hl 2 rfl) ?_
            refine ct_Vi (VC_fix E cI cC) (ZC_ok E cI cC T) (ZC_bl E cI cC T) hZ S0 (kX5_judgeTake l D E cI cC T M first (by omega) hC (fX5_judgeTake M first) rfl) (cwV 1 hts gX5_judge_X5_judgeTake rfl rfl rfl (by decide +kernel) ⟨(Nat.le_of_ble_eq_true rfl), (Nat.le_of_ble_eq_true rfl)⟩) hK hP hD hS rfl rfl VC_1 rfl hl.1 rfl (Nat.le_of_ble_eq_true rfl) dX5_judge_84 ⟨Nat.zero_le _, Nat.zero_le _⟩ (fun H locs hP hD hS => ?_)
            obtain ⟨e1, e2⟩ := Prod.mk.inj hE
            subst e2
            exact ci_i hx hb hr hlocks e1 rfl hS hP dX5_judge_87
          · rw [if_neg b6] at hE
            by_cases b7 : ((swm co) = 6)
            · rw [if_pos b7] at hE
              refine z_table hx hb dX5_judge_8 (k0 := 6) (tgt := 88) (by omega) b7 (by decide) (by decide) rfl rfl ?_
              refine lv_aload_n hx hb dX5_judge_88 rfl (lv_at hl 0 rfl) ?_
              refine lv_iload_n hx hb dX5_judge_89 rfl (lv_at hl 2 rfl) ?_
              refine lv_iload_n hx hb dX5_judge_90 rfl (lv_at hl 3 rfl) ?_
              refine lv_iload hx hb dX5_judge_91 (lv_at hl 4 rfl) ?_
              refine ct_Vi (VC_fix E cI cC) (ZC_ok E cI cC T) (ZC_bl E cI cC T) hZ S0 (kX5_judgeMove l D E cI cC T M first second third (by omega) (by omega) (by omega) hC (fX5_judgeMove M first second third) rfl) (cwV 3 hts gX5_judge_X5_judgeMove rfl rfl rfl (by decide +kernel) ⟨(Nat.le_of_ble_eq_true rfl), (Nat.le_of_ble_eq_true rfl)⟩) hK hP hD hS rfl rfl VC_1 rfl hl.1 rfl (Nat.le_of_ble_eq_true rfl) dX5_judge_93 ⟨Nat.zero_le _, Nat.zero_le _⟩ (fun H locs hP hD hS => ?_)
              obtain ⟨e1, e2⟩ := Prod.mk.inj hE
              subst e2
              exact ci_i hx hb hr hlocks e1 rfl hS hP dX5_judge_96
            · rw [if_neg b7] at hE
              by_cases b8 : ((swm co) = 7)
              · rw [if_pos b8] at hE
                refine z_table hx hb dX5_judge_8 (k0 := 7) (tgt := 97) (by omega) b8 (by decide) (by decide) rfl rfl ?_
                refine lv_aload_n hx hb dX5_judge_97 rfl (lv_at hl 0 rfl) ?_
                refine lv_iload_n hx hb dX5_judge_98 rfl (lv_at hl 2 rfl) ?_
                refine lv_iload_n hx hb dX5_judge_99 rfl (lv_at hl 3 rfl) ?_
                refine ct_Vi (VC_fix E cI cC) (ZC_ok E cI cC T) (ZC_bl E cI cC T) hZ S0 (kX5_judgeStain l D E cI cC T M first second (by omega) (by omega) hC (fX5_judgeStain M first second) rfl) (cwV 2 hts gX5_judge_X5_judgeStain rfl rfl rfl (by decide +kernel) ⟨(Nat.le_of_ble_eq_true rfl), (Nat.le_of_ble_eq_true rfl)⟩) hK hP hD hS rfl rfl VC_1 rfl hl.1 rfl (Nat.le_of_ble_eq_true rfl) dX5_judge_100 ⟨Nat.zero_le _, Nat.zero_le _⟩ (fun H locs hP hD hS => ?_)
                obtain ⟨e1, e2⟩ := Prod.mk.inj hE
                subst e2
                exact ci_i hx hb hr hlocks e1 rfl hS hP dX5_judge_103
              · rw [if_neg b8] at hE
                by_cases b9 : ((swm co) = 8)
                · rw [if_pos b9] at hE
                  refine z_table hx hb dX5_judge_8 (k0 := 8) (tgt := 104) (by omega) b9 (by decide) (by decide) rfl rfl ?_
                  refine lv_aload_n hx hb dX5_judge_104 rfl (lv_at hl 0 rfl) ?_
                  refine lv_iload_n hx hb dX5_judge_105 rfl (lv_at hl 2 rfl) ?_
                  refine ct_Vi (VC_fix E cI cC) (ZC_ok E cI cC T) (ZC_bl E cI cC T) hZ S0 (kX5_judgeWash l D E cI cC T M first (by omega) hC (fX5_judgeWash M first) rfl) (cwV 1 hts gX5_judge_X5_judgeWash rfl rfl rfl (by decide +kernel) ⟨(Nat.le_of_ble_eq_true rfl), (Nat.le_of_ble_eq_true rfl)⟩) hK hP hD hS rfl rfl VC_1 rfl hl.1 rfl (Nat.le_of_ble_eq_true rfl) dX5_judge_106 ⟨Nat.zero_le _, Nat.zero_le _⟩ (fun H locs hP hD hS => ?_)
                  obtain ⟨e1, e2⟩ := Prod.mk.inj hE
                  subst e2
                  exact ci_i hx hb hr hlocks e1 rfl hS hP dX5_judge_109
                · rw [if_neg b9] at hE
                  refine z_tableD hx hb dX5_judge_8 (tgt := 110) (by omega) (by omega) rfl ?_
                  refine lv_aload_n hx hb dX5_judge_110 rfl (lv_at hl 0 rfl) ?_
                  refine lv_iload_n hx hb dX5_judge_111 rfl (lv_at hl 2 rfl) ?_
                  refine ct_Vi (VC_fix E cI cC) (ZC_ok E cI cC T) (ZC_bl E cI cC T) hZ S0 (kX5_judgeRead l D E cI cC T M first (by omega) hC hQ (fX5_judgeRead M first).1 (fX5_judgeRead M first).2 (Prod.ext rfl rfl)) (cwV 1 hts gX5_judge_X5_judgeRead rfl rfl rfl (by decide +kernel) ⟨(Nat.le_of_ble_eq_true rfl), (Nat.le_of_ble_eq_true rfl)⟩) hK hP hD hS rfl rfl VC_1 rfl hl.1 rfl (Nat.le_of_ble_eq_true rfl) dX5_judge_112 ⟨Nat.zero_le _, Nat.zero_le _⟩ (fun H locs hP hD hS => ?_)
                  obtain ⟨e1, e2⟩ := Prod.mk.inj hE
                  subst e2
                  exact ci_i hx hb hr hlocks e1 rfl hS hP dX5_judge_115

theorem fr_fX5_judge {M : Mem} (co first second third : Int) {r : Nat} (h1 : Nat.beq r 1 = false) (h2 : Nat.beq r 2 = false) (h3 : Nat.beq r 3 = false) (h4 : Nat.beq r 4 = false) (h7 : Nat.beq r 7 = false) : (fX5_judge M co first second third).2 r = M r := by
  unfold fX5_judge
  (repeat' with_reducible refine frite_w (fun _ => ?_) (fun _ => ?_)) <;> first | with_reducible rfl | simp only [mst_o, msf_o, mcp_o, fr_fX5_judgeRead, h1, h2, h3, h4, h7]

def fX5_carryOut (M : Mem) (co first second third : Int) : Int × Mem := if ((swm co) = 1) then ((fX6_addNapkin M first).1, (fX6_addNapkin M first).2) else if ((swm co) = 2) then ((fX6_foldTo M first second (fX5_creasesFor second)).1, (fX6_foldTo M first second (fX5_creasesFor second)).2) else if ((swm co) = 3) then ((fX6_open M first).1, (fX6_open M first).2) else if ((swm co) = 4) then ((fX6_addLast M first second).1, (fX6_addLast M first second).2) else if ((swm co) = 5) then ((fX6_remove M first).1, (fX6_remove M first).2) else if ((swm co) = 6) then ((fX6_shift M first second third).1, (fX6_shift M first second third).2) else if ((swm co) = 7) then ((fX6_addStains M first second).1, (fX6_addStains M first second).2) else if ((swm co) = 8) then ((fX6_clean M first).1, (fX6_clean M first).2) else ((fX5_readByHost M first).1, (fX5_readByHost M first).2)
set_option maxRecDepth 100000 in
set_option maxHeartbeats 4000000 in
theorem kX5_carryOut (l : Launch) (D : va_G) (E : Nat → Nat) (cI cC : ClassId) (T : Nat → Nat) (M : Mem) (co first second third : Int) (h0 : 0 ≤ co ∧ co < 9) (h1 : -2147483648 ≤ first ∧ first < 2147483648) (h2 : -2147483648 ≤ second ∧ second < 2147483648) (h3 : -2147483648 ≤ third ∧ third < 2147483648) (hC : CI M) (hQ : SI M) (hmv : swm co = 6 → 0 ≤ second ∧ second ≤ 5 ∧ 0 ≤ third ∧ third ≤ 5) (r : Int) (M' : Mem) (hE : fX5_carryOut M co first second third = (r, M')) : Ci l yX5_carryOut wsX5_carryOut 4 93 [.ref (E 1), .ref (T (co).toNat), .int (iI first), .int (iI second), .int (iI third)] D (TY cI cC) (VC E cI cC) (ZC E cI cC T) M r M' := by
  refine Ci.of (cc := cX5_carryOut) (maxL := 5) (ret := (some .int)) (by decide +kernel) rfl (Nat.le_of_ble_eq_true rfl) ?_
  intro p e s m args below meth c ls hx hb hml hr hown hts hlocks hP hK hD hZ hS hl
  have hl : lv_has ls 5 [(0, .ref (E 1)), (1, .ref (T (co).toNat)), (2, .int (iI first)), (3, .int (iI second)), (4, .int (iI third))] := hl
  have S0 : CallFix p m c cX5_carryOut 5 s args wsX5_carryOut RX5 := ⟨hx, hb, hml, hown, hts⟩
  have hinX5 : ∀ w ∈ u_ws RX5 TX5 2, w ∈ wsX5_carryOut := by decide +kernel
  rw [fX5_carryOut] at hE
  refine va_gets hx hb (ZC_sw hZ M) hS hown (hts (.fieldLink RX5 25 "NapkinSyntax$1" "$SwitchMap$NapkinSyntax$Command" "[I") (by decide +kernel)) (fun _ h => h) dX5_carryOut_0 ?_
  refine lv_aload_n hx hb dX5_carryOut_3 rfl (lv_at hl 1 rfl) ?_
  refine ct_Ui (VC_fix E cI cC) (ZC_ok E cI cC T) (ZC_bl E cI cC T) hZ S0 (kJx29ce0_ordinal_8abf5 l D E cI cC T M co (by omega) co rfl) (va_cwU 0 hts gX5_carryOut_Jx29ce0_ordinal_8abf5_u31X1 rfl rfl rfl rfl (by decide +kernel) ⟨(Nat.le_of_ble_eq_true rfl), (Nat.le_of_ble_eq_true rfl)⟩) hK hP hD hS (va_Orecv (ZC_cmo hZ M (co).toNat (by omega)) hS) rfl hl.1 rfl (Nat.le_of_ble_eq_true rfl) dX5_carryOut_4 ⟨Nat.zero_le _, Nat.zero_le _⟩ (fun H locs hP hD hS => ?_)
  refine z_ti hx hb (ZC_swt hZ M) hS (f := swm) (by omega) (by omega) (by decide) dX5_carryOut_7 ?_
  have q1 := swm_r co
  by_cases b2 : ((swm co) = 1)
  · rw [if_pos b2] at hE
    refine z_table hx hb dX5_carryOut_8 (k0 := 1) (tgt := 56) (by omega) b2 (by decide) (by decide) rfl rfl ?_
    refine lv_aload_n hx hb dX5_carryOut_56 rfl (lv_at hl 0 rfl) ?_
    refine va_get (own := RX5) (ref := "NapkinSyntax$Service") (C := RX5) (T := TX5) (N := 2) hx hb hts hinX5 hown hK hP 1 VC_1 rfl 0 (Nat.le_of_ble_eq_true rfl) (hts (.fieldLink RX5 12 "NapkinSyntax$Service" "state" "LNapkinSyntax$State;") (by decide +kernel)) (fun _ h => h) (v := .ref (E 2)) rfl dX5_carryOut_57 ?_
    refine lv_iload_n hx hb dX5_carryOut_60 rfl (lv_at hl 2 rfl) ?_
    refine ct_Vi (VC_fix E cI cC) (ZC_ok E cI cC T) (ZC_bl E cI cC T) hZ S0 (kX6_addNapkin l D E cI cC (ZC E cI cC T) (ZC_ok E cI cC T) (ZC_bl E cI cC T) M first hC (fX6_addNapkin M first).1 (fX6_addNapkin M first).2 (Prod.ext rfl rfl)) (cwV 1 hts gX5_carryOut_X6_addNapkin rfl rfl rfl (by decide +kernel) ⟨(Nat.le_of_ble_eq_true rfl), (Nat.le_of_ble_eq_true rfl)⟩) hK hP hD hS rfl rfl VC_2 rfl hl.1 rfl (Nat.le_of_ble_eq_true rfl) dX5_carryOut_61 ⟨Nat.zero_le _, Nat.zero_le _⟩ (fun H locs hP hD hS => ?_)
    obtain ⟨e1, e2⟩ := Prod.mk.inj hE
    subst e2
    exact ci_i hx hb hr hlocks e1 rfl hS hP dX5_carryOut_64
  · rw [if_neg b2] at hE
    by_cases b3 : ((swm co) = 2)
    · rw [if_pos b3] at hE
      refine z_table hx hb dX5_carryOut_8 (k0 := 2) (tgt := 65) (by omega) b3 (by decide) (by decide) rfl rfl ?_
      refine lv_aload_n hx hb dX5_carryOut_65 rfl (lv_at hl 0 rfl) ?_
      refine va_get (own := RX5) (ref := "NapkinSyntax$Service") (C := RX5) (T := TX5) (N := 2) hx hb hts hinX5 hown hK hP 1 VC_1 rfl 0 (Nat.le_of_ble_eq_true rfl) (hts (.fieldLink RX5 12 "NapkinSyntax$Service" "state" "LNapkinSyntax$State;") (by decide +kernel)) (fun _ h => h) (v := .ref (E 2)) rfl dX5_carryOut_66 ?_
      refine lv_iload_n hx hb dX5_carryOut_69 rfl (lv_at hl 2 rfl) ?_
      refine lv_iload_n hx hb dX5_carryOut_70 rfl (lv_at hl 3 rfl) ?_
      refine lv_iload_n hx hb dX5_carryOut_71 rfl (lv_at hl 3 rfl) ?_
      refine ct_Si (VC_fix E cI cC) (ZC_ok E cI cC T) (ZC_bl E cI cC T) hZ S0 (kX5_creasesFor l D E cI cC T M second (by omega) (fX5_creasesFor second) rfl) (va_cwS 1 hts gX5_carryOut_X5_creasesFor rfl rfl rfl (by decide +kernel) ⟨(Nat.le_of_ble_eq_true rfl), (Nat.le_of_ble_eq_true rfl)⟩) hK hP hD hS rfl hl.1 rfl (Nat.le_of_ble_eq_true rfl) dX5_carryOut_72 ⟨Nat.zero_le _, Nat.zero_le _⟩ (fun H locs hP hD hS => ?_)
      have q4 := rg_X5_creasesFor second
      refine ct_Vi (VC_fix E cI cC) (ZC_ok E cI cC T) (ZC_bl E cI cC T) hZ S0 (kX6_foldTo l D E cI cC (ZC E cI cC T) (ZC_ok E cI cC T) (ZC_bl E cI cC T) M first second (fX5_creasesFor second) (by omega) (fX6_foldTo M first second (fX5_creasesFor second)).1 (fX6_foldTo M first second (fX5_creasesFor second)).2 (Prod.ext rfl rfl)) (cwV 3 hts gX5_carryOut_X6_foldTo rfl rfl rfl (by decide +kernel) ⟨(Nat.le_of_ble_eq_true rfl), (Nat.le_of_ble_eq_true rfl)⟩) hK hP hD hS rfl rfl VC_2 rfl hl.1 rfl (Nat.le_of_ble_eq_true rfl) dX5_carryOut_75 ⟨Nat.zero_le _, Nat.zero_le _⟩ (fun H locs hP hD hS => ?_)
      obtain ⟨e1, e2⟩ := Prod.mk.inj hE
      subst e2
      exact ci_i hx hb hr hlocks e1 rfl hS hP dX5_carryOut_78
    · rw [if_neg b3] at hE
      by_cases b5 : ((swm co) = 3)
      · rw [if_pos b5] at hE
        refine z_table hx hb dX5_carryOut_8 (k0 := 3) (tgt := 79) (by omega) b5 (by decide) (by decide) rfl rfl ?_
        refine lv_aload_n hx hb dX5_carryOut_79 rfl (lv_at hl 0 rfl) ?_
        refine va_get (own := RX5) (ref := "NapkinSyntax$Service") (C := RX5) (T := TX5) (N := 2) hx hb hts hinX5 hown hK hP 1 VC_1 rfl 0 (Nat.le_of_ble_eq_true rfl) (hts (.fieldLink RX5 12 "NapkinSyntax$Service" "state" "LNapkinSyntax$State;") (by decide +kernel)) (fun _ h => h) (v := .ref (E 2)) rfl dX5_carryOut_80 ?_
        refine lv_iload_n hx hb dX5_carryOut_83 rfl (lv_at hl 2 rfl) ?_
        refine ct_Vi (VC_fix E cI cC) (ZC_ok E cI cC T) (ZC_bl E cI cC T) hZ S0 (kX6_open l D E cI cC (ZC E cI cC T) (ZC_ok E cI cC T) (ZC_bl E cI cC T) M first (by omega) (fX6_open M first).1 (fX6_open M first).2 (Prod.ext rfl rfl)) (cwV 1 hts gX5_carryOut_X6_open rfl rfl rfl (by decide +kernel) ⟨(Nat.le_of_ble_eq_true rfl), (Nat.le_of_ble_eq_true rfl)⟩) hK hP hD hS rfl rfl VC_2 rfl hl.1 rfl (Nat.le_of_ble_eq_true rfl) dX5_carryOut_84 ⟨Nat.zero_le _, Nat.zero_le _⟩ (fun H locs hP hD hS => ?_)
        obtain ⟨e1, e2⟩ := Prod.mk.inj hE
        subst e2
        exact ci_i hx hb hr hlocks e1 rfl hS hP dX5_carryOut_87
      · rw [if_neg b5] at hE
        by_cases b6 : ((swm co) = 4)
        · rw [if_pos b6] at hE
          refine z_table hx hb dX5_carryOut_8 (k0 := 4) (tgt := 88) (by omega) b6 (by decide) (by decide) rfl rfl ?_
          refine lv_aload_n hx hb dX5_carryOut_88 rfl (lv_at hl 0 rfl) ?_
          refine va_get (own := RX5) (ref := "NapkinSyntax$Service") (C := RX5) (T := TX5) (N := 2) hx hb hts hinX5 hown hK hP 1 VC_1 rfl 0 (Nat.le_of_ble_eq_true rfl) (hts (.fieldLink RX5 12 "NapkinSyntax$Service" "state" "LNapkinSyntax$State;") (by decide +kernel)) (fun _ h => h) (v := .ref (E 2)) rfl dX5_carryOut_89 ?_
          refine lv_iload_n hx hb dX5_carryOut_92 rfl (lv_at hl 2 rfl) ?_
          refine lv_iload_n hx hb dX5_carryOut_93 rfl (lv_at hl 3 rfl) ?_
          refine ct_Vi (VC_fix E cI cC) (ZC_ok E cI cC T) (ZC_bl E cI cC T) hZ S0 (kX6_addLast l D E cI cC (ZC E cI cC T) (ZC_ok E cI cC T) (ZC_bl E cI cC T) M first second (by omega) hC (fX6_addLast M first second).1 (fX6_addLast M first second).2 (Prod.ext rfl rfl)) (cwV 2 hts gX5_carryOut_X6_addLast rfl rfl rfl (by decide +kernel) ⟨(Nat.le_of_ble_eq_true rfl), (Nat.le_of_ble_eq_true rfl)⟩) hK hP hD hS rfl rfl VC_2 rfl hl.1 rfl (Nat.le_of_ble_eq_true rfl) dX5_carryOut_94 ⟨Nat.zero_le _, Nat.zero_le _⟩ (fun H locs hP hD hS => ?_)
          obtain ⟨e1, e2⟩ := Prod.mk.inj hE
          subst e2
          exact ci_i hx hb hr hlocks e1 rfl hS hP dX5_carryOut_97
        · rw [if_neg b6] at hE
          by_cases b7 : ((swm co) = 5)
          · rw [if_pos b7] at hE
            refine z_table hx hb dX5_carryOut_8 (k0 := 5) (tgt := 98) (by omega) b7 (by decide) (by decide) rfl rfl ?_
            refine lv_aload_n hx hb dX5_carryOut_98 rfl (lv_at hl 0 rfl) ?_
            refine va_get (own := RX5) (ref := "NapkinSyntax$Service") (C := RX5) (T := TX5) (N := 2) hx hb hts hinX5 hown hK hP 1 VC_1 rfl 0 (Nat.le_of_ble_eq_true rfl) (hts (.fieldLink RX5 12 "NapkinSyntax$Service" "state" "LNapkinSyntax$State;") (by decide +kernel)) (fun _ h => h) (v := .ref (E 2)) rfl dX5_carryOut_99 ?_
            refine lv_iload_n hx hb dX5_carryOut_102 rfl (lv_at hl 2 rfl) ?_
            refine ct_Vi (VC_fix E cI cC) (ZC_ok E cI cC T) (ZC_bl E cI cC T) hZ S0 (kX6_remove l D E cI cC (ZC E cI cC T) (ZC_ok E cI cC T) (ZC_bl E cI cC T) M first (by omega) hC (fX6_remove M first).1 (fX6_remove M first).2 (Prod.ext rfl rfl)) (cwV 1 hts gX5_carryOut_X6_remove rfl rfl rfl (by decide +kernel) ⟨(Nat.le_of_ble_eq_true rfl), (Nat.le_of_ble_eq_true rfl)⟩) hK hP hD hS rfl rfl VC_2 rfl hl.1 rfl (Nat.le_of_ble_eq_true rfl) dX5_carryOut_103 ⟨Nat.zero_le _, Nat.zero_le _⟩ (fun H locs hP hD hS => ?_)
            obtain ⟨e1, e2⟩ := Prod.mk.inj hE
            subst e2
            exact ci_i hx hb hr hlocks e1 rfl hS hP dX5_carryOut_106
          · rw [if_neg b7] at hE
            by_cases b8 : ((swm co) = 6)
            · rw [if_pos b8] at hE
              refine z_table hx hb dX5_carryOut_8 (k0 := 6) (tgt := 107) (by omega) b8 (by decide) (by decide) rfl rfl ?_
              refine lv_aload_n hx hb dX5_carryOut_107 rfl (lv_at hl 0 rfl) ?_
              refine va_get (own := RX5) (ref := "NapkinSyntax$Service") (C := RX5) (T := TX5) (N := 2) hx hb hts hinX5 hown hK hP 1 VC_1 rfl 0 (Nat.le_of_ble_eq_true rfl) (hts (.fieldLink RX5 12 "NapkinSyntax$Service" "state" "LNapkinSyntax$State;") (by decide +kernel)) (fun _ h => h) (v := .ref (E 2)) rfl dX5_carryOut_108 ?_
              refine lv_iload_n hx hb dX5_carryOut_111 rfl (lv_at hl 2 rfl) ?_
              refine lv_iload_n hx hb dX5_carryOut_112 rfl (lv_at hl 3 rfl) ?_
              refine lv_iload hx hb dX5_carryOut_113 (lv_at hl 4 rfl) ?_
              have q87 := hmv (by assumption)
              refine ct_Vi (VC_fix E cI cC) (ZC_ok E cI cC T) (ZC_bl E cI cC T) hZ S0 (kX6_shift l D E cI cC (ZC E cI cC T) (ZC_ok E cI cC T) (ZC_bl E cI cC T) M first second third (by omega) (by omega) (by omega) hC (fX6_shift M first second third).1 (fX6_shift M first second third).2 (Prod.ext rfl rfl)) (cwV 3 hts gX5_carryOut_X6_shift rfl rfl rfl (by decide +kernel) ⟨(Nat.le_of_ble_eq_true rfl), (Nat.le_of_ble_eq_true rfl)⟩) hK hP hD hS rfl rfl VC_2 rfl hl.1 rfl (Nat.le_of_ble_eq_true rfl) dX5_carryOut_115 ⟨Nat.zero_le _, Nat.zero_le _⟩ (fun H locs hP hD hS => ?_)
              obtain ⟨e1, e2⟩ := Prod.mk.inj hE
              subst e2
              exact ci_i hx hb hr hlocks e1 rfl hS hP dX5_carryOut_118
            · rw [if_neg b8] at hE
              by_cases b9 : ((swm co) = 7)
              · rw [if_pos b9] at hE
                refine z_table hx hb dX5_carryOut_8 (k0 := 7) (tgt := 119) (by omega) b9 (by decide) (by decide) rfl rfl ?_
                refine lv_aload_n hx hb dX5_carryOut_119 rfl (lv_at hl 0 rfl) ?_
                refine va_get (own := RX5) (ref := "NapkinSyntax$Service") (C := RX5) (T := TX5) (N := 2) hx hb hts hinX5 hown hK hP 1 VC_1 rfl 0 (Nat.le_of_ble_eq_true rfl) (hts (.fieldLink RX5 12 "NapkinSyntax$Service" "state" "LNapkinSyntax$State;") (by decide +kernel)) (fun _ h => h) (v := .ref (E 2)) rfl dX5_carryOut_120 ?_
                refine lv_iload_n hx hb dX5_carryOut_123 rfl (lv_at hl 2 rfl) ?_
                refine lv_iload_n hx hb dX5_carryOut_124 rfl (lv_at hl 3 rfl) ?_
                refine ct_Vi (VC_fix E cI cC) (ZC_ok E cI cC T) (ZC_bl E cI cC T) hZ S0 (kX6_addStains l D E cI cC (ZC E cI cC T) (ZC_ok E cI cC T) (ZC_bl E cI cC T) M first second (by omega) (fX6_addStains M first second).1 (fX6_addStains M first second).2 (Prod.ext rfl rfl)) (cwV 2 hts gX5_carryOut_X6_addStains rfl rfl rfl (by decide +kernel) ⟨(Nat.le_of_ble_eq_true rfl), (Nat.le_of_ble_eq_true rfl)⟩) hK hP hD hS rfl rfl VC_2 rfl hl.1 rfl (Nat.le_of_ble_eq_true rfl) dX5_carryOut_125 ⟨Nat.zero_le _, Nat.zero_le _⟩ (fun H locs hP hD hS => ?_)
                obtain ⟨e1, e2⟩ := Prod.mk.inj hE
                subst e2
                exact ci_i hx hb hr hlocks e1 rfl hS hP dX5_carryOut_128
              · rw [if_neg b9] at hE
                by_cases b10 : ((swm co) = 8)
                · rw [if_pos b10] at hE
                  refine z_table hx hb dX5_carryOut_8 (k0 := 8) (tgt := 129) (by omega) b10 (by decide) (by decide) rfl rfl ?_
                  refine lv_aload_n hx hb dX5_carryOut_129 rfl (lv_at hl 0 rfl) ?_
                  refine va_get (own := RX5) (ref := "NapkinSyntax$Service") (C := RX5) (T := TX5) (N := 2) hx hb hts hinX5 hown hK hP 1 VC_1 rfl 0 (Nat.le_of_ble_eq_true rfl) (hts (.fieldLink RX5 12 "NapkinSyntax$Service" "state" "LNapkinSyntax$State;") (by decide +kernel)) (fun _ h => h) (v := .ref (E 2)) rfl dX5_carryOut_130 ?_
                  refine lv_iload_n hx hb dX5_carryOut_133 rfl (lv_at hl 2 rfl) ?_
                  refine ct_Vi (VC_fix E cI cC) (ZC_ok E cI cC T) (ZC_bl E cI cC T) hZ S0 (kX6_clean l D E cI cC (ZC E cI cC T) (ZC_ok E cI cC T) (ZC_bl E cI cC T) M first (by omega) (fX6_clean M first).1 (fX6_clean M first).2 (Prod.ext rfl rfl)) (cwV 1 hts gX5_carryOut_X6_clean rfl rfl rfl (by decide +kernel) ⟨(Nat.le_of_ble_eq_true rfl), (Nat.le_of_ble_eq_true rfl)⟩) hK hP hD hS rfl rfl VC_2 rfl hl.1 rfl (Nat.le_of_ble_eq_true rfl) dX5_carryOut_134 ⟨Nat.zero_le _, Nat.zero_le _⟩ (fun H locs hP hD hS => ?_)
                  obtain ⟨e1, e2⟩ := Prod.mk.inj hE
                  subst e2
                  exact ci_i hx hb hr hlocks e1 rfl hS hP dX5_carryOut_137
                · rw [if_neg b10] at hE
                  refine z_tableD hx hb dX5_carryOut_8 (tgt := 138) (by omega) (by omega) rfl ?_
                  refine lv_aload_n hx hb dX5_carryOut_138 rfl (lv_at hl 0 rfl) ?_
                  refine lv_iload_n hx hb dX5_carryOut_139 rfl (lv_at hl 2 rfl) ?_
                  refine ct_Vi (VC_fix E cI cC) (ZC_ok E cI cC T) (ZC_bl E cI cC T) hZ S0 (kX5_readByHost l D E cI cC (ZC E cI cC T) (ZC_ok E cI cC T) (ZC_bl E cI cC T) M first (by omega) hC hQ (fX5_readByHost M first).1 (fX5_readByHost M first).2 (Prod.ext rfl rfl)) (cwV 1 hts gX5_carryOut_X5_readByHost rfl rfl rfl (by decide +kernel) ⟨(Nat.le_of_ble_eq_true rfl), (Nat.le_of_ble_eq_true rfl)⟩) hK hP hD hS rfl rfl VC_1 rfl hl.1 rfl (Nat.le_of_ble_eq_true rfl) dX5_carryOut_140 ⟨Nat.zero_le _, Nat.zero_le _⟩ (fun H locs hP hD hS => ?_)
                  obtain ⟨e1, e2⟩ := Prod.mk.inj hE
                  subst e2
                  exact ci_i hx hb hr hlocks e1 rfl hS hP dX5_carryOut_143

theorem fr_fX5_carryOut {M : Mem} (co first second third : Int) {r : Nat} (h0 : Nat.beq r 0 = false) (h1 : Nat.beq r 1 = false) (h2 : Nat.beq r 2 = false) (h3 : Nat.beq r 3 = false) (h4 : Nat.beq r 4 = false) (h7 : Nat.beq r 7 = false) : (fX5_carryOut M co first second third).2 r = M r := by
  unfold fX5_carryOut
  (repeat' with_reducible refine frite_w (fun _ => ?_) (fun _ => ?_)) <;> first | with_reducible rfl | simp only [mst_o, msf_o, mcp_o, fr_fX5_readByHost, fr_fX6_addLast, fr_fX6_addNapkin, fr_fX6_addStains, fr_fX6_clean, fr_fX6_foldTo, fr_fX6_open, fr_fX6_remove, fr_fX6_shift, h0, h1, h2, h3, h4, h7]
