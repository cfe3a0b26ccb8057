/-! the model: third part -/
theorem tl_step {M : Mem} {n a : Int} (h : 0 ≤ M 25 0 ∧ M 25 0 + 3 ≤ a) : 0 ≤ fX9_tellsOne M n 25 0 ∧ fX9_tellsOne M n 25 0 ≤ a := by
  have := tl_25 M n
  omega
theorem at_of0 {M N : Mem} (h : M 0 = N 0) (t p : Int) : fX9_at M t p = fX9_at N t p := by unfold fX9_at; rw [h]
theorem said_of0_L {M N : Mem} (h : M 0 = N 0) (t i : Int) : ∀ (k : Nat) (n p : Int), fX9_saidAt_L1 M t i k n p = fX9_saidAt_L1 N t i k n p := by
  intro k
  induction k with
  | zero => intros; rfl
  | succ k ih => intro n p; rw [fX9_saidAt_L1, fX9_saidAt_L1, h, at_of0 h]; simp only [ih]
theorem said_of0 {M N : Mem} (h : M 0 = N 0) {t i : Int} : fX9_saidAt M t i = fX9_saidAt N t i := said_of0_L h t i 7 0 0

def fX9_tell_L1 (M : Mem) (table : Int) : Nat → Mem → Int → (Int × Mem)
  | 0, Mx, _ => (0, Mx)
  | k1 + 1, Mx, ii => if ((fX9_countOf Mx table (0)) ≤ ii) then ((fX9_done Mx (Mx 25 0)).1, (fX9_done Mx (Mx 25 0)).2) else if (ii ≤ 0) then fX9_tell_L1 M table k1 (fX9_tellsOne Mx (fX9_saidAt Mx table ii)) (ii + 1) else fX9_tell_L1 M table k1 (fX9_tellsOne (fX9_writes Mx (32)) (fX9_saidAt (fX9_writes Mx (32)) table ii)) (ii + 1)
def fX9_tell (M : Mem) (table : Int) : Int × Mem := if ((fX9_isTable table) = 0) then ((fX9_fails M (1)).1, (fX9_fails M (1)).2) else fX9_tell_L1 M table 7 (msf M 25 (0)) (0)
set_option maxRecDepth 100000 in
set_option maxHeartbeats 4000000 in
theorem kX9_tell (l : Launch) (D : va_G) (E : Nat → Nat) (cI cC : ClassId) (Z : State → Prop) (hZo : ∀ M : Mem, ZOk (VG E cI cC M) Z) (hZb : ZBl Z) (M : Mem) (table : Int) (h1 : -2147483648 ≤ table ∧ table < 2147483648) (hG : GI M) (r : Int) (M' : Mem) (hE : fX9_tell M table = (r, M')) : Ci l yX9_tell wsX9_tell 2 47 [.ref (E 0), .int (iI table)] D (TY cI cC) (VG E cI cC) Z M r M' := by
  refine Ci.of (cc := cX9_tell) (maxL := 3) (ret := (some .int)) (by decide +kernel) rfl (Nat.le_of_ble_eq_true rfl) ?_
  intro p e s m args below meth c ls hx hb hml hr hown hts hlocks hP hK hD hZ hS hl
  have hl : lv_has ls 3 [(0, .ref (E 0)), (1, .int (iI table))] := hl
  have S0 : CallFix p m c cX9_tell 3 s args wsX9_tell RX9 := ⟨hx, hb, hml, hown, hts⟩
  have hinX9 : ∀ w ∈ u_ws RX9 TX9 20, w ∈ wsX9_tell := by decide +kernel
  rw [fX9_tell] at hE
  refine lv_iload_n hx hb dX9_tell_0 rfl (lv_at hl 1 rfl) ?_
  refine ct_Si (VG_fix E cI cC) hZo hZb hZ S0 (kX9_isTable l D E cI cC Z hZo hZb M table (by omega) (fX9_isTable table) rfl) (va_cwS 1 hts gX9_tell_X9_isTable rfl rfl rfl (by decide +kernel) ⟨(Nat.le_of_ble_eq_true rfl), (Nat.le_of_ble_eq_true rfl)⟩) hK hP hD hS rfl hl.1 rfl (Nat.le_of_ble_eq_true rfl) dX9_tell_1 ⟨Nat.zero_le _, Nat.zero_le _⟩ (fun H locs hP hD hS => ?_)
  have q1 := dX9_isTable table
  refine z_if_ne hx hb dX9_tell_4 (tgt := 13) rfl (by omega) (fun b2 => ?_) (fun b2 => ?_)
  · rw [if_neg b2] at hE
    refine lv_aload_n hx hb dX9_tell_13 rfl (lv_at hl 0 rfl) ?_
    refine z_iconst hx hb dX9_tell_14 ?_
    refine va_put (own := RX9) (ref := "NapkinSyntaxModel") (C := RX9) (T := TX9) (N := 20) hx hb hts hinX9 tyX9 tyX9_ok nmX9 hown hK hP hD hS 0 VG_0 rfl 15 (Nat.le_of_ble_eq_true rfl) (hts (.fieldLink RX9 237 "NapkinSyntaxModel" "lined" "I") (by decide +kernel)) (fun _ h => h) rfl (ty := .int) (v := .int (iI (0))) (by decide +kernel) rfl rfl (Nat.le_of_ble_eq_true rfl) dX9_tell_15 (fun H locs hP hD hS => ?_)
    rw [VGf_25] at hP hD
    refine z_iconst hx hb dX9_tell_18 ?_
    refine lv_istore_n hx hb dX9_tell_19 rfl hl (Nat.le_of_ble_eq_true rfl) (lv' := [(2, .int (iI (0))), (0, .ref (E 0)), (1, .int (iI table))]) rfl (fun ls hl => ?_)
    have L1 : ∀ (k1 : Nat) (Mx : Mem) (ii : Int) (ls : Array Slot) (H : Heap) (locs : List Loc), lv_has ls 3 [(0, .ref (E 0)), (1, .int (iI table)), (2, .int (iI ii))] → va_P D vwCl (VG E cI cC Mx) H → va_D (wA (VG E cI cC M)) (VG E cI cC Mx) → va_S (wA (VG E cI cC M)) s.heap H locs → (0 ≤ ii ∧ ii ≤ 6) → (6 - ii < (k1 : Int)) → (GI Mx) → (0 ≤ Mx 25 0 ∧ Mx 25 0 ≤ 4 * ii) → fX9_tell_L1 M table k1 Mx ii = (r, M') → W p l e (zRm 2 47) s m args below meth c H locs 0 0 (MQ below (ciQ D (VG E cI cC) M r M') args s 0 0 (wA (VG E cI cC M))) (F0 m 20 ls []) := by
      intro k1
      induction k1 with
      | zero => intro Mx ii ls H locs hl hP hD hS i1 i3 jG jw hE; exfalso; omega
      | succ k1 ih1 =>
        intro Mx ii ls H locs hl hP hD hS i1 i3 jG jw hE
        have q96 := rg_X9_countOf jG table (0) (by omega)
        rw [fX9_tell_L1] at hE
        refine lv_iload_n hx hb dX9_tell_20 rfl (lv_at hl 2 rfl) ?_
        refine lv_aload_n hx hb dX9_tell_21 rfl (lv_at hl 0 rfl) ?_
        refine lv_iload_n hx hb dX9_tell_22 rfl (lv_at hl 1 rfl) ?_
        refine z_iconst hx hb dX9_tell_23 ?_
        refine ct_Vi (VG_fix E cI cC) hZo hZb hZ S0 (kX9_countOf l D E cI cC Z hZo hZb Mx table (0) (by omega) (by omega) jG (fX9_countOf Mx table (0)) rfl) (cwV 2 hts gX9_tell_X9_countOf rfl rfl rfl (by decide +kernel) ⟨(Nat.le_of_ble_eq_true rfl), (Nat.le_of_ble_eq_true rfl)⟩) hK hP hD hS rfl rfl VG_0 rfl hl.1 rfl (Nat.le_of_ble_eq_true rfl) dX9_tell_24 ⟨Nat.zero_le _, Nat.zero_le _⟩ (fun H locs hP hD hS => ?_)
        have q3 := rg_X9_countOf jG table (0) (by omega)
        refine z_icmp_ge hx hb dX9_tell_27 (tgt := 56) rfl (by omega) (by omega) (fun b4 => ?_) (fun b4 => ?_)
        · rw [if_pos b4] at hE
          refine lv_aload_n hx hb dX9_tell_56 rfl (lv_at hl 0 rfl) ?_
          refine lv_aload_n hx hb dX9_tell_57 rfl (lv_at hl 0 rfl) ?_
          refine va_get (own := RX9) (ref := "NapkinSyntaxModel") (C := RX9) (T := TX9) (N := 20) hx hb hts hinX9 hown hK hP 0 VG_0 rfl 15 (Nat.le_of_ble_eq_true rfl) (hts (.fieldLink RX9 237 "NapkinSyntaxModel" "lined" "I") (by decide +kernel)) (fun _ h => h) (v := .int (iI (Mx 25 0))) rfl dX9_tell_58 ?_
          refine ct_Vi (VG_fix E cI cC) hZo hZb hZ S0 (kX9_done l D E cI cC Z hZo hZb Mx (Mx 25 0)  (fX9_done Mx (Mx 25 0)).1 (fX9_done Mx (Mx 25 0)).2 (Prod.ext rfl rfl)) (cwV 1 hts gX9_tell_X9_done rfl rfl rfl (by decide +kernel) ⟨(Nat.le_of_ble_eq_true rfl), (Nat.le_of_ble_eq_true rfl)⟩) hK hP hD hS rfl rfl VG_0 rfl hl.1 rfl (Nat.le_of_ble_eq_true rfl) dX9_tell_61 ⟨Nat.zero_le _, Nat.zero_le _⟩ (fun H locs hP hD hS => ?_)
          obtain ⟨e1, e2⟩ := Prod.mk.inj hE
          subst e2
          exact ci_i hx hb hr hlocks e1 rfl hS hP dX9_tell_64
        · rw [if_neg b4] at hE
          refine lv_iload_n hx hb dX9_tell_30 rfl (lv_at hl 2 rfl) ?_
          refine z_if_le hx hb dX9_tell_31 (tgt := 40) rfl (by omega) (fun b5 => ?_) (fun b5 => ?_)
          · rw [if_pos b5] at hE
            refine lv_aload_n hx hb dX9_tell_40 rfl (lv_at hl 0 rfl) ?_
            refine lv_aload_n hx hb dX9_tell_41 rfl (lv_at hl 0 rfl) ?_
            refine lv_iload_n hx hb dX9_tell_42 rfl (lv_at hl 1 rfl) ?_
            refine lv_iload_n hx hb dX9_tell_43 rfl (lv_at hl 2 rfl) ?_
            refine ct_Vi (VG_fix E cI cC) hZo hZb hZ S0 (kX9_saidAt l D E cI cC Z hZo hZb Mx table ii (by omega) (by omega) jG (fX9_saidAt Mx table ii) rfl) (cwV 2 hts gX9_tell_X9_saidAt rfl rfl rfl (by decide +kernel) ⟨(Nat.le_of_ble_eq_true rfl), (Nat.le_of_ble_eq_true rfl)⟩) hK hP hD hS rfl rfl VG_0 rfl hl.1 rfl (Nat.le_of_ble_eq_true rfl) dX9_tell_44 ⟨Nat.zero_le _, Nat.zero_le _⟩ (fun H locs hP hD hS => ?_)
            have q6 := rg_X9_saidAt jG table ii (by omega)
            refine ct_Vv (VG_fix E cI cC) hZo hZb hZ S0 (kX9_tellsOne l D E cI cC Z hZo hZb Mx (fX9_saidAt Mx table ii) (by first | exact said_ge jG (by omega) (by omega) (by omega) | (rw [said_of0 (N := Mx) (fr_fX9_writes _ rfl rfl)]; exact said_ge jG (by omega) (by omega) (by omega))) (by first | omega | (simp only [wr_25]; omega)) jG (fX9_tellsOne Mx (fX9_saidAt Mx table ii)) rfl) (cwV 1 hts gX9_tell_X9_tellsOne rfl rfl rfl (by decide +kernel) ⟨(Nat.le_of_ble_eq_true rfl), (Nat.le_of_ble_eq_true rfl)⟩) hK hP hD hS rfl rfl VG_0 rfl hl.1 rfl (Nat.le_of_ble_eq_true rfl) dX9_tell_47 ⟨Nat.zero_le _, Nat.zero_le _⟩ (fun H locs hP hD hS => ?_)
            refine z_iinc hx hb dX9_tell_50 hl (k := 2) rfl (Nat.le_of_ble_eq_true rfl) (lv' := [(2, .int (iI (ii + 1))), (0, .ref (E 0)), (1, .int (iI table))]) rfl (fun ls hl => ?_)
            refine lv_goto hx hb dX9_tell_53 (tgt := 20) rfl ?_
            exact ih1 (fX9_tellsOne Mx (fX9_saidAt Mx table ii)) (ii + 1) ls _ _ (lv_sub hl [1, 2, 0] rfl) hP hD hS (by omega) (by omega) (GI_of (fr_fX9_tellsOne (fX9_saidAt Mx table ii) rfl rfl) jG) (tl_step (by first | omega | (simp only [wr_25]; omega))) hE
          · rw [if_neg b5] at hE
            refine lv_aload_n hx hb dX9_tell_34 rfl (lv_at hl 0 rfl) ?_
            refine z_bipush hx hb dX9_tell_35 (by decide +kernel) ?_
            refine ct_Vv (VG_fix E cI cC) hZo hZb hZ S0 (kX9_writes l D E cI cC Z hZo hZb Mx (32) (by omega) (by first | omega | (simp only [wr_25]; omega)) (fX9_writes Mx (32)) rfl) (cwV 1 hts gX9_tell_X9_writes rfl rfl rfl (by decide +kernel) ⟨(Nat.le_of_ble_eq_true rfl), (Nat.le_of_ble_eq_true rfl)⟩) hK hP hD hS rfl rfl VG_0 rfl hl.1 rfl (Nat.le_of_ble_eq_true rfl) dX9_tell_37 ⟨Nat.zero_le _, Nat.zero_le _⟩ (fun H locs hP hD hS => ?_)
            refine lv_aload_n hx hb dX9_tell_40 rfl (lv_at hl 0 rfl) ?_
            refine lv_aload_n hx hb dX9_tell_41 rfl (lv_at hl 0 rfl) ?_
            refine lv_iload_n hx hb dX9_tell_42 rfl (lv_at hl 1 rfl) ?_
            refine lv_iload_n hx hb dX9_tell_43 rfl (lv_at hl 2 rfl) ?_
            refine ct_Vi (VG_fix E cI cC) hZo hZb hZ S0 (kX9_saidAt l D E cI cC Z hZo hZb (fX9_writes Mx (32)) table ii (by omega) (by omega) (GI_of (fr_fX9_writes (32) rfl rfl) jG) (fX9_saidAt (fX9_writes Mx (32)) table ii) rfl) (cwV 2 hts gX9_tell_X9_saidAt rfl rfl rfl (by decide +kernel) ⟨(Nat.le_of_ble_eq_true rfl), (Nat.le_of_ble_eq_true rfl)⟩) hK hP hD hS rfl rfl VG_0 rfl hl.1 rfl (Nat.le_of_ble_eq_true rfl) dX9_tell_44 ⟨Nat.zero_le _, Nat.zero_le _⟩ (fun H locs hP hD hS => ?_)
            have q7 := rg_X9_saidAt (GI_of (fr_fX9_writes (32) rfl rfl) jG) table ii (by omega)
            refine ct_Vv (VG_fix E cI cC) hZo hZb hZ S0 (kX9_tellsOne l D E cI cC Z hZo hZb (fX9_writes Mx (32)) (fX9_saidAt (fX9_writes Mx (32)) table ii) (by first | exact said_ge jG (by omega) (by omega) (by omega) | (rw [said_of0 (N := Mx) (fr_fX9_writes _ rfl rfl)]; exact said_ge jG (by omega) (by omega) (by omega))) (by first | omega | (simp only [wr_25]; omega)) (GI_of (fr_fX9_writes (32) rfl rfl) jG) (fX9_tellsOne (fX9_writes Mx (32)) (fX9_saidAt (fX9_writes Mx (32)) table ii)) rfl) (cwV 1 hts gX9_tell_X9_tellsOne rfl rfl rfl (by decide +kernel) ⟨(Nat.le_of_ble_eq_true rfl), (Nat.le_of_ble_eq_true rfl)⟩) hK hP hD hS rfl rfl VG_0 rfl hl.1 rfl (Nat.le_of_ble_eq_true rfl) dX9_tell_47 ⟨Nat.zero_le _, Nat.zero_le _⟩ (fun H locs hP hD hS => ?_)
            refine z_iinc hx hb dX9_tell_50 hl (k := 2) rfl (Nat.le_of_ble_eq_true rfl) (lv' := [(2, .int (iI (ii + 1))), (0, .ref (E 0)), (1, .int (iI table))]) rfl (fun ls hl => ?_)
            refine lv_goto hx hb dX9_tell_53 (tgt := 20) rfl ?_
            exact ih1 (fX9_tellsOne (fX9_writes Mx (32)) (fX9_saidAt (fX9_writes Mx (32)) table ii)) (ii + 1) ls _ _ (lv_sub hl [1, 2, 0] rfl) hP hD hS (by omega) (by omega) (GI_of (fr_fX9_tellsOne (fX9_saidAt (fX9_writes Mx (32)) table ii) rfl rfl) (GI_of (fr_fX9_writes (32) rfl rfl) jG)) (tl_step (by first | omega | (simp only [wr_25]; omega))) hE
    exact L1 7 (msf M 25 (0)) (0) ls _ _ (lv_sub hl [1, 2, 0] rfl) hP hD hS (by omega) (by omega) hG ⟨(by decide : (0 : Int) ≤ 0), (by decide : (0 : Int) ≤ 4 * 0)⟩ hE
  · rw [if_pos b2] at hE
    refine lv_aload_n hx hb dX9_tell_7 rfl (lv_at hl 0 rfl) ?_
    refine z_iconst hx hb dX9_tell_8 ?_
    refine ct_Vi (VG_fix E cI cC) hZo hZb hZ S0 (kX9_fails l D E cI cC Z hZo hZb M (1)  (fX9_fails M (1)).1 (fX9_fails M (1)).2 (Prod.ext rfl rfl)) (cwV 1 hts gX9_tell_X9_fails rfl rfl rfl (by decide +kernel) ⟨(Nat.le_of_ble_eq_true rfl), (Nat.le_of_ble_eq_true rfl)⟩) hK hP hD hS rfl rfl VG_0 rfl hl.1 rfl (Nat.le_of_ble_eq_true rfl) dX9_tell_9 ⟨Nat.zero_le _, Nat.zero_le _⟩ (fun H locs hP hD hS => ?_)
    obtain ⟨e1, e2⟩ := Prod.mk.inj hE
    subst e2
    exact ci_i hx hb hr hlocks e1 rfl hS hP dX9_tell_12

theorem fr_fX9_tell_L1 (M : Mem) (table : Int) {r : Nat} (h5 : Nat.beq r 5 = false) (h23 : Nat.beq r 23 = false) (h25 : Nat.beq r 25 = false) (h26 : Nat.beq r 26 = false) : ∀ (k : Nat) (Mx : Mem) (ii : Int), (fX9_tell_L1 M table k Mx ii).2 r = Mx r := by
  intro k
  induction k with
  | zero => intros; rfl
  | succ k ih =>
    intro Mx ii
    rw [fX9_tell_L1]
    (repeat' with_reducible refine frite_w (fun _ => ?_) (fun _ => ?_)) <;> first | with_reducible rfl | simp only [ih, mst_o, msf_o, mcp_o, fr_fX9_done, fr_fX9_fails, fr_fX9_tellsOne, fr_fX9_writes, h5, h23, h25, h26]
theorem fr_fX9_tell {M : Mem} (table : Int) {r : Nat} (h5 : Nat.beq r 5 = false) (h23 : Nat.beq r 23 = false) (h25 : Nat.beq r 25 = false) (h26 : Nat.beq r 26 = false) : (fX9_tell M table).2 r = M r := by
  unfold fX9_tell
  (repeat' with_reducible refine frite_w (fun _ => ?_) (fun _ => ?_)) <;> first | with_reducible rfl | simp only [mst_o, msf_o, mcp_o, fr_fX9_done, fr_fX9_fails, fr_fX9_tellsOne, fr_fX9_writes, h5, h23, h25, h26, fr_fX9_tell_L1]

def fX9_sumOf_L1 (M : Mem) (first : Int) : Nat → Int → Int → (Int)
  | 0, _, _ => 0
  | k1 + 1, sum, n => if ((M 0 (0)) ≤ n) then sum else fX9_sumOf_L1 M first k1 (sum + (M 0 (first + n))) (n + 1)
def fX9_sumOf (M : Mem) (first : Int) : Int := fX9_sumOf_L1 M first 12 (0) (0)
set_option maxRecDepth 100000 in
set_option maxHeartbeats 4000000 in
theorem kX9_sumOf (l : Launch) (D : va_G) (E : Nat → Nat) (cI cC : ClassId) (Z : State → Prop) (hZo : ∀ M : Mem, ZOk (VG E cI cC M) Z) (hZb : ZBl Z) (M : Mem) (first : Int) (h1 : 5 ≤ first ∧ first ≤ 45) (hG : GI M) (r : Int) (hE : fX9_sumOf M first = r) : Ci l yX9_sumOf wsX9_sumOf 0 0 [.ref (E 0), .int (iI first)] D (TY cI cC) (VG E cI cC) Z M r M := by
  refine Ci.of (cc := cX9_sumOf) (maxL := 4) (ret := (some .int)) (by decide +kernel) rfl (Nat.le_of_ble_eq_true rfl) ?_
  intro p e s m args below meth c ls hx hb hml hr hown hts hlocks hP hK hD hZ hS hl
  have hl : lv_has ls 4 [(0, .ref (E 0)), (1, .int (iI first))] := hl
  have S0 : CallFix p m c cX9_sumOf 4 s args wsX9_sumOf RX9 := ⟨hx, hb, hml, hown, hts⟩
  have hinX9 : ∀ w ∈ u_ws RX9 TX9 20, w ∈ wsX9_sumOf := by decide +kernel
  rw [fX9_sumOf] at hE
  refine z_iconst hx hb dX9_sumOf_0 ?_
  refine lv_istore_n hx hb dX9_sumOf_1 rfl hl (Nat.le_of_ble_eq_true rfl) (lv' := [(2, .int (iI (0))), (0, .ref (E 0)), (1, .int (iI first))]) rfl (fun ls hl => ?_)
  refine z_iconst hx hb dX9_sumOf_2 ?_
  refine lv_istore_n hx hb dX9_sumOf_3 rfl hl (Nat.le_of_ble_eq_true rfl) (lv' := [(3, .int (iI (0))), (2, .int (iI (0))), (0, .ref (E 0)), (1, .int (iI first))]) rfl (fun ls hl => ?_)
  have L1 : ∀ (k1 : Nat) (sum n : Int) (ls : Array Slot) (H : Heap) (locs : List Loc), lv_has ls 4 [(0, .ref (E 0)), (1, .int (iI first)), (2, .int (iI sum)), (3, .int (iI n))] → va_P D vwCl (VG E cI cC M) H → va_D (wA (VG E cI cC M)) (VG E cI cC M) → va_S (wA (VG E cI cC M)) s.heap H locs → (0 ≤ n ∧ n ≤ M 0 0) → (M 0 0 - n < (k1 : Int)) → fX9_sumOf_L1 M first k1 sum n = r → W p l e (zRm 0 0) s m args below meth c H locs 0 0 (MQ below (ciQ D (VG E cI cC) M r M) args s 0 0 (wA (VG E cI cC M))) (F0 m 4 ls []) := by
    intro k1
    induction k1 with
    | zero => intro sum n ls H locs hl hP hD hS i1 i3 hE; exfalso; omega
    | succ k1 ih1 =>
      intro sum n ls H locs hl hP hD hS i1 i3 hE
      have q95 := GI_0 hG
      rw [fX9_sumOf_L1] at hE
      refine lv_iload_n hx hb dX9_sumOf_4 rfl (lv_at hl 3 rfl) ?_
      refine lv_aload_n hx hb dX9_sumOf_5 rfl (lv_at hl 0 rfl) ?_
      refine va_get (own := RX9) (ref := "NapkinSyntaxModel") (C := RX9) (T := TX9) (N := 20) hx hb hts hinX9 hown hK hP 0 VG_0 rfl 0 (Nat.le_of_ble_eq_true rfl) (hts (.fieldLink RX9 7 "NapkinSyntaxModel" "g" "[I") (by decide +kernel)) (fun _ h => h) (v := .ref (E 1)) rfl dX9_sumOf_6 ?_
      refine z_iconst hx hb dX9_sumOf_9 ?_
      refine z_iald hx hb hK hP 1 0 VG_1 rfl (by omega) (by omega) (by decide) dX9_sumOf_10 ?_
      have q1 := GI_0 hG
      refine z_icmp_ge hx hb dX9_sumOf_11 (tgt := 31) rfl (by omega) (by omega) (fun b2 => ?_) (fun b2 => ?_)
      · rw [if_pos b2] at hE
        refine lv_iload_n hx hb dX9_sumOf_31 rfl (lv_at hl 2 rfl) ?_
        exact ci_i hx hb hr hlocks hE rfl hS hP dX9_sumOf_32
      · rw [if_neg b2] at hE
        refine lv_iload_n hx hb dX9_sumOf_14 rfl (lv_at hl 2 rfl) ?_
        refine lv_aload_n hx hb dX9_sumOf_15 rfl (lv_at hl 0 rfl) ?_
        refine va_get (own := RX9) (ref := "NapkinSyntaxModel") (C := RX9) (T := TX9) (N := 20) hx hb hts hinX9 hown hK hP 0 VG_0 rfl 0 (Nat.le_of_ble_eq_true rfl) (hts (.fieldLink RX9 7 "NapkinSyntaxModel" "g" "[I") (by decide +kernel)) (fun _ h => h) (v := .ref (E 1)) rfl dX9_sumOf_16 ?_
        refine lv_iload_n hx hb dX9_sumOf_19 rfl (lv_at hl 1 rfl) ?_
        refine lv_iload_n hx hb dX9_sumOf_20 rfl (lv_at hl 3 rfl) ?_
        refine z_iadd hx hb dX9_sumOf_21 ?_
        refine z_iald hx hb hK hP 1 0 VG_1 rfl (by omega) (by omega) (by decide) dX9_sumOf_22 ?_
        refine z_iadd hx hb dX9_sumOf_23 ?_
        refine lv_istore_n hx hb dX9_sumOf_24 rfl hl (Nat.le_of_ble_eq_true rfl) (lv' := [(2, .int (iI (sum + (M 0 (first + n))))), (0, .ref (E 0)), (1, .int (iI first)), (3, .int (iI n))]) rfl (fun ls hl => ?_)
        refine z_iinc hx hb dX9_sumOf_25 hl (k := 3) rfl (Nat.le_of_ble_eq_true rfl) (lv' := [(3, .int (iI (n + 1))), (2, .int (iI (sum + (M 0 (first + n))))), (0, .ref (E 0)), (1, .int (iI first))]) rfl (fun ls hl => ?_)
        refine lv_goto hx hb dX9_sumOf_28 (tgt := 4) rfl ?_
        exact ih1 (sum + (M 0 (first + n))) (n + 1) ls _ _ (lv_sub hl [2, 3, 1, 0] rfl) hP hD hS (by omega) (by omega) hE
  exact L1 12 (0) (0) ls _ _ (lv_sub hl [2, 3, 1, 0] rfl) hP hD hS (by have := GI_0 hG; omega) (by have := GI_0 hG; omega) hE

def fX9_folded_L1 (M : Mem) : Nat → Int → Int → (Int)
  | 0, _, _ => 0
  | k1 + 1, many, n => if ((M 0 (0)) ≤ n) then many else if ((M 0 ((15) + n)) ≤ 0) then fX9_folded_L1 M k1 (many + (0)) (n + 1) else fX9_folded_L1 M k1 (many + (1)) (n + 1)
def fX9_folded (M : Mem) : Int := fX9_folded_L1 M 12 (0) (0)
set_option maxRecDepth 100000 in
set_option maxHeartbeats 4000000 in
theorem kX9_folded (l : Launch) (D : va_G) (E : Nat → Nat) (cI cC : ClassId) (Z : State → Prop) (hZo : ∀ M : Mem, ZOk (VG E cI cC M) Z) (hZb : ZBl Z) (M : Mem) (hG : GI M) (r : Int) (hE : fX9_folded M = r) : Ci l yX9_folded wsX9_folded 0 0 [.ref (E 0)] D (TY cI cC) (VG E cI cC) Z M r M := by
  refine Ci.of (cc := cX9_folded) (maxL := 3) (ret := (some .int)) (by decide +kernel) rfl (Nat.le_of_ble_eq_true rfl) ?_
  intro p e s m args below meth c ls hx hb hml hr hown hts hlocks hP hK hD hZ hS hl
  have hl : lv_has ls 3 [(0, .ref (E 0))] := hl
  have S0 : CallFix p m c cX9_folded 3 s args wsX9_folded RX9 := ⟨hx, hb, hml, hown, hts⟩
  have hinX9 : ∀ w ∈ u_ws RX9 TX9 20, w ∈ wsX9_folded := by decide +kernel
  rw [fX9_folded] at hE
  refine z_iconst hx hb dX9_folded_0 ?_
  refine lv_istore_n hx hb dX9_folded_1 rfl hl (Nat.le_of_ble_eq_true rfl) (lv' := [(1, .int (iI (0))), (0, .ref (E 0))]) rfl (fun ls hl => ?_)
  refine z_iconst hx hb dX9_folded_2 ?_
  refine lv_istore_n hx hb dX9_folded_3 rfl hl (Nat.le_of_ble_eq_true rfl) (lv' := [(2, .int (iI (0))), (1, .int (iI (0))), (0, .ref (E 0))]) rfl (fun ls hl => ?_)
  have L1 : ∀ (k1 : Nat) (many n : Int) (ls : Array Slot) (H : Heap) (locs : List Loc), lv_has ls 3 [(0, .ref (E 0)), (1, .int (iI many)), (2, .int (iI n))] → va_P D vwCl (VG E cI cC M) H → va_D (wA (VG E cI cC M)) (VG E cI cC M) → va_S (wA (VG E cI cC M)) s.heap H locs → (0 ≤ n ∧ n ≤ M 0 0) → (M 0 0 - n < (k1 : Int)) → fX9_folded_L1 M k1 many n = r → W p l e (zRm 0 0) s m args below meth c H locs 0 0 (MQ below (ciQ D (VG E cI cC) M r M) args s 0 0 (wA (VG E cI cC M))) (F0 m 4 ls []) := by
    intro k1
    induction k1 with
    | zero => intro many n ls H locs hl hP hD hS i1 i3 hE; exfalso; omega
    | succ k1 ih1 =>
      intro many n ls H locs hl hP hD hS i1 i3 hE
      have q95 := GI_0 hG
      rw [fX9_folded_L1] at hE
      refine lv_iload_n hx hb dX9_folded_4 rfl (lv_at hl 2 rfl) ?_
      refine lv_aload_n hx hb dX9_folded_5 rfl (lv_at hl 0 rfl) ?_
      refine va_get (own := RX9) (ref := "NapkinSyntaxModel") (C := RX9) (T := TX9) (N := 20) hx hb hts hinX9 hown hK hP 0 VG_0 rfl 0 (Nat.le_of_ble_eq_true rfl) (hts (.fieldLink RX9 7 "NapkinSyntaxModel" "g" "[I") (by decide +kernel)) (fun _ h => h) (v := .ref (E 1)) rfl dX9_folded_6 ?_
      refine z_iconst hx hb dX9_folded_9 ?_
      refine z_iald hx hb hK hP 1 0 VG_1 rfl (by omega) (by omega) (by decide) dX9_folded_10 ?_
      have q1 := GI_0 hG
      refine z_icmp_ge hx hb dX9_folded_11 (tgt := 40) rfl (by omega) (by omega) (fun b2 => ?_) (fun b2 => ?_)
      · rw [if_pos b2] at hE
        refine lv_iload_n hx hb dX9_folded_40 rfl (lv_at hl 1 rfl) ?_
        exact ci_i hx hb hr hlocks hE rfl hS hP dX9_folded_41
      · rw [if_neg b2] at hE
        refine lv_iload_n hx hb dX9_folded_14 rfl (lv_at hl 1 rfl) ?_
        refine lv_aload_n hx hb dX9_folded_15 rfl (lv_at hl 0 rfl) ?_
        refine va_get (own := RX9) (ref := "NapkinSyntaxModel") (C := RX9) (T := TX9) (N := 20) hx hb hts hinX9 hown hK hP 0 VG_0 rfl 0 (Nat.le_of_ble_eq_true rfl) (hts (.fieldLink RX9 7 "NapkinSyntaxModel" "g" "[I") (by decide +kernel)) (fun _ h => h) (v := .ref (E 1)) rfl dX9_folded_16 ?_
        refine z_bipush hx hb dX9_folded_19 (by decide +kernel) ?_
        refine lv_iload_n hx hb dX9_folded_21 rfl (lv_at hl 2 rfl) ?_
        refine z_iadd hx hb dX9_folded_22 ?_
        refine z_iald hx hb hK hP 1 0 VG_1 rfl (by omega) (by omega) (by decide) dX9_folded_23 ?_
        have q3 := GI_15 hG ((15) + n) (by omega) (by omega)
        refine z_if_le hx hb dX9_folded_24 (tgt := 31) rfl (by omega) (fun b4 => ?_) (fun b4 => ?_)
        · rw [if_pos b4] at hE
          refine z_iconst hx hb dX9_folded_31 ?_
          refine z_iadd hx hb dX9_folded_32 ?_
          refine lv_istore_n hx hb dX9_folded_33 rfl hl (Nat.le_of_ble_eq_true rfl) (lv' := [(1, .int (iI (many + (0)))), (0, .ref (E 0)), (2, .int (iI n))]) rfl (fun ls hl => ?_)
          refine z_iinc hx hb dX9_folded_34 hl (k := 2) rfl (Nat.le_of_ble_eq_true rfl) (lv' := [(2, .int (iI (n + 1))), (1, .int (iI (many + (0)))), (0, .ref (E 0))]) rfl (fun ls hl => ?_)
          refine lv_goto hx hb dX9_folded_37 (tgt := 4) rfl ?_
          exact ih1 (many + (0)) (n + 1) ls _ _ (lv_sub hl [2, 1, 0] rfl) hP hD hS (by omega) (by omega) hE
        · rw [if_neg b4] at hE
          refine z_iconst hx hb dX9_folded_27 ?_
          refine lv_goto hx hb dX9_folded_28 (tgt := 32) rfl ?_
          refine z_iadd hx hb dX9_folded_32 ?_
          refine lv_istore_n hx hb dX9_folded_33 rfl hl (Nat.le_of_ble_eq_true rfl) (lv' := [(1, .int (iI (many + (1)))), (0, .ref (E 0)), (2, .int (iI n))]) rfl (fun ls hl => ?_)
          refine z_iinc hx hb dX9_folded_34 hl (k := 2) rfl (Nat.le_of_ble_eq_true rfl) (lv' := [(2, .int (iI (n + 1))), (1, .int (iI (many + (1)))), (0, .ref (E 0))]) rfl (fun ls hl => ?_)
          refine lv_goto hx hb dX9_folded_37 (tgt := 4) rfl ?_
          exact ih1 (many + (1)) (n + 1) ls _ _ (lv_sub hl [2, 1, 0] rfl) hP hD hS (by omega) (by omega) hE
  exact L1 12 (0) (0) ls _ _ (lv_sub hl [2, 1, 0] rfl) hP hD hS (by have := GI_0 hG; omega) (by have := GI_0 hG; omega) hE

def fX9_rightTables_L1 (M : Mem) : Nat → Int → Int → (Int)
  | 0, _, _ => 0
  | k1 + 1, n, tab => if ((3) ≤ tab) then n else if ((fX9_rightly M tab) = 0) then fX9_rightTables_L1 M k1 (n + (0)) (tab + 1) else fX9_rightTables_L1 M k1 (n + (1)) (tab + 1)
def fX9_rightTables (M : Mem) : Int := fX9_rightTables_L1 M 4 (0) (0)
set_option maxRecDepth 100000 in
set_option maxHeartbeats 4000000 in
theorem kX9_rightTables (l : Launch) (D : va_G) (E : Nat → Nat) (cI cC : ClassId) (Z : State → Prop) (hZo : ∀ M : Mem, ZOk (VG E cI cC M) Z) (hZb : ZBl Z) (M : Mem) (hG : GI M) (r : Int) (hE : fX9_rightTables M = r) : Ci l yX9_rightTables wsX9_rightTables 5 113 [.ref (E 0)] D (TY cI cC) (VG E cI cC) Z M r M := by
  refine Ci.of (cc := cX9_rightTables) (maxL := 3) (ret := (some .int)) (by decide +kernel) rfl (Nat.le_of_ble_eq_true rfl) ?_
  intro p e s m args below meth c ls hx hb hml hr hown hts hlocks hP hK hD hZ hS hl
  have hl : lv_has ls 3 [(0, .ref (E 0))] := hl
  have S0 : CallFix p m c cX9_rightTables 3 s args wsX9_rightTables RX9 := ⟨hx, hb, hml, hown, hts⟩
  rw [fX9_rightTables] at hE
  refine z_iconst hx hb dX9_rightTables_0 ?_
  refine lv_istore_n hx hb dX9_rightTables_1 rfl hl (Nat.le_of_ble_eq_true rfl) (lv' := [(1, .int (iI (0))), (0, .ref (E 0))]) rfl (fun ls hl => ?_)
  refine z_iconst hx hb dX9_rightTables_2 ?_
  refine lv_istore_n hx hb dX9_rightTables_3 rfl hl (Nat.le_of_ble_eq_true rfl) (lv' := [(2, .int (iI (0))), (1, .int (iI (0))), (0, .ref (E 0))]) rfl (fun ls hl => ?_)
  have L1 : ∀ (k1 : Nat) (n tab : Int) (ls : Array Slot) (H : Heap) (locs : List Loc), lv_has ls 3 [(0, .ref (E 0)), (1, .int (iI n)), (2, .int (iI tab))] → va_P D vwCl (VG E cI cC M) H → va_D (wA (VG E cI cC M)) (VG E cI cC M) → va_S (wA (VG E cI cC M)) s.heap H locs → (0 ≤ tab ∧ tab ≤ 3) → (3 - tab < (k1 : Int)) → fX9_rightTables_L1 M k1 n tab = r → W p l e (zRm 5 113) s m args below meth c H locs 0 0 (MQ below (ciQ D (VG E cI cC) M r M) args s 0 0 (wA (VG E cI cC M))) (F0 m 4 ls []) := by
    intro k1
    induction k1 with
    | zero => intro n tab ls H locs hl hP hD hS i1 i3 hE; exfalso; omega
    | succ k1 ih1 =>
      intro n tab ls H locs hl hP hD hS i1 i3 hE
      rw [fX9_rightTables_L1] at hE
      refine lv_iload_n hx hb dX9_rightTables_4 rfl (lv_at hl 2 rfl) ?_
      refine z_iconst hx hb dX9_rightTables_5 ?_
      refine z_icmp_ge hx hb dX9_rightTables_6 (tgt := 31) rfl (by omega) (by omega) (fun b1 => ?_) (fun b1 => ?_)
      · rw [if_pos b1] at hE
        refine lv_iload_n hx hb dX9_rightTables_31 rfl (lv_at hl 1 rfl) ?_
        exact ci_i hx hb hr hlocks hE rfl hS hP dX9_rightTables_32
      · rw [if_neg b1] at hE
        refine lv_iload_n hx hb dX9_rightTables_9 rfl (lv_at hl 1 rfl) ?_
        refine lv_aload_n hx hb dX9_rightTables_10 rfl (lv_at hl 0 rfl) ?_
        refine lv_iload_n hx hb dX9_rightTables_11 rfl (lv_at hl 2 rfl) ?_
        refine ct_Vi (VG_fix E cI cC) hZo hZb hZ S0 (kX9_rightly l D E cI cC Z hZo hZb M tab (by omega) hG (fX9_rightly M tab) rfl) (cwV 1 hts gX9_rightTables_X9_rightly rfl rfl rfl (by decide +kernel) ⟨(Nat.le_of_ble_eq_true rfl), (Nat.le_of_ble_eq_true rfl)⟩) hK hP hD hS rfl rfl VG_0 rfl hl.1 rfl (Nat.le_of_ble_eq_true rfl) dX9_rightTables_12 ⟨Nat.zero_le _, Nat.zero_le _⟩ (fun H locs hP hD hS => ?_)
        have q2 := bX9_rightly M tab
        refine z_if_eq hx hb dX9_rightTables_15 (tgt := 22) rfl (by omega) (fun b3 => ?_) (fun b3 => ?_)
        · rw [if_pos b3] at hE
          refine z_iconst hx hb dX9_rightTables_22 ?_
          refine z_iadd hx hb dX9_rightTables_23 ?_
          refine lv_istore_n hx hb dX9_rightTables_24 rfl hl (Nat.le_of_ble_eq_true rfl) (lv' := [(1, .int (iI (n + (0)))), (0, .ref (E 0)), (2, .int (iI tab))]) rfl (fun ls hl => ?_)
          refine z_iinc hx hb dX9_rightTables_25 hl (k := 2) rfl (Nat.le_of_ble_eq_true rfl) (lv' := [(2, .int (iI (tab + 1))), (1, .int (iI (n + (0)))), (0, .ref (E 0))]) rfl (fun ls hl => ?_)
          refine lv_goto hx hb dX9_rightTables_28 (tgt := 4) rfl ?_
          exact ih1 (n + (0)) (tab + 1) ls _ _ (lv_sub hl [2, 1, 0] rfl) hP hD hS (by omega) (by omega) hE
        · rw [if_neg b3] at hE
          refine z_iconst hx hb dX9_rightTables_18 ?_
          refine lv_goto hx hb dX9_rightTables_19 (tgt := 23) rfl ?_
          refine z_iadd hx hb dX9_rightTables_23 ?_
          refine lv_istore_n hx hb dX9_rightTables_24 rfl hl (Nat.le_of_ble_eq_true rfl) (lv' := [(1, .int (iI (n + (1)))), (0, .ref (E 0)), (2, .int (iI tab))]) rfl (fun ls hl => ?_)
          refine z_iinc hx hb dX9_rightTables_25 hl (k := 2) rfl (Nat.le_of_ble_eq_true rfl) (lv' := [(2, .int (iI (tab + 1))), (1, .int (iI (n + (1)))), (0, .ref (E 0))]) rfl (fun ls hl => ?_)
          refine lv_goto hx hb dX9_rightTables_28 (tgt := 4) rfl ?_
          exact ih1 (n + (1)) (tab + 1) ls _ _ (lv_sub hl [2, 1, 0] rfl) hP hD hS (by omega) (by omega) hE
  exact L1 4 (0) (0) ls _ _ (lv_sub hl [2, 1, 0] rfl) hP hD hS (by omega) (by omega) hE

def fX9_account (M : Mem) (what : Int) : Int × Mem := if (what = 0) then ((fX9_done M (M 0 (0))).1, (fX9_done M (M 0 (0))).2) else if (what = 1) then ((fX9_done M (fX9_folded M)).1, (fX9_done M (fX9_folded M)).2) else if (what = 2) then ((fX9_done M (((M 0 (55)) + (M 0 (56))) + (M 0 (57)))).1, (fX9_done M (((M 0 (55)) + (M 0 (56))) + (M 0 (57)))).2) else if (what = 3) then ((fX9_done M (fX9_sumOf M (25))).1, (fX9_done M (fX9_sumOf M (25))).2) else if (what = 4) then ((fX9_done M (fX9_sumOf M (35))).1, (fX9_done M (fX9_sumOf M (35))).2) else if (what = 5) then ((fX9_done M (fX9_rightTables M)).1, (fX9_done M (fX9_rightTables M)).2) else if (what = 6) then ((fX9_done M (M 0 (((1) + what) - (6)))).1, (fX9_done M (M 0 (((1) + what) - (6)))).2) else if (what = 7) then ((fX9_done M (M 0 (((1) + what) - (6)))).1, (fX9_done M (M 0 (((1) + what) - (6)))).2) else if (what = 8) then ((fX9_done M (M 0 (((1) + what) - (6)))).1, (fX9_done M (M 0 (((1) + what) - (6)))).2) else if (what = 9) then ((fX9_done M (M 0 (((1) + what) - (6)))).1, (fX9_done M (M 0 (((1) + what) - (6)))).2) else if (what = 10) then ((fX9_done M (M 17 0)).1, (fX9_done M (M 17 0)).2) else if (what = 11) then ((fX9_done M (M 13 0)).1, (fX9_done M (M 13 0)).2) else ((fX9_fails M (1)).1, (fX9_fails M (1)).2)
set_option maxRecDepth 100000 in
set_option maxHeartbeats 4000000 in
theorem kX9_account (l : Launch) (D : va_G) (E : Nat → Nat) (cI cC : ClassId) (Z : State → Prop) (hZo : ∀ M : Mem, ZOk (VG E cI cC M) Z) (hZb : ZBl Z) (M : Mem) (what : Int) (h1 : -2147483648 ≤ what ∧ what < 2147483648) (hG : GI M) (r : Int) (M' : Mem) (hE : fX9_account M what = (r, M')) : Ci l yX9_account wsX9_account 6 135 [.ref (E 0), .int (iI what)] D (TY cI cC) (VG E cI cC) Z M r M' := by
  refine Ci.of (cc := cX9_account) (maxL := 2) (ret := (some .int)) (by decide +kernel) rfl (Nat.le_of_ble_eq_true rfl) ?_
  intro p e s m args below meth c ls hx hb hml hr hown hts hlocks hP hK hD hZ hS hl
  have hl : lv_has ls 2 [(0, .ref (E 0)), (1, .int (iI what))] := hl
  have S0 : CallFix p m c cX9_account 2 s args wsX9_account RX9 := ⟨hx, hb, hml, hown, hts⟩
  have hinX9 : ∀ w ∈ u_ws RX9 TX9 20, w ∈ wsX9_account := by decide +kernel
  rw [fX9_account] at hE
  refine lv_iload_n hx hb dX9_account_0 rfl (lv_at hl 1 rfl) ?_
  by_cases b1 : (what = 0)
  · rw [if_pos b1] at hE
    refine z_table hx hb dX9_account_1 (k0 := 0) (tgt := 64) (by omega) b1 (by decide) (by decide) rfl rfl ?_
    refine lv_aload_n hx hb dX9_account_64 rfl (lv_at hl 0 rfl) ?_
    refine lv_aload_n hx hb dX9_account_65 rfl (lv_at hl 0 rfl) ?_
    refine va_get (own := RX9) (ref := "NapkinSyntaxModel") (C := RX9) (T := TX9) (N := 20) hx hb hts hinX9 hown hK hP 0 VG_0 rfl 0 (Nat.le_of_ble_eq_true rfl) (hts (.fieldLink RX9 7 "NapkinSyntaxModel" "g" "[I") (by decide +kernel)) (fun _ h => h) (v := .ref (E 1)) rfl dX9_account_66 ?_
    refine z_iconst hx hb dX9_account_69 ?_
    refine z_iald hx hb hK hP 1 0 VG_1 rfl (by omega) (by omega) (by decide) dX9_account_70 ?_
    have q2 := GI_0 hG
    refine ct_Vi (VG_fix E cI cC) hZo hZb hZ S0 (kX9_done l D E cI cC Z hZo hZb M (M 0 (0))  (fX9_done M (M 0 (0))).1 (fX9_done M (M 0 (0))).2 (Prod.ext rfl rfl)) (cwV 1 hts gX9_account_X9_done rfl rfl rfl (by decide +kernel) ⟨(Nat.le_of_ble_eq_true rfl), (Nat.le_of_ble_eq_true rfl)⟩) hK hP hD hS rfl rfl VG_0 rfl hl.1 rfl (Nat.le_of_ble_eq_true rfl) dX9_account_71 ⟨Nat.zero_le _, Nat.zero_le _⟩ (fun H locs hP hD hS => ?_)
    obtain ⟨e1, e2⟩ := Prod.mk.inj hE
    subst e2
    exact ci_i hx hb hr hlocks e1 rfl hS hP dX9_account_74
  · rw [if_neg b1] at hE
    by_cases b3 : (what = 1)
    · rw [if_pos b3] at hE
      refine z_table hx hb dX9_account_1 (k0 := 1) (tgt := 75) (by omega) b3 (by decide) (by decide) rfl rfl ?_
      refine lv_aload_n hx hb dX9_account_75 rfl (lv_at hl 0 rfl) ?_
      refine lv_aload_n hx hb dX9_account_76 rfl (lv_at hl 0 rfl) ?_
      refine ct_Vi (VG_fix E cI cC) hZo hZb hZ S0 (kX9_folded l D E cI cC Z hZo hZb M hG (fX9_folded M) rfl) (cwV 0 hts gX9_account_X9_folded rfl rfl rfl (by decide +kernel) ⟨(Nat.le_of_ble_eq_true rfl), (Nat.le_of_ble_eq_true rfl)⟩) hK hP hD hS rfl rfl VG_0 rfl hl.1 rfl (Nat.le_of_ble_eq_true rfl) dX9_account_77 ⟨Nat.zero_le _, Nat.zero_le _⟩ (fun H locs hP hD hS => ?_)
      refine ct_Vi (VG_fix E cI cC) hZo hZb hZ S0 (kX9_done l D E cI cC Z hZo hZb M (fX9_folded M)  (fX9_done M (fX9_folded M)).1 (fX9_done M (fX9_folded M)).2 (Prod.ext rfl rfl)) (cwV 1 hts gX9_account_X9_done rfl rfl rfl (by decide +kernel) ⟨(Nat.le_of_ble_eq_true rfl), (Nat.le_of_ble_eq_true rfl)⟩) hK hP hD hS rfl rfl VG_0 rfl hl.1 rfl (Nat.le_of_ble_eq_true rfl) dX9_account_80 ⟨Nat.zero_le _, Nat.zero_le _⟩ (fun H locs hP hD hS => ?_)
      obtain ⟨e1, e2⟩ := Prod.mk.inj hE
      subst e2
      exact ci_i hx hb hr hlocks e1 rfl hS hP dX9_account_83
    · rw [if_neg b3] at hE
      by_cases b4 : (what = 2)
      · rw [if_pos b4] at hE
        refine z_table hx hb dX9_account_1 (k0 := 2) (tgt := 84) (by omega) b4 (by decide) (by decide) rfl rfl ?_
        refine lv_aload_n hx hb dX9_account_84 rfl (lv_at hl 0 rfl) ?_
        refine lv_aload_n hx hb dX9_account_85 rfl (lv_at hl 0 rfl) ?_
        refine va_get (own := RX9) (ref := "NapkinSyntaxModel") (C := RX9) (T := TX9) (N := 20) hx hb hts hinX9 hown hK hP 0 VG_0 rfl 0 (Nat.le_of_ble_eq_true rfl) (hts (.fieldLink RX9 7 "NapkinSyntaxModel" "g" "[I") (by decide +kernel)) (fun _ h => h) (v := .ref (E 1)) rfl dX9_account_86 ?_
        refine z_bipush hx hb dX9_account_89 (by decide +kernel) ?_
        refine z_iald hx hb hK hP 1 0 VG_1 rfl (by omega) (by omega) (by decide) dX9_account_91 ?_
        refine lv_aload_n hx hb dX9_account_92 rfl (lv_at hl 0 rfl) ?_
        refine va_get (own := RX9) (ref := "NapkinSyntaxModel") (C := RX9) (T := TX9) (N := 20) hx hb hts hinX9 hown hK hP 0 VG_0 rfl 0 (Nat.le_of_ble_eq_true rfl) (hts (.fieldLink RX9 7 "NapkinSyntaxModel" "g" "[I") (by decide +kernel)) (fun _ h => h) (v := .ref (E 1)) rfl dX9_account_93 ?_
        refine z_bipush hx hb dX9_account_96 (by decide +kernel) ?_
        refine z_iald hx hb hK hP 1 0 VG_1 rfl (by omega) (by omega) (by decide) dX9_account_98 ?_
        refine z_iadd hx hb dX9_account_99 ?_
        refine lv_aload_n hx hb dX9_account_100 rfl (lv_at hl 0 rfl) ?_
        refine va_get (own := RX9) (ref := "NapkinSyntaxModel") (C := RX9) (T := TX9) (N := 20) hx hb hts hinX9 hown hK hP 0 VG_0 rfl 0 (Nat.le_of_ble_eq_true rfl) (hts (.fieldLink RX9 7 "NapkinSyntaxModel" "g" "[I") (by decide +kernel)) (fun _ h => h) (v := .ref (E 1)) rfl dX9_account_101 ?_
        refine z_bipush hx hb dX9_account_104 (by decide +kernel) ?_
        refine z_iald hx hb hK hP 1 0 VG_1 rfl (by omega) (by omega) (by decide) dX9_account_106 ?_
        refine z_iadd hx hb dX9_account_107 ?_
        refine ct_Vi (VG_fix E cI cC) hZo hZb hZ S0 (kX9_done l D E cI cC Z hZo hZb M (((M 0 (55)) + (M 0 (56))) + (M 0 (57)))  (fX9_done M (((M 0 (55)) + (M 0 (56))) + (M 0 (57)))).1 (fX9_done M (((M 0 (55)) + (M 0 (56))) + (M 0 (57)))).2 (Prod.ext rfl rfl)) (cwV 1 hts gX9_account_X9_done rfl rfl rfl (by decide +kernel) ⟨(Nat.le_of_ble_eq_true rfl), (Nat.le_of_ble_eq_true rfl)⟩) hK hP hD hS rfl rfl VG_0 rfl hl.1 rfl (Nat.le_of_ble_eq_true rfl) dX9_account_108 ⟨Nat.zero_le _, Nat.zero_le _⟩ (fun H locs hP hD hS => ?_)
        obtain ⟨e1, e2⟩ := Prod.mk.inj hE
        subst e2
        exact ci_i hx hb hr hlocks e1 rfl hS hP dX9_account_111
      · rw [if_neg b4] at hE
        by_cases b5 : (what = 3)
        · rw [if_pos b5] at hE
          refine z_table hx hb dX9_account_1 (k0 := 3) (tgt := 112) (by omega) b5 (by decide) (by decide) rfl rfl ?_
          refine lv_aload_n hx hb dX9_account_112 rfl (lv_at hl 0 rfl) ?_
          refine lv_aload_n hx hb dX9_account_113 rfl (lv_at hl 0 rfl) ?_
          refine z_bipush hx hb dX9_account_114 (by decide +kernel) ?_
          refine ct_Vi (VG_fix E cI cC) hZo hZb hZ S0 (kX9_sumOf l D E cI cC Z hZo hZb M (25) (by omega) hG (fX9_sumOf M (25)) rfl) (cwV 1 hts gX9_account_X9_sumOf rfl rfl rfl (by decide +kernel) ⟨(Nat.le_of_ble_eq_true rfl), (Nat.le_of_ble_eq_true rfl)⟩) hK hP hD hS rfl rfl VG_0 rfl hl.1 rfl (Nat.le_of_ble_eq_true rfl) dX9_account_116 ⟨Nat.zero_le _, Nat.zero_le _⟩ (fun H locs hP hD hS => ?_)
          refine ct_Vi (VG_fix E cI cC) hZo hZb hZ S0 (kX9_done l D E cI cC Z hZo hZb M (fX9_sumOf M (25))  (fX9_done M (fX9_sumOf M (25))).1 (fX9_done M (fX9_sumOf M (25))).2 (Prod.ext rfl rfl)) (cwV 1 hts gX9_account_X9_done rfl rfl rfl (by decide +kernel) ⟨(Nat.le_of_ble_eq_true rfl), (Nat.le_of_ble_eq_true rfl)⟩) hK hP hD hS rfl rfl VG_0 rfl hl.1 rfl (Nat.le_of_ble_eq_true rfl) dX9_account_119 ⟨Nat.zero_le _, Nat.zero_le _⟩ (fun H locs hP hD hS => ?_)
          obtain ⟨e1, e2⟩ := Prod.mk.inj hE
          subst e2
          exact ci_i hx hb hr hlocks e1 rfl hS hP dX9_account_122
        · rw [if_neg b5] at hE
          by_cases b6 : (what = 4)
          · rw [if_pos b6] at hE
            refine z_table hx hb dX9_account_1 (k0 := 4) (tgt := 123) (by omega) b6 (by decide) (by decide) rfl rfl ?_
            refine lv_aload_n hx hb dX9_account_123 rfl (lv_at hl 0 rfl) ?_
            refine lv_aload_n hx hb dX9_account_124 rfl (lv_at hl 0 rfl) ?_
            refine z_bipush hx hb dX9_account_125 (by decide +kernel) ?_
            refine ct_Vi (VG_fix E cI cC) hZo hZb hZ S0 (kX9_sumOf l D E cI cC Z hZo hZb M (35) (by omega) hG (fX9_sumOf M (35)) rfl) (cwV 1 hts gX9_account_X9_sumOf rfl rfl rfl (by decide +kernel) ⟨(Nat.le_of_ble_eq_true rfl), (Nat.le_of_ble_eq_true rfl)⟩) hK hP hD hS rfl rfl VG_0 rfl hl.1 rfl (Nat.le_of_ble_eq_true rfl) dX9_account_127 ⟨Nat.zero_le _, Nat.zero_le _⟩ (fun H locs hP hD hS => ?_)
            refine ct_Vi (VG_fix E cI cC) hZo hZb hZ S0 (kX9_done l D E cI cC Z hZo hZb M (fX9_sumOf M (35))  (fX9_done M (fX9_sumOf M (35))).1 (fX9_done M (fX9_sumOf M (35))).2 (Prod.ext rfl rfl)) (cwV 1 hts gX9_account_X9_done rfl rfl rfl (by decide +kernel) ⟨(Nat.le_of_ble_eq_true rfl), (Nat.le_of_ble_eq_true rfl)⟩) hK hP hD hS rfl rfl VG_0 rfl hl.1 rfl (Nat.le_of_ble_eq_true rfl) dX9_account_130 ⟨Nat.zero_le _, Nat.zero_le _⟩ (fun H locs hP hD hS => ?_)
            obtain ⟨e1, e2⟩ := Prod.mk.inj hE
            subst e2
            exact ci_i hx hb hr hlocks e1 rfl hS hP dX9_account_133
          · rw [if_neg b6] at hE
            by_cases b7 : (what = 5)
            · rw [if_pos b7] at hE
              refine z_table hx hb dX9_account_1 (k0 := 5) (tgt := 134) (by omega) b7 (by decide) (by decide) rfl rfl ?_
              refine lv_aload_n hx hb dX9_account_134 rfl (lv_at hl 0 rfl) ?_
              refine lv_aload_n hx hb dX9_account_135 rfl (lv_at hl 0 rfl) ?_
              refine ct_Vi (VG_fix E cI cC) hZo hZb hZ S0 (kX9_rightTables l D E cI cC Z hZo hZb M hG (fX9_rightTables M) rfl) (cwV 0 hts gX9_account_X9_rightTables rfl rfl rfl (by decide +kernel) ⟨(Nat.le_of_ble_eq_true rfl), (Nat.le_of_ble_eq_true rfl)⟩) hK hP hD hS rfl rfl VG_0 rfl hl.1 rfl (Nat.le_of_ble_eq_true rfl) dX9_account_136 ⟨Nat.zero_le _, Nat.zero_le _⟩ (fun H locs hP hD hS => ?_)
              refine ct_Vi (VG_fix E cI cC) hZo hZb hZ S0 (kX9_done l D E cI cC Z hZo hZb M (fX9_rightTables M)  (fX9_done M (fX9_rightTables M)).1 (fX9_done M (fX9_rightTables M)).2 (Prod.ext rfl rfl)) (cwV 1 hts gX9_account_X9_done rfl rfl rfl (by decide +kernel) ⟨(Nat.le_of_ble_eq_true rfl), (Nat.le_of_ble_eq_true rfl)⟩) hK hP hD hS rfl rfl VG_0 rfl hl.1 rfl (Nat.le_of_ble_eq_true rfl) dX9_account_139 ⟨Nat.zero_le _, Nat.zero_le _⟩ (fun H locs hP hD hS => ?_)
              obtain ⟨e1, e2⟩ := Prod.mk.inj hE
              subst e2
              exact ci_i hx hb hr hlocks e1 rfl hS hP dX9_account_142
            · rw [if_neg b7] at hE
              by_cases b8 : (what = 6)
              · rw [if_pos b8] at hE
                refine z_table hx hb dX9_account_1 (k0 := 6) (tgt := 143) (by omega) b8 (by decide) (by decide) rfl rfl ?_
                refine lv_aload_n hx hb dX9_account_143 rfl (lv_at hl 0 rfl) ?_
                refine lv_aload_n hx hb dX9_account_144 rfl (lv_at hl 0 rfl) ?_
                refine va_get (own := RX9) (ref := "NapkinSyntaxModel") (C := RX9) (T := TX9) (N := 20) hx hb hts hinX9 hown hK hP 0 VG_0 rfl 0 (Nat.le_of_ble_eq_true rfl) (hts (.fieldLink RX9 7 "NapkinSyntaxModel" "g" "[I") (by decide +kernel)) (fun _ h => h) (v := .ref (E 1)) rfl dX9_account_145 ?_
                refine z_iconst hx hb dX9_account_148 ?_
                refine lv_iload_n hx hb dX9_account_149 rfl (lv_at hl 1 rfl) ?_
                refine z_iadd hx hb dX9_account_150 ?_
                refine z_bipush hx hb dX9_account_151 (by decide +kernel) ?_
                refine z_isub hx hb dX9_account_153 ?_
                refine z_iald hx hb hK hP 1 0 VG_1 rfl (by omega) (by omega) (by decide) dX9_account_154 ?_
                refine ct_Vi (VG_fix E cI cC) hZo hZb hZ S0 (kX9_done l D E cI cC Z hZo hZb M (M 0 (((1) + what) - (6)))  (fX9_done M (M 0 (((1) + what) - (6)))).1 (fX9_done M (M 0 (((1) + what) - (6)))).2 (Prod.ext rfl rfl)) (cwV 1 hts gX9_account_X9_done rfl rfl rfl (by decide +kernel) ⟨(Nat.le_of_ble_eq_true rfl), (Nat.le_of_ble_eq_true rfl)⟩) hK hP hD hS rfl rfl VG_0 rfl hl.1 rfl (Nat.le_of_ble_eq_true rfl) dX9_account_155 ⟨Nat.zero_le _, Nat.zero_le _⟩ (fun H locs hP hD hS => ?_)
                obtain ⟨e1, e2⟩ := Prod.mk.inj hE
                subst e2
                exact ci_i hx hb hr hlocks e1 rfl hS hP dX9_account_158
              · rw [if_neg b8] at hE
                by_cases b9 : (what = 7)
                · rw [if_pos b9] at hE
                  refine z_table hx hb dX9_account_1 (k0 := 7) (tgt := 143) (by omega) b9 (by decide) (by decide) rfl rfl ?_
                  refine lv_aload_n hx hb dX9_account_143 rfl (lv_at hl 0 rfl) ?_
                  refine lv_aload_n hx hb dX9_account_144 rfl (lv_at hl 0 rfl) ?_
                  refine va_get (own := RX9) (ref := "NapkinSyntaxModel") (C := RX9) (T := TX9) (N := 20) hx hb hts hinX9 hown hK hP 0 VG_0 rfl 0 (Nat.le_of_ble_eq_true rfl) (hts (.fieldLink RX9 7 "NapkinSyntaxModel" "g" "[I") (by decide +kernel)) (fun _ h => h) (v := .ref (E 1)) rfl dX9_account_145 ?_
                  refine z_iconst hx hb dX9_account_148 ?_
                  refine lv_iload_n hx hb dX9_account_149 rfl (lv_at hl 1 rfl) ?_
                  refine z_iadd hx hb dX9_account_150 ?_
                  refine z_bipush hx hb dX9_account_151 (by decide +kernel) ?_
                  refine z_isub hx hb dX9_account_153 ?_
                  refine z_iald hx hb hK hP 1 0 VG_1 rfl (by omega) (by omega) (by decide) dX9_account_154 ?_
                  refine ct_Vi (VG_fix E cI cC) hZo hZb hZ S0 (kX9_done l D E cI cC Z hZo hZb M (M 0 (((1) + what) - (6)))  (fX9_done M (M 0 (((1) + what) - (6)))).1 (fX9_done M (M 0 (((1) + what) - (6)))).2 (Prod.ext rfl rfl)) (cwV 1 hts gX9_account_X9_done rfl rfl rfl (by decide +kernel) ⟨(Nat.le_of_ble_eq_true rfl), (Nat.le_of_ble_eq_true rfl)⟩) hK hP hD hS rfl rfl VG_0 rfl hl.1 rfl (Nat.le_of_ble_eq_true rfl) dX9_account_155 ⟨Nat.zero_le _, Nat.zero_le _⟩ (fun H locs hP hD hS => ?_)
                  obtain ⟨e1, e2⟩ := Prod.mk.inj hE
                  subst e2
                  exact ci_i hx hb hr hlocks e1 rfl hS hP dX9_account_158
                · rw [if_neg b9] at hE
                  by_cases b10 : (what = 8)
                  · rw [if_pos b10] at hE
                    refine z_table hx hb dX9_account_1 (k0 := 8) (tgt := 143) (by omega) b10 (by decide) (by decide) rfl rfl ?_
                    refine lv_aload_n hx hb dX9_account_143 rfl (lv_at hl 0 rfl) ?_
                    refine lv_aload_n hx hb dX9_account_144 rfl (lv_at hl 0 rfl) ?_
                    refine va_get (own := RX9) (ref := "NapkinSyntaxModel") (C := RX9) (T := TX9) (N := 20) hx hb hts hinX9 hown hK hP 0 VG_0 rfl 0 (Nat.le_of_ble_eq_true rfl) (hts (.fieldLink RX9 7 "NapkinSyntaxModel" "g" "[I") (by decide +kernel)) (fun _ h => h) (v := .ref (E 1)) rfl dX9_account_145 ?_
                    refine z_iconst hx hb dX9_account_148 ?_
                    refine lv_iload_n hx hb dX9_account_149 rfl (lv_at hl 1 rfl) ?_
                    refine z_iadd hx hb dX9_account_150 ?_
                    refine z_bipush hx hb dX9_account_151 (by decide +kernel) ?_
                    refine z_isub hx hb dX9_account_153 ?_
                    refine z_iald hx hb hK hP 1 0 VG_1 rfl (by omega) (by omega) (by decide) dX9_account_154 ?_
                    refine ct_Vi (VG_fix E cI cC) hZo hZb hZ S0 (kX9_done l D E cI cC Z hZo hZb M (M 0 (((1) + what) - (6)))  (fX9_done M (M 0 (((1) + what) - (6)))).1 (fX9_done M (M 0 (((1) + what) - (6)))).2 (Prod.ext rfl rfl)) (cwV 1 hts gX9_account_X9_done rfl rfl rfl (by decide +kernel) ⟨(Nat.le_of_ble_eq_true rfl), (Nat.le_of_ble_eq_true rfl)⟩) hK hP hD hS rfl rfl VG_0 rfl hl.1 rfl (Nat.le_of_ble_eq_true rfl) dX9_account_155 ⟨Nat.zero_le _, Nat.zero_le _⟩ (fun H locs hP hD hS => ?_)
                    obtain ⟨e1, e2⟩ := Prod.mk.inj hE
                    subst e2
                    exact ci_i hx hb hr hlocks e1 rfl hS hP dX9_account_158
                  · rw [if_neg b10] at hE
                    by_cases b11 : (what = 9)
                    · rw [if_pos b11] at hE
                      refine z_table hx hb dX9_account_1 (k0 := 9) (tgt := 143) (by omega) b11 (by decide) (by decide) rfl rfl ?_
                      refine lv_aload_n hx hb dX9_account_143 rfl (lv_at hl 0 rfl) ?_
                      refine lv_aload_n hx hb dX9_account_144 rfl (lv_at hl 0 rfl) ?_
                      refine va_get (own := RX9) (ref := "NapkinSyntaxModel") (C := RX9) (T := TX9) (N := 20) hx hb hts hinX9 hown hK hP 0 VG_0 rfl 0 (Nat.le_of_ble_eq_true rfl) (hts (.fieldLink RX9 7 "NapkinSyntaxModel" "g" "[I") (by decide +kernel)) (fun _ h => h) (v := .ref (E 1)) rfl dX9_account_145 ?_
                      refine z_iconst hx hb dX9_account_148 ?_
                      refine lv_iload_n hx hb dX9_account_149 rfl (lv_at hl 1 rfl) ?_
                      refine z_iadd hx hb dX9_account_150 ?_
                      refine z_bipush hx hb dX9_account_151 (by decide +kernel) ?_
                      refine z_isub hx hb dX9_account_153 ?_
                      refine z_iald hx hb hK hP 1 0 VG_1 rfl (by omega) (by omega) (by decide) dX9_account_154 ?_
                      refine ct_Vi (VG_fix E cI cC) hZo hZb hZ S0 (kX9_done l D E cI cC Z hZo hZb M (M 0 (((1) + what) - (6)))  (fX9_done M (M 0 (((1) + what) - (6)))).1 (fX9_done M (M 0 (((1) + what) - (6)))).2 (Prod.ext rfl rfl)) (cwV 1 hts gX9_account_X9_done rfl rfl rfl (by decide +kernel) ⟨(Nat.le_of_ble_eq_true rfl), (Nat.le_of_ble_eq_true rfl)⟩) hK hP hD hS rfl rfl VG_0 rfl hl.1 rfl (Nat.le_of_ble_eq_true rfl) dX9_account_155 ⟨Nat.zero_le _, Nat.zero_le _⟩ (fun H locs hP hD hS => ?_)
                      obtain ⟨e1, e2⟩ := Prod.mk.inj hE
                      subst e2
                      exact ci_i hx hb hr hlocks e1 rfl hS hP dX9_account_158
                    · rw [if_neg b11] at hE
                      by_cases b12 : (what = 10)
                      · rw [if_pos b12] at hE
                        refine z_table hx hb dX9_account_1 (k0 := 10) (tgt := 159) (by omega) b12 (by decide) (by decide) rfl rfl ?_
                        refine lv_aload_n hx hb dX9_account_159 rfl (lv_at hl 0 rfl) ?_
                        refine lv_aload_n hx hb dX9_account_160 rfl (lv_at hl 0 rfl) ?_
                        refine va_get (own := RX9) (ref := "NapkinSyntaxModel") (C := RX9) (T := TX9) (N := 20) hx hb hts hinX9 hown hK hP 0 VG_0 rfl 7 (Nat.le_of_ble_eq_true rfl) (hts (.fieldLink RX9 196 "NapkinSyntaxModel" "typed" "I") (by decide +kernel)) (fun _ h => h) (v := .int (iI (M 17 0))) rfl dX9_account_161 ?_
                        refine ct_Vi (VG_fix E cI cC) hZo hZb hZ S0 (kX9_done l D E cI cC Z hZo hZb M (M 17 0)  (fX9_done M (M 17 0)).1 (fX9_done M (M 17 0)).2 (Prod.ext rfl rfl)) (cwV 1 hts gX9_account_X9_done rfl rfl rfl (by decide +kernel) ⟨(Nat.le_of_ble_eq_true rfl), (Nat.le_of_ble_eq_true rfl)⟩) hK hP hD hS rfl rfl VG_0 rfl hl.1 rfl (Nat.le_of_ble_eq_true rfl) dX9_account_164 ⟨Nat.zero_le _, Nat.zero_le _⟩ (fun H locs hP hD hS => ?_)
                        obtain ⟨e1, e2⟩ := Prod.mk.inj hE
                        subst e2
                        exact ci_i hx hb hr hlocks e1 rfl hS hP dX9_account_167
                      · rw [if_neg b12] at hE
                        by_cases b13 : (what = 11)
                        · rw [if_pos b13] at hE
                          refine z_table hx hb dX9_account_1 (k0 := 11) (tgt := 168) (by omega) b13 (by decide) (by decide) rfl rfl ?_
                          refine lv_aload_n hx hb dX9_account_168 rfl (lv_at hl 0 rfl) ?_
                          refine lv_aload_n hx hb dX9_account_169 rfl (lv_at hl 0 rfl) ?_
                          refine va_get (own := RX9) (ref := "NapkinSyntaxModel") (C := RX9) (T := TX9) (N := 20) hx hb hts hinX9 hown hK hP 0 VG_0 rfl 3 (Nat.le_of_ble_eq_true rfl) (hts (.fieldLink RX9 59 "NapkinSyntaxModel" "changes" "I") (by decide +kernel)) (fun _ h => h) (v := .int (iI (M 13 0))) rfl dX9_account_170 ?_
                          refine ct_Vi (VG_fix E cI cC) hZo hZb hZ S0 (kX9_done l D E cI cC Z hZo hZb M (M 13 0)  (fX9_done M (M 13 0)).1 (fX9_done M (M 13 0)).2 (Prod.ext rfl rfl)) (cwV 1 hts gX9_account_X9_done rfl rfl rfl (by decide +kernel) ⟨(Nat.le_of_ble_eq_true rfl), (Nat.le_of_ble_eq_true rfl)⟩) hK hP hD hS rfl rfl VG_0 rfl hl.1 rfl (Nat.le_of_ble_eq_true rfl) dX9_account_173 ⟨Nat.zero_le _, Nat.zero_le _⟩ (fun H locs hP hD hS => ?_)
                          obtain ⟨e1, e2⟩ := Prod.mk.inj hE
                          subst e2
                          exact ci_i hx hb hr hlocks e1 rfl hS hP dX9_account_176
                        · rw [if_neg b13] at hE
                          refine z_tableD hx hb dX9_account_1 (tgt := 177) (by omega) (by omega) rfl ?_
                          refine lv_aload_n hx hb dX9_account_177 rfl (lv_at hl 0 rfl) ?_
                          refine z_iconst hx hb dX9_account_178 ?_
                          refine ct_Vi (VG_fix E cI cC) hZo hZb hZ S0 (kX9_fails l D E cI cC Z hZo hZb M (1)  (fX9_fails M (1)).1 (fX9_fails M (1)).2 (Prod.ext rfl rfl)) (cwV 1 hts gX9_account_X9_fails rfl rfl rfl (by decide +kernel) ⟨(Nat.le_of_ble_eq_true rfl), (Nat.le_of_ble_eq_true rfl)⟩) hK hP hD hS rfl rfl VG_0 rfl hl.1 rfl (Nat.le_of_ble_eq_true rfl) dX9_account_179 ⟨Nat.zero_le _, Nat.zero_le _⟩ (fun H locs hP hD hS => ?_)
                          obtain ⟨e1, e2⟩ := Prod.mk.inj hE
                          subst e2
                          exact ci_i hx hb hr hlocks e1 rfl hS hP dX9_account_182

theorem fr_fX9_account {M : Mem} (what : Int) {r : Nat} (h23 : Nat.beq r 23 = false) (h26 : Nat.beq r 26 = false) : (fX9_account M what).2 r = M r := by
  unfold fX9_account
  (repeat' with_reducible refine frite_w (fun _ => ?_) (fun _ => ?_)) <;> first | with_reducible rfl | simp only [mst_o, msf_o, mcp_o, fr_fX9_done, fr_fX9_fails, h23, h26]


theorem rg_X9_sumOf_L {M : Mem} {f hi : Int} (h : ∀ j : Int, f ≤ j → j < f + 10 → 0 ≤ M 0 j ∧ M 0 j ≤ hi) (h0 : M 0 0 ≤ 10) : ∀ (k : Nat) (s n : Int), 0 ≤ n → 0 ≤ s → s ≤ hi * n → n ≤ 10 → 0 ≤ hi → 0 ≤ fX9_sumOf_L1 M f k s n ∧ fX9_sumOf_L1 M f k s n ≤ hi * 10 := by
  intro k
  induction k with
  | zero => intro s n _ _ _ _ hh; exact ⟨(by decide : (0 : Int) ≤ 0), by show 0 ≤ hi * 10; omega⟩
  | succ k ih =>
    intro s n h1 h2 h3 h4 hh
    rw [fX9_sumOf_L1]
    split
    · have : hi * n ≤ hi * 10 := Int.mul_le_mul_of_nonneg_left h4 hh
      omega
    · have a := h (f + n) (by omega) (by omega)
      have b : hi * (n + 1) = hi * n + hi := by rw [Int.mul_add, Int.mul_one]
      exact ih _ _ (by omega) (by omega) (by omega) (by omega) hh
theorem rg_X9_sumStains {M : Mem} (h : GI M) : 0 ≤ fX9_sumOf M 35 ∧ fX9_sumOf M 35 ≤ 90 :=
  rg_X9_sumOf_L (fun j a b => h.2.2.2.2.1 j a (by omega)) (GI_0 h).2 12 0 0 (by decide) (by decide) (by decide) (by decide) (by decide)
theorem rg_X9_folded_L {M : Mem} (h : GI M) : ∀ (k : Nat) (c n : Int), 0 ≤ n → 0 ≤ c → c ≤ n → n ≤ 10 → 0 ≤ fX9_folded_L1 M k c n ∧ fX9_folded_L1 M k c n ≤ 10 := by
  have hz := GI_0 h
  intro k
  induction k with
  | zero => intro c n _ _ _ _; exact ⟨(by decide : (0 : Int) ≤ 0), (by decide : (0 : Int) ≤ 10)⟩
  | succ k ih =>
    intro c n h1 h2 h3 h4
    rw [fX9_folded_L1]
    (repeat' split) <;> first | omega | exact ih _ _ (by omega) (by omega) (by omega) (by omega)
theorem rg_X9_folded {M : Mem} (h : GI M) : 0 ≤ fX9_folded M ∧ fX9_folded M ≤ 10 := rg_X9_folded_L h 12 0 0 (by decide) (by decide) (by decide) (by decide)
theorem fp_gmeanI {M N : Mem} (h : GI M) (e : N 0 = M 0) (h0 : ¬ N 0 0 = 0) : vf_n64 (FP.ddiv (FP.i2d (iI (fX9_sumOf M 35))) (FP.i2d (iI (N 0 0)))) := by
  rw [e] at h0 ⊢
  exact fp_meanI (GI_0 h) h0 (rg_X9_sumStains h)
theorem fp_gshareI {M N : Mem} (h : GI M) (e : N 0 = M 0) (h0 : ¬ N 0 0 = 0) : vf_n32 (FP.fdiv (FP.i2f (iI (fX9_folded M))) (FP.i2f (iI (N 0 0)))) := by
  rw [e] at h0 ⊢
  exact fp_shareI (GI_0 h) h0 (rg_X9_folded h)

def fX9_meanStains (M : Mem) : UInt64 × Mem := if ((M 0 (0)) = 0) then (FP.dconst0, (msf M 26 (1))) else ((FP.ddiv (FP.i2d (iI (fX9_sumOf M (35)))) (FP.i2d (iI (M 0 (0))))), (msf M 26 (0)))
set_option maxRecDepth 100000 in
set_option maxHeartbeats 4000000 in
theorem kX9_meanStains (l : Launch) (D : va_G) (E : Nat → Nat) (cI cC : ClassId) (Z : State → Prop) (hZo : ∀ M : Mem, ZOk (VG E cI cC M) Z) (hZb : ZBl Z) (M : Mem) (hG : GI M) (r : UInt64) (M' : Mem) (hE : fX9_meanStains M = (r, M')) : Cr l yX9_meanStains wsX9_meanStains 1 23 [.ref (E 0)] D (TY cI cC) (VG E cI cC) Z M (.double r) M' := by
  refine Cr.of (cc := cX9_meanStains) (maxL := 1) (ret := (some .double)) (by decide +kernel) rfl (Nat.le_of_ble_eq_true rfl) ?_
  intro p e s m args below meth c ls hx hb hml hr hown hts hlocks hP hK hD hZ hS hl
  have hl : lv_has ls 1 [(0, .ref (E 0))] := hl
  have S0 : CallFix p m c cX9_meanStains 1 s args wsX9_meanStains RX9 := ⟨hx, hb, hml, hown, hts⟩
  have hinX9 : ∀ w ∈ u_ws RX9 TX9 20, w ∈ wsX9_meanStains := by decide +kernel
  rw [fX9_meanStains] at hE
  refine lv_aload_n hx hb dX9_meanStains_0 rfl (lv_at hl 0 rfl) ?_
  refine lv_aload_n hx hb dX9_meanStains_1 rfl (lv_at hl 0 rfl) ?_
  refine va_get (own := RX9) (ref := "NapkinSyntaxModel") (C := RX9) (T := TX9) (N := 20) hx hb hts hinX9 hown hK hP 0 VG_0 rfl 0 (Nat.le_of_ble_eq_true rfl) (hts (.fieldLink RX9 7 "NapkinSyntaxModel" "g" "[I") (by decide +kernel)) (fun _ h => h) (v := .ref (E 1)) rfl dX9_meanStains_2 ?_
  refine z_iconst hx hb dX9_meanStains_5 ?_
  refine z_iald hx hb hK hP 1 0 VG_1 rfl (by omega) (by omega) (by decide) dX9_meanStains_6 ?_
  have q1 := GI_0 hG
  refine z_if_ne hx hb dX9_meanStains_7 (tgt := 14) rfl (by omega) (fun b2 => ?_) (fun b2 => ?_)
  · rw [if_neg b2] at hE
    refine z_iconst hx hb dX9_meanStains_14 ?_
    refine va_put (own := RX9) (ref := "NapkinSyntaxModel") (C := RX9) (T := TX9) (N := 20) hx hb hts hinX9 tyX9 tyX9_ok nmX9 hown hK hP hD hS 0 VG_0 rfl 16 (Nat.le_of_ble_eq_true rfl) (hts (.fieldLink RX9 36 "NapkinSyntaxModel" "thrown" "I") (by decide +kernel)) (fun _ h => h) rfl (ty := .int) (v := .int (iI (0))) (by decide +kernel) rfl rfl (Nat.le_of_ble_eq_true rfl) dX9_meanStains_15 (fun H locs hP hD hS => ?_)
    rw [VGf_26] at hP hD
    refine lv_aload_n hx hb dX9_meanStains_18 rfl (lv_at hl 0 rfl) ?_
    refine va_get (own := RX9) (ref := "NapkinSyntaxModel") (C := RX9) (T := TX9) (N := 20) hx hb hts hinX9 hown hK hP 0 VG_0 rfl 16 (Nat.le_of_ble_eq_true rfl) (hts (.fieldLink RX9 36 "NapkinSyntaxModel" "thrown" "I") (by decide +kernel)) (fun _ h => h) (v := .int (iI (0))) rfl dX9_meanStains_19 ?_
    refine z_if_ne hx hb dX9_meanStains_22 (tgt := 43) rfl (by omega) (fun h => absurd h (by decide)) (fun h => ?_)
    refine lv_aload_n hx hb dX9_meanStains_25 rfl (lv_at hl 0 rfl) ?_
    refine z_bipush hx hb dX9_meanStains_26 (by decide +kernel) ?_
    refine ct_Vi (VG_fix E cI cC) hZo hZb hZ S0 (kX9_sumOf l D E cI cC Z hZo hZb (msf M 26 (0)) (35) (by omega) hG (fX9_sumOf M (35)) rfl) (cwV 1 hts gX9_meanStains_X9_sumOf rfl rfl rfl (by decide +kernel) ⟨(Nat.le_of_ble_eq_true rfl), (Nat.le_of_ble_eq_true rfl)⟩) hK hP hD hS rfl rfl VG_0 rfl hl.1 rfl (Nat.le_of_ble_eq_true rfl) dX9_meanStains_28 ⟨Nat.zero_le _, Nat.zero_le _⟩ (fun H locs hP hD hS => ?_)
    refine lv_i2d hx hb dX9_meanStains_31 ?_
    refine lv_aload_n hx hb dX9_meanStains_32 rfl (lv_at hl 0 rfl) ?_
    refine va_get (own := RX9) (ref := "NapkinSyntaxModel") (C := RX9) (T := TX9) (N := 20) hx hb hts hinX9 hown hK hP 0 VG_0 rfl 0 (Nat.le_of_ble_eq_true rfl) (hts (.fieldLink RX9 7 "NapkinSyntaxModel" "g" "[I") (by decide +kernel)) (fun _ h => h) (v := .ref (E 1)) rfl dX9_meanStains_33 ?_
    refine z_iconst hx hb dX9_meanStains_36 ?_
    refine z_iald hx hb hK hP 1 0 (σ := (M 0)) VG_1 rfl (by omega) (by omega) (by decide) dX9_meanStains_37 ?_
    have q3 := GI_0 hG
    refine lv_i2d hx hb dX9_meanStains_38 ?_
    refine lv_ddiv hx hb dX9_meanStains_39 (fp_gmeanI (by assumption) rfl (by assumption)) ?_
    refine lv_goto hx hb dX9_meanStains_40 (tgt := 44) rfl ?_
    obtain ⟨e1, e2⟩ := Prod.mk.inj hE
    subst e1
    subst e2
    exact cr_d hx hb hr hlocks hS hP dX9_meanStains_44
  · rw [if_pos b2] at hE
    refine z_iconst hx hb dX9_meanStains_10 ?_
    refine lv_goto hx hb dX9_meanStains_11 (tgt := 15) rfl ?_
    refine va_put (own := RX9) (ref := "NapkinSyntaxModel") (C := RX9) (T := TX9) (N := 20) hx hb hts hinX9 tyX9 tyX9_ok nmX9 hown hK hP hD hS 0 VG_0 rfl 16 (Nat.le_of_ble_eq_true rfl) (hts (.fieldLink RX9 36 "NapkinSyntaxModel" "thrown" "I") (by decide +kernel)) (fun _ h => h) rfl (ty := .int) (v := .int (iI (1))) (by decide +kernel) rfl rfl (Nat.le_of_ble_eq_true rfl) dX9_meanStains_15 (fun H locs hP hD hS => ?_)
    rw [VGf_26] at hP hD
    refine lv_aload_n hx hb dX9_meanStains_18 rfl (lv_at hl 0 rfl) ?_
    refine va_get (own := RX9) (ref := "NapkinSyntaxModel") (C := RX9) (T := TX9) (N := 20) hx hb hts hinX9 hown hK hP 0 VG_0 rfl 16 (Nat.le_of_ble_eq_true rfl) (hts (.fieldLink RX9 36 "NapkinSyntaxModel" "thrown" "I") (by decide +kernel)) (fun _ h => h) (v := .int (iI (1))) rfl dX9_meanStains_19 ?_
    refine z_if_ne hx hb dX9_meanStains_22 (tgt := 43) rfl (by omega) (fun h => ?_) (fun h => absurd h (by decide))
    refine lv_dconst0 hx hb dX9_meanStains_43 ?_
    obtain ⟨e1, e2⟩ := Prod.mk.inj hE
    subst e1
    subst e2
    exact cr_d hx hb hr hlocks hS hP dX9_meanStains_44

theorem fr_fX9_meanStains {M : Mem} {r : Nat} (h26 : Nat.beq r 26 = false) : (fX9_meanStains M).2 r = M r := by
  unfold fX9_meanStains
  (repeat' with_reducible refine frite_w (fun _ => ?_) (fun _ => ?_)) <;> first | with_reducible rfl | simp only [mst_o, msf_o, mcp_o, h26]

def fX9_foldedShare (M : Mem) : UInt32 × Mem := if ((M 0 (0)) = 0) then (FP.fconst0, (msf M 26 (1))) else ((FP.fdiv (FP.i2f (iI (fX9_folded M))) (FP.i2f (iI (M 0 (0))))), (msf M 26 (0)))
set_option maxRecDepth 100000 in
set_option maxHeartbeats 4000000 in
theorem kX9_foldedShare (l : Launch) (D : va_G) (E : Nat → Nat) (cI cC : ClassId) (Z : State → Prop) (hZo : ∀ M : Mem, ZOk (VG E cI cC M) Z) (hZb : ZBl Z) (M : Mem) (hG : GI M) (r : UInt32) (M' : Mem) (hE : fX9_foldedShare M = (r, M')) : Cr l yX9_foldedShare wsX9_foldedShare 1 22 [.ref (E 0)] D (TY cI cC) (VG E cI cC) Z M (.float r) M' := by
  refine Cr.of (cc := cX9_foldedShare) (maxL := 1) (ret := (some .float)) (by decide +kernel) rfl (Nat.le_of_ble_eq_true rfl) ?_
  intro p e s m args below meth c ls hx hb hml hr hown hts hlocks hP hK hD hZ hS hl
  have hl : lv_has ls 1 [(0, .ref (E 0))] := hl
  have S0 : CallFix p m c cX9_foldedShare 1 s args wsX9_foldedShare RX9 := ⟨hx, hb, hml, hown, hts⟩
  have hinX9 : ∀ w ∈ u_ws RX9 TX9 20, w ∈ wsX9_foldedShare := by decide +kernel
  rw [fX9_foldedShare] at hE
  refine lv_aload_n hx hb dX9_foldedShare_0 rfl (lv_at hl 0 rfl) ?_
  refine lv_aload_n hx hb dX9_foldedShare_1 rfl (lv_at hl 0 rfl) ?_
  refine va_get (own := RX9) (ref := "NapkinSyntaxModel") (C := RX9) (T := TX9) (N := 20) hx hb hts hinX9 hown hK hP 0 VG_0 rfl 0 (Nat.le_of_ble_eq_true rfl) (hts (.fieldLink RX9 7 "NapkinSyntaxModel" "g" "[I") (by decide +kernel)) (fun _ h => h) (v := .ref (E 1)) rfl dX9_foldedShare_2 ?_
  refine z_iconst hx hb dX9_foldedShare_5 ?_
  refine z_iald hx hb hK hP 1 0 VG_1 rfl (by omega) (by omega) (by decide) dX9_foldedShare_6 ?_
  have q1 := GI_0 hG
  refine z_if_ne hx hb dX9_foldedShare_7 (tgt := 14) rfl (by omega) (fun b2 => ?_) (fun b2 => ?_)
  · rw [if_neg b2] at hE
    refine z_iconst hx hb dX9_foldedShare_14 ?_
    refine va_put (own := RX9) (ref := "NapkinSyntaxModel") (C := RX9) (T := TX9) (N := 20) hx hb hts hinX9 tyX9 tyX9_ok nmX9 hown hK hP hD hS 0 VG_0 rfl 16 (Nat.le_of_ble_eq_true rfl) (hts (.fieldLink RX9 36 "NapkinSyntaxModel" "thrown" "I") (by decide +kernel)) (fun _ h => h) rfl (ty := .int) (v := .int (iI (0))) (by decide +kernel) rfl rfl (Nat.le_of_ble_eq_true rfl) dX9_foldedShare_15 (fun H locs hP hD hS => ?_)
    rw [VGf_26] at hP hD
    refine lv_aload_n hx hb dX9_foldedShare_18 rfl (lv_at hl 0 rfl) ?_
    refine va_get (own := RX9) (ref := "NapkinSyntaxModel") (C := RX9) (T := TX9) (N := 20) hx hb hts hinX9 hown hK hP 0 VG_0 rfl 16 (Nat.le_of_ble_eq_true rfl) (hts (.fieldLink RX9 36 "NapkinSyntaxModel" "thrown" "I") (by decide +kernel)) (fun _ h => h) (v := .int (iI (0))) rfl dX9_foldedShare_19 ?_
    refine z_if_ne hx hb dX9_foldedShare_22 (tgt := 41) rfl (by omega) (fun h => absurd h (by decide)) (fun h => ?_)
    refine lv_aload_n hx hb dX9_foldedShare_25 rfl (lv_at hl 0 rfl) ?_
    refine ct_Vi (VG_fix E cI cC) hZo hZb hZ S0 (kX9_folded l D E cI cC Z hZo hZb (msf M 26 (0)) hG (fX9_folded M) rfl) (cwV 0 hts gX9_foldedShare_X9_folded rfl rfl rfl (by decide +kernel) ⟨(Nat.le_of_ble_eq_true rfl), (Nat.le_of_ble_eq_true rfl)⟩) hK hP hD hS rfl rfl VG_0 rfl hl.1 rfl (Nat.le_of_ble_eq_true rfl) dX9_foldedShare_26 ⟨Nat.zero_le _, Nat.zero_le _⟩ (fun H locs hP hD hS => ?_)
    refine lv_i2f hx hb dX9_foldedShare_29 ?_
    refine lv_aload_n hx hb dX9_foldedShare_30 rfl (lv_at hl 0 rfl) ?_
    refine va_get (own := RX9) (ref := "NapkinSyntaxModel") (C := RX9) (T := TX9) (N := 20) hx hb hts hinX9 hown hK hP 0 VG_0 rfl 0 (Nat.le_of_ble_eq_true rfl) (hts (.fieldLink RX9 7 "NapkinSyntaxModel" "g" "[I") (by decide +kernel)) (fun _ h => h) (v := .ref (E 1)) rfl dX9_foldedShare_31 ?_
    refine z_iconst hx hb dX9_foldedShare_34 ?_
    refine z_iald hx hb hK hP 1 0 (σ := (M 0)) VG_1 rfl (by omega) (by omega) (by decide) dX9_foldedShare_35 ?_
    have q3 := GI_0 hG
    refine lv_i2f hx hb dX9_foldedShare_36 ?_
    refine lv_fdiv hx hb dX9_foldedShare_37 (fp_gshareI (by assumption) rfl (by assumption)) ?_
    refine lv_goto hx hb dX9_foldedShare_38 (tgt := 42) rfl ?_
    obtain ⟨e1, e2⟩ := Prod.mk.inj hE
    subst e1
    subst e2
    exact cr_f hx hb hr hlocks hS hP dX9_foldedShare_42
  · rw [if_pos b2] at hE
    refine z_iconst hx hb dX9_foldedShare_10 ?_
    refine lv_goto hx hb dX9_foldedShare_11 (tgt := 15) rfl ?_
    refine va_put (own := RX9) (ref := "NapkinSyntaxModel") (C := RX9) (T := TX9) (N := 20) hx hb hts hinX9 tyX9 tyX9_ok nmX9 hown hK hP hD hS 0 VG_0 rfl 16 (Nat.le_of_ble_eq_true rfl) (hts (.fieldLink RX9 36 "NapkinSyntaxModel" "thrown" "I") (by decide +kernel)) (fun _ h => h) rfl (ty := .int) (v := .int (iI (1))) (by decide +kernel) rfl rfl (Nat.le_of_ble_eq_true rfl) dX9_foldedShare_15 (fun H locs hP hD hS => ?_)
    rw [VGf_26] at hP hD
    refine lv_aload_n hx hb dX9_foldedShare_18 rfl (lv_at hl 0 rfl) ?_
    refine va_get (own := RX9) (ref := "NapkinSyntaxModel") (C := RX9) (T := TX9) (N := 20) hx hb hts hinX9 hown hK hP 0 VG_0 rfl 16 (Nat.le_of_ble_eq_true rfl) (hts (.fieldLink RX9 36 "NapkinSyntaxModel" "thrown" "I") (by decide +kernel)) (fun _ h => h) (v := .int (iI (1))) rfl dX9_foldedShare_19 ?_
    refine z_if_ne hx hb dX9_foldedShare_22 (tgt := 41) rfl (by omega) (fun h => ?_) (fun h => absurd h (by decide))
    refine lv_fconst0 hx hb dX9_foldedShare_41 ?_
    obtain ⟨e1, e2⟩ := Prod.mk.inj hE
    subst e1
    subst e2
    exact cr_f hx hb hr hlocks hS hP dX9_foldedShare_42

theorem fr_fX9_foldedShare {M : Mem} {r : Nat} (h26 : Nat.beq r 26 = false) : (fX9_foldedShare M).2 r = M r := by
  unfold fX9_foldedShare
  (repeat' with_reducible refine frite_w (fun _ => ?_) (fun _ => ?_)) <;> first | with_reducible rfl | simp only [mst_o, msf_o, mcp_o, h26]

def fX9_undo (M : Mem) : Int × Mem := if ((M 13 0) = 0) then ((fX9_fails M (1)).1, (fX9_fails M (1)).2) else ((fX9_done (fX9_copy_hg (msf M 13 ((M 13 0) - (1))) (((M 13 0) - (1)) * (82)) (0)) ((fX9_copy_hg (msf M 13 ((M 13 0) - (1))) (((M 13 0) - (1)) * (82)) (0)) 13 0)).1, (fX9_done (fX9_copy_hg (msf M 13 ((M 13 0) - (1))) (((M 13 0) - (1)) * (82)) (0)) ((fX9_copy_hg (msf M 13 ((M 13 0) - (1))) (((M 13 0) - (1)) * (82)) (0)) 13 0)).2)
set_option maxRecDepth 100000 in
set_option maxHeartbeats 4000000 in
theorem kX9_undo (l : Launch) (D : va_G) (E : Nat → Nat) (cI cC : ClassId) (Z : State → Prop) (hZo : ∀ M : Mem, ZOk (VG E cI cC M) Z) (hZb : ZBl Z) (M : Mem) (hX : CH M) (r : Int) (M' : Mem) (hE : fX9_undo M = (r, M')) : Ci l yX9_undo wsX9_undo 1 24 [.ref (E 0)] D (TY cI cC) (VG E cI cC) Z M r M' := by
  refine Ci.of (cc := cX9_undo) (maxL := 1) (ret := (some .int)) (by decide +kernel) rfl (Nat.le_of_ble_eq_true rfl) ?_
  intro p e s m args below meth c ls hx hb hml hr hown hts hlocks hP hK hD hZ hS hl
  have hl : lv_has ls 1 [(0, .ref (E 0))] := hl
  have S0 : CallFix p m c cX9_undo 1 s args wsX9_undo RX9 := ⟨hx, hb, hml, hown, hts⟩
  have hinX9 : ∀ w ∈ u_ws RX9 TX9 20, w ∈ wsX9_undo := by decide +kernel
  rw [fX9_undo] at hE
  refine lv_aload_n hx hb dX9_undo_0 rfl (lv_at hl 0 rfl) ?_
  refine va_get (own := RX9) (ref := "NapkinSyntaxModel") (C := RX9) (T := TX9) (N := 20) hx hb hts hinX9 hown hK hP 0 VG_0 rfl 3 (Nat.le_of_ble_eq_true rfl) (hts (.fieldLink RX9 59 "NapkinSyntaxModel" "changes" "I") (by decide +kernel)) (fun _ h => h) (v := .int (iI (M 13 0))) rfl dX9_undo_1 ?_
  have q1 := CH_i hX
  refine z_if_ne hx hb dX9_undo_4 (tgt := 13) rfl (by omega) (fun b2 => ?_) (fun b2 => ?_)
  · rw [if_neg b2] at hE
    refine lv_aload_n hx hb dX9_undo_13 rfl (lv_at hl 0 rfl) ?_
    refine lv_dup hx hb dX9_undo_14 rfl ?_
    refine va_get (own := RX9) (ref := "NapkinSyntaxModel") (C := RX9) (T := TX9) (N := 20) hx hb hts hinX9 hown hK hP 0 VG_0 rfl 3 (Nat.le_of_ble_eq_true rfl) (hts (.fieldLink RX9 59 "NapkinSyntaxModel" "changes" "I") (by decide +kernel)) (fun _ h => h) (v := .int (iI (M 13 0))) rfl dX9_undo_15 ?_
    have q3 := CH_i hX
    refine z_iconst hx hb dX9_undo_18 ?_
    refine z_isub hx hb dX9_undo_19 ?_
    refine va_put (own := RX9) (ref := "NapkinSyntaxModel") (C := RX9) (T := TX9) (N := 20) hx hb hts hinX9 tyX9 tyX9_ok nmX9 hown hK hP hD hS 0 VG_0 rfl 3 (Nat.le_of_ble_eq_true rfl) (hts (.fieldLink RX9 59 "NapkinSyntaxModel" "changes" "I") (by decide +kernel)) (fun _ h => h) rfl (ty := .int) (v := .int (iI ((M 13 0) - (1)))) (by decide +kernel) rfl rfl (Nat.le_of_ble_eq_true rfl) dX9_undo_20 (fun H locs hP hD hS => ?_)
    rw [VGf_13] at hP hD
    refine lv_aload_n hx hb dX9_undo_23 rfl (lv_at hl 0 rfl) ?_
    refine va_get (own := RX9) (ref := "NapkinSyntaxModel") (C := RX9) (T := TX9) (N := 20) hx hb hts hinX9 hown hK hP 0 VG_0 rfl 2 (Nat.le_of_ble_eq_true rfl) (hts (.fieldLink RX9 16 "NapkinSyntaxModel" "history" "[I") (by decide +kernel)) (fun _ h => h) (v := .ref (E 3)) rfl dX9_undo_24 ?_
    refine lv_aload_n hx hb dX9_undo_27 rfl (lv_at hl 0 rfl) ?_
    refine va_get (own := RX9) (ref := "NapkinSyntaxModel") (C := RX9) (T := TX9) (N := 20) hx hb hts hinX9 hown hK hP 0 VG_0 rfl 3 (Nat.le_of_ble_eq_true rfl) (hts (.fieldLink RX9 59 "NapkinSyntaxModel" "changes" "I") (by decide +kernel)) (fun _ h => h) (v := .int (iI ((M 13 0) - (1)))) rfl dX9_undo_28 ?_
    refine z_bipush hx hb dX9_undo_31 (by decide +kernel) ?_
    refine z_imul hx hb dX9_undo_33 ?_
    refine lv_aload_n hx hb dX9_undo_34 rfl (lv_at hl 0 rfl) ?_
    refine va_get (own := RX9) (ref := "NapkinSyntaxModel") (C := RX9) (T := TX9) (N := 20) hx hb hts hinX9 hown hK hP 0 VG_0 rfl 0 (Nat.le_of_ble_eq_true rfl) (hts (.fieldLink RX9 7 "NapkinSyntaxModel" "g" "[I") (by decide +kernel)) (fun _ h => h) (v := .ref (E 1)) rfl dX9_undo_35 ?_
    refine z_iconst hx hb dX9_undo_38 ?_
    refine ct_Sv (VG_fix E cI cC) hZo hZb hZ S0 (kX9_copy_hg l D E cI cC Z hZo hZb (msf M 13 ((M 13 0) - (1))) (((M 13 0) - (1)) * (82)) (0) (by omega) (by omega) (fX9_copy_hg (msf M 13 ((M 13 0) - (1))) (((M 13 0) - (1)) * (82)) (0)) rfl) (va_cwS 4 hts gX9_undo_X9_copy rfl rfl rfl (by decide +kernel) ⟨(Nat.le_of_ble_eq_true rfl), (Nat.le_of_ble_eq_true rfl)⟩) hK hP hD hS rfl hl.1 rfl (Nat.le_of_ble_eq_true rfl) dX9_undo_39 ⟨Nat.zero_le _, Nat.zero_le _⟩ (fun H locs hP hD hS => ?_)
    refine lv_aload_n hx hb dX9_undo_42 rfl (lv_at hl 0 rfl) ?_
    refine lv_aload_n hx hb dX9_undo_43 rfl (lv_at hl 0 rfl) ?_
    refine va_get (own := RX9) (ref := "NapkinSyntaxModel") (C := RX9) (T := TX9) (N := 20) hx hb hts hinX9 hown hK hP 0 VG_0 rfl 3 (Nat.le_of_ble_eq_true rfl) (hts (.fieldLink RX9 59 "NapkinSyntaxModel" "changes" "I") (by decide +kernel)) (fun _ h => h) (v := .int (iI ((fX9_copy_hg (msf M 13 ((M 13 0) - (1))) (((M 13 0) - (1)) * (82)) (0)) 13 0))) rfl dX9_undo_44 ?_
    refine ct_Vi (VG_fix E cI cC) hZo hZb hZ S0 (kX9_done l D E cI cC Z hZo hZb (fX9_copy_hg (msf M 13 ((M 13 0) - (1))) (((M 13 0) - (1)) * (82)) (0)) ((fX9_copy_hg (msf M 13 ((M 13 0) - (1))) (((M 13 0) - (1)) * (82)) (0)) 13 0)  (fX9_done (fX9_copy_hg (msf M 13 ((M 13 0) - (1))) (((M 13 0) - (1)) * (82)) (0)) ((fX9_copy_hg (msf M 13 ((M 13 0) - (1))) (((M 13 0) - (1)) * (82)) (0)) 13 0)).1 (fX9_done (fX9_copy_hg (msf M 13 ((M 13 0) - (1))) (((M 13 0) - (1)) * (82)) (0)) ((fX9_copy_hg (msf M 13 ((M 13 0) - (1))) (((M 13 0) - (1)) * (82)) (0)) 13 0)).2 (Prod.ext rfl rfl)) (cwV 1 hts gX9_undo_X9_done rfl rfl rfl (by decide +kernel) ⟨(Nat.le_of_ble_eq_true rfl), (Nat.le_of_ble_eq_true rfl)⟩) hK hP hD hS rfl rfl VG_0 rfl hl.1 rfl (Nat.le_of_ble_eq_true rfl) dX9_undo_47 ⟨Nat.zero_le _, Nat.zero_le _⟩ (fun H locs hP hD hS => ?_)
    obtain ⟨e1, e2⟩ := Prod.mk.inj hE
    subst e2
    exact ci_i hx hb hr hlocks e1 rfl hS hP dX9_undo_50
  · rw [if_pos b2] at hE
    refine lv_aload_n hx hb dX9_undo_7 rfl (lv_at hl 0 rfl) ?_
    refine z_iconst hx hb dX9_undo_8 ?_
    refine ct_Vi (VG_fix E cI cC) hZo hZb hZ S0 (kX9_fails l D E cI cC Z hZo hZb M (1)  (fX9_fails M (1)).1 (fX9_fails M (1)).2 (Prod.ext rfl rfl)) (cwV 1 hts gX9_undo_X9_fails rfl rfl rfl (by decide +kernel) ⟨(Nat.le_of_ble_eq_true rfl), (Nat.le_of_ble_eq_true rfl)⟩) hK hP hD hS rfl rfl VG_0 rfl hl.1 rfl (Nat.le_of_ble_eq_true rfl) dX9_undo_9 ⟨Nat.zero_le _, Nat.zero_le _⟩ (fun H locs hP hD hS => ?_)
    obtain ⟨e1, e2⟩ := Prod.mk.inj hE
    subst e2
    exact ci_i hx hb hr hlocks e1 rfl hS hP dX9_undo_12

theorem fr_fX9_undo {M : Mem} {r : Nat} (h0 : Nat.beq r 0 = false) (h13 : Nat.beq r 13 = false) (h23 : Nat.beq r 23 = false) (h26 : Nat.beq r 26 = false) : (fX9_undo M).2 r = M r := by
  unfold fX9_undo
  (repeat' with_reducible refine frite_w (fun _ => ?_) (fun _ => ?_)) <;> first | with_reducible rfl | simp only [mst_o, msf_o, mcp_o, fr_fX9_copy_hg, fr_fX9_done, fr_fX9_fails, h0, h13, h23, h26]

def fX9_save (M : Mem) : Int × Mem := ((fX9_done (msf (fX9_copy_gs M (0) (0)) 15 (1)) ((msf (fX9_copy_gs M (0) (0)) 15 (1)) 0 (0))).1, (fX9_done (msf (fX9_copy_gs M (0) (0)) 15 (1)) ((msf (fX9_copy_gs M (0) (0)) 15 (1)) 0 (0))).2)
set_option maxRecDepth 100000 in
set_option maxHeartbeats 4000000 in
theorem kX9_save (l : Launch) (D : va_G) (E : Nat → Nat) (cI cC : ClassId) (Z : State → Prop) (hZo : ∀ M : Mem, ZOk (VG E cI cC M) Z) (hZb : ZBl Z) (M : Mem)  (r : Int) (M' : Mem) (hE : fX9_save M = (r, M')) : Ci l yX9_save wsX9_save 1 24 [.ref (E 0)] D (TY cI cC) (VG E cI cC) Z M r M' := by
  refine Ci.of (cc := cX9_save) (maxL := 1) (ret := (some .int)) (by decide +kernel) rfl (Nat.le_of_ble_eq_true rfl) ?_
  intro p e s m args below meth c ls hx hb hml hr hown hts hlocks hP hK hD hZ hS hl
  have hl : lv_has ls 1 [(0, .ref (E 0))] := hl
  have S0 : CallFix p m c cX9_save 1 s args wsX9_save RX9 := ⟨hx, hb, hml, hown, hts⟩
  have hinX9 : ∀ w ∈ u_ws RX9 TX9 20, w ∈ wsX9_save := by decide +kernel
  rw [fX9_save] at hE
  refine lv_aload_n hx hb dX9_save_0 rfl (lv_at hl 0 rfl) ?_
  refine va_get (own := RX9) (ref := "NapkinSyntaxModel") (C := RX9) (T := TX9) (N := 20) hx hb hts hinX9 hown hK hP 0 VG_0 rfl 0 (Nat.le_of_ble_eq_true rfl) (hts (.fieldLink RX9 7 "NapkinSyntaxModel" "g" "[I") (by decide +kernel)) (fun _ h => h) (v := .ref (E 1)) rfl dX9_save_1 ?_
  refine z_iconst hx hb dX9_save_4 ?_
  refine lv_aload_n hx hb dX9_save_5 rfl (lv_at hl 0 rfl) ?_
  refine va_get (own := RX9) (ref := "NapkinSyntaxModel") (C := RX9) (T := TX9) (N := 20) hx hb hts hinX9 hown hK hP 0 VG_0 rfl 4 (Nat.le_of_ble_eq_true rfl) (hts (.fieldLink RX9 19 "NapkinSyntaxModel" "savedOnes" "[I") (by decide +kernel)) (fun _ h => h) (v := .ref (E 4)) rfl dX9_save_6 ?_
  refine z_iconst hx hb dX9_save_9 ?_
  refine ct_Sv (VG_fix E cI cC) hZo hZb hZ S0 (kX9_copy_gs l D E cI cC Z hZo hZb M (0) (0) (by omega) (by omega) (fX9_copy_gs M (0) (0)) rfl) (va_cwS 4 hts gX9_save_X9_copy rfl rfl rfl (by decide +kernel) ⟨(Nat.le_of_ble_eq_true rfl), (Nat.le_of_ble_eq_true rfl)⟩) hK hP hD hS rfl hl.1 rfl (Nat.le_of_ble_eq_true rfl) dX9_save_10 ⟨Nat.zero_le _, Nat.zero_le _⟩ (fun H locs hP hD hS => ?_)
  refine lv_aload_n hx hb dX9_save_13 rfl (lv_at hl 0 rfl) ?_
  refine z_iconst hx hb dX9_save_14 ?_
  refine va_put (own := RX9) (ref := "NapkinSyntaxModel") (C := RX9) (T := TX9) (N := 20) hx hb hts hinX9 tyX9 tyX9_ok nmX9 hown hK hP hD hS 0 VG_0 rfl 5 (Nat.le_of_ble_eq_true rfl) (hts (.fieldLink RX9 255 "NapkinSyntaxModel" "hasSaved" "Z") (by decide +kernel)) (fun _ h => h) rfl (ty := .boolean) (v := .int (iI (1))) (by decide +kernel) nr_b1 rfl (Nat.le_of_ble_eq_true rfl) dX9_save_15 (fun H locs hP hD hS => ?_)
  rw [VGf_15] at hP hD
  refine lv_aload_n hx hb dX9_save_18 rfl (lv_at hl 0 rfl) ?_
  refine lv_aload_n hx hb dX9_save_19 rfl (lv_at hl 0 rfl) ?_
  refine va_get (own := RX9) (ref := "NapkinSyntaxModel") (C := RX9) (T := TX9) (N := 20) hx hb hts hinX9 hown hK hP 0 VG_0 rfl 0 (Nat.le_of_ble_eq_true rfl) (hts (.fieldLink RX9 7 "NapkinSyntaxModel" "g" "[I") (by decide +kernel)) (fun _ h => h) (v := .ref (E 1)) rfl dX9_save_20 ?_
  refine z_iconst hx hb dX9_save_23 ?_
  refine z_iald hx hb hK hP 1 0 VG_1 rfl (by omega) (by omega) (by decide) dX9_save_24 ?_
  refine ct_Vi (VG_fix E cI cC) hZo hZb hZ S0 (kX9_done l D E cI cC Z hZo hZb (msf (fX9_copy_gs M (0) (0)) 15 (1)) ((msf (fX9_copy_gs M (0) (0)) 15 (1)) 0 (0))  (fX9_done (msf (fX9_copy_gs M (0) (0)) 15 (1)) ((msf (fX9_copy_gs M (0) (0)) 15 (1)) 0 (0))).1 (fX9_done (msf (fX9_copy_gs M (0) (0)) 15 (1)) ((msf (fX9_copy_gs M (0) (0)) 15 (1)) 0 (0))).2 (Prod.ext rfl rfl)) (cwV 1 hts gX9_save_X9_done rfl rfl rfl (by decide +kernel) ⟨(Nat.le_of_ble_eq_true rfl), (Nat.le_of_ble_eq_true rfl)⟩) hK hP hD hS rfl rfl VG_0 rfl hl.1 rfl (Nat.le_of_ble_eq_true rfl) dX9_save_25 ⟨Nat.zero_le _, Nat.zero_le _⟩ (fun H locs hP hD hS => ?_)
  obtain ⟨e1, e2⟩ := Prod.mk.inj hE
  subst e2
  exact ci_i hx hb hr hlocks e1 rfl hS hP dX9_save_28

theorem fr_fX9_save {M : Mem} {r : Nat} (h3 : Nat.beq r 3 = false) (h15 : Nat.beq r 15 = false) (h26 : Nat.beq r 26 = false) : (fX9_save M).2 r = M r := by
  unfold fX9_save
  (repeat' with_reducible refine frite_w (fun _ => ?_) (fun _ => ?_)) <;> first | with_reducible rfl | simp only [mst_o, msf_o, mcp_o, fr_fX9_copy_gs, fr_fX9_done, h3, h15, h26]

def fX9_restore (M : Mem) : Int × Mem := if ((M 15 0) = 0) then ((fX9_fails M (1)).1, (fX9_fails M (1)).2) else ((fX9_done (msf (fX9_copy_sg M (0) (0)) 13 (0)) ((msf (fX9_copy_sg M (0) (0)) 13 (0)) 0 (0))).1, (fX9_done (msf (fX9_copy_sg M (0) (0)) 13 (0)) ((msf (fX9_copy_sg M (0) (0)) 13 (0)) 0 (0))).2)
set_option maxRecDepth 100000 in
set_option maxHeartbeats 4000000 in
theorem kX9_restore (l : Launch) (D : va_G) (E : Nat → Nat) (cI cC : ClassId) (Z : State → Prop) (hZo : ∀ M : Mem, ZOk (VG E cI cC M) Z) (hZb : ZBl Z) (M : Mem) (h1 : 0 ≤ M 15 0 ∧ M 15 0 ≤ 1) (r : Int) (M' : Mem) (hE : fX9_restore M = (r, M')) : Ci l yX9_restore wsX9_restore 1 24 [.ref (E 0)] D (TY cI cC) (VG E cI cC) Z M r M' := by
  refine Ci.of (cc := cX9_restore) (maxL := 1) (ret := (some .int)) (by decide +kernel) rfl (Nat.le_of_ble_eq_true rfl) ?_
  intro p e s m args below meth c ls hx hb hml hr hown hts hlocks hP hK hD hZ hS hl
  have hl : lv_has ls 1 [(0, .ref (E 0))] := hl
  have S0 : CallFix p m c cX9_restore 1 s args wsX9_restore RX9 := ⟨hx, hb, hml, hown, hts⟩
  have hinX9 : ∀ w ∈ u_ws RX9 TX9 20, w ∈ wsX9_restore := by decide +kernel
  rw [fX9_restore] at hE
  refine lv_aload_n hx hb dX9_restore_0 rfl (lv_at hl 0 rfl) ?_
  refine va_get (own := RX9) (ref := "NapkinSyntaxModel") (C := RX9) (T := TX9) (N := 20) hx hb hts hinX9 hown hK hP 0 VG_0 rfl 5 (Nat.le_of_ble_eq_true rfl) (hts (.fieldLink RX9 255 "NapkinSyntaxModel" "hasSaved" "Z") (by decide +kernel)) (fun _ h => h) (v := .int (iI (M 15 0))) rfl dX9_restore_1 ?_
  refine z_if_ne hx hb dX9_restore_4 (tgt := 13) rfl (by omega) (fun b1 => ?_) (fun b1 => ?_)
  · rw [if_neg b1] at hE
    refine lv_aload_n hx hb dX9_restore_13 rfl (lv_at hl 0 rfl) ?_
    refine va_get (own := RX9) (ref := "NapkinSyntaxModel") (C := RX9) (T := TX9) (N := 20) hx hb hts hinX9 hown hK hP 0 VG_0 rfl 4 (Nat.le_of_ble_eq_true rfl) (hts (.fieldLink RX9 19 "NapkinSyntaxModel" "savedOnes" "[I") (by decide +kernel)) (fun _ h => h) (v := .ref (E 4)) rfl dX9_restore_14 ?_
    refine z_iconst hx hb dX9_restore_17 ?_
    refine lv_aload_n hx hb dX9_restore_18 rfl (lv_at hl 0 rfl) ?_
    refine va_get (own := RX9) (ref := "NapkinSyntaxModel") (C := RX9) (T := TX9) (N := 20) hx hb hts hinX9 hown hK hP 0 VG_0 rfl 0 (Nat.le_of_ble_eq_true rfl) (hts (.fieldLink RX9 7 "NapkinSyntaxModel" "g" "[I") (by decide +kernel)) (fun _ h => h) (v := .ref (E 1)) rfl dX9_restore_19 ?_
    refine z_iconst hx hb dX9_restore_22 ?_
    refine ct_Sv (VG_fix E cI cC) hZo hZb hZ S0 (kX9_copy_sg l D E cI cC Z hZo hZb M (0) (0) (by omega) (by omega) (fX9_copy_sg M (0) (0)) rfl) (va_cwS 4 hts gX9_restore_X9_copy rfl rfl rfl (by decide +kernel) ⟨(Nat.le_of_ble_eq_true rfl), (Nat.le_of_ble_eq_true rfl)⟩) hK hP hD hS rfl hl.1 rfl (Nat.le_of_ble_eq_true rfl) dX9_restore_23 ⟨Nat.zero_le _, Nat.zero_le _⟩ (fun H locs hP hD hS => ?_)
    refine lv_aload_n hx hb dX9_restore_26 rfl (lv_at hl 0 rfl) ?_
    refine z_iconst hx hb dX9_restore_27 ?_
    refine va_put (own := RX9) (ref := "NapkinSyntaxModel") (C := RX9) (T := TX9) (N := 20) hx hb hts hinX9 tyX9 tyX9_ok nmX9 hown hK hP hD hS 0 VG_0 rfl 3 (Nat.le_of_ble_eq_true rfl) (hts (.fieldLink RX9 59 "NapkinSyntaxModel" "changes" "I") (by decide +kernel)) (fun _ h => h) rfl (ty := .int) (v := .int (iI (0))) (by decide +kernel) rfl rfl (Nat.le_of_ble_eq_true rfl) dX9_restore_28 (fun H locs hP hD hS => ?_)
    rw [VGf_13] at hP hD
    refine lv_aload_n hx hb dX9_restore_31 rfl (lv_at hl 0 rfl) ?_
    refine lv_aload_n hx hb dX9_restore_32 rfl (lv_at hl 0 rfl) ?_
    refine va_get (own := RX9) (ref := "NapkinSyntaxModel") (C := RX9) (T := TX9) (N := 20) hx hb hts hinX9 hown hK hP 0 VG_0 rfl 0 (Nat.le_of_ble_eq_true rfl) (hts (.fieldLink RX9 7 "NapkinSyntaxModel" "g" "[I") (by decide +kernel)) (fun _ h => h) (v := .ref (E 1)) rfl dX9_restore_33 ?_
    refine z_iconst hx hb dX9_restore_36 ?_
    refine z_iald hx hb hK hP 1 0 VG_1 rfl (by omega) (by omega) (by decide) dX9_restore_37 ?_
    refine ct_Vi (VG_fix E cI cC) hZo hZb hZ S0 (kX9_done l D E cI cC Z hZo hZb (msf (fX9_copy_sg M (0) (0)) 13 (0)) ((msf (fX9_copy_sg M (0) (0)) 13 (0)) 0 (0))  (fX9_done (msf (fX9_copy_sg M (0) (0)) 13 (0)) ((msf (fX9_copy_sg M (0) (0)) 13 (0)) 0 (0))).1 (fX9_done (msf (fX9_copy_sg M (0) (0)) 13 (0)) ((msf (fX9_copy_sg M (0) (0)) 13 (0)) 0 (0))).2 (Prod.ext rfl rfl)) (cwV 1 hts gX9_restore_X9_done rfl rfl rfl (by decide +kernel) ⟨(Nat.le_of_ble_eq_true rfl), (Nat.le_of_ble_eq_true rfl)⟩) hK hP hD hS rfl rfl VG_0 rfl hl.1 rfl (Nat.le_of_ble_eq_true rfl) dX9_restore_38 ⟨Nat.zero_le _, Nat.zero_le _⟩ (fun H locs hP hD hS => ?_)
    obtain ⟨e1, e2⟩ := Prod.mk.inj hE
    subst e2
    exact ci_i hx hb hr hlocks e1 rfl hS hP dX9_restore_41
  · rw [if_pos b1] at hE
    refine lv_aload_n hx hb dX9_restore_7 rfl (lv_at hl 0 rfl) ?_
    refine z_iconst hx hb dX9_restore_8 ?_
    refine ct_Vi (VG_fix E cI cC) hZo hZb hZ S0 (kX9_fails l D E cI cC Z hZo hZb M (1)  (fX9_fails M (1)).1 (fX9_fails M (1)).2 (Prod.ext rfl rfl)) (cwV 1 hts gX9_restore_X9_fails rfl rfl rfl (by decide +kernel) ⟨(Nat.le_of_ble_eq_true rfl), (Nat.le_of_ble_eq_true rfl)⟩) hK hP hD hS rfl rfl VG_0 rfl hl.1 rfl (Nat.le_of_ble_eq_true rfl) dX9_restore_9 ⟨Nat.zero_le _, Nat.zero_le _⟩ (fun H locs hP hD hS => ?_)
    obtain ⟨e1, e2⟩ := Prod.mk.inj hE
    subst e2
    exact ci_i hx hb hr hlocks e1 rfl hS hP dX9_restore_12

theorem fr_fX9_restore {M : Mem} {r : Nat} (h0 : Nat.beq r 0 = false) (h13 : Nat.beq r 13 = false) (h23 : Nat.beq r 23 = false) (h26 : Nat.beq r 26 = false) : (fX9_restore M).2 r = M r := by
  unfold fX9_restore
  (repeat' with_reducible refine frite_w (fun _ => ?_) (fun _ => ?_)) <;> first | with_reducible rfl | simp only [mst_o, msf_o, mcp_o, fr_fX9_copy_sg, fr_fX9_done, fr_fX9_fails, h0, h13, h23, h26]
