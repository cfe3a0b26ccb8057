/-! the class NapkinSyntax: first part -/

def HN (M : Mem) : Prop := 0 ≤ M 9 0 ∧ M 9 0 ≤ 8
def LN (M : Mem) : Prop := (0 ≤ M 13 0 ∧ M 13 0 ≤ 23) ∧ ∀ j : Int, 0 ≤ j → j < 23 → 0 ≤ M 12 j ∧ M 12 j < 65536
theorem TI_of {M N : Mem} (h10 : N 10 = M 10) (h11 : N 11 = M 11) (h : TI M) : TI N := by unfold TI at *; rw [h10, h11]; exact h
theorem HN_of {M N : Mem} (h9 : N 9 = M 9) (h : HN M) : HN N := by unfold HN at *; rw [h9]; exact h
theorem LN_of {M N : Mem} (h12 : N 12 = M 12) (h13 : N 13 = M 13) (h : LN M) : LN N := by unfold LN at *; rw [h12, h13]; exact h
theorem TI_empty {M : Mem} (h : TI M) : TI (fX7_empty M) := ⟨⟨(by decide : (0 : Int) ≤ 0), (by decide : (0 : Int) ≤ 60)⟩, h.2⟩
theorem TI_append {M : Mem} (h : TI M) (s : Int) (hs : 0 ≤ s ∧ s < 65536) : TI (fX7_append M s) := by
  have h1 := h.1
  unfold fX7_append
  (repeat' split) <;> first
    | exact h
    | exact ⟨⟨(by omega : 0 ≤ M 11 0 + 1), (by omega : M 11 0 + 1 ≤ 60)⟩, fun j a b => by
        have := mst_r (σ := M 10) (z := M 11 0) (v := s) (lo := 0) (hi := 65535) (a := 0) (b := 60) (b' := 60) (fun j a b => by have := h.2 j a b; omega) (by omega) (fun _ _ h => Or.inr h) j a b
        show 0 ≤ up (M 10) (M 11 0) s j ∧ up (M 10) (M 11 0) s j < 65536
        omega⟩
theorem LN_empty {M : Mem} (h : LN M) : LN (fX3_empty M) := ⟨⟨(by decide : (0 : Int) ≤ 0), (by decide : (0 : Int) ≤ 23)⟩, h.2⟩
theorem LN_add {M : Mem} (h : LN M) (s : Int) (hs : 0 ≤ s ∧ s < 65536) : LN (fX3_add M s) := by
  have h1 := h.1
  unfold fX3_add
  (repeat' split) <;> first
    | exact h
    | exact ⟨⟨(by omega : 0 ≤ M 13 0 + 1), (by omega : M 13 0 + 1 ≤ 23)⟩, fun j a b => by
        have := mst_r (σ := M 12) (z := M 13 0) (v := s) (lo := 0) (hi := 65535) (a := 0) (b := 23) (b' := 23) (fun j a b => by have := h.2 j a b; omega) (by omega) (fun _ _ h => Or.inr h) j a b
        show 0 ≤ up (M 12) (M 13 0) s j ∧ up (M 12) (M 13 0) s j < 65536
        omega⟩
theorem LN_addDigit {M : Mem} (h : LN M) (d : Int) (hd : -1 ≤ d ∧ d ≤ 9) : LN (fX3_addDigit M d) := LN_add h _ (by omega)
theorem HN_push {M : Mem} (h : HN M) : HN (fX2_push M) := by
  unfold HN at h
  unfold fX2_push
  (repeat' split) <;> first
    | exact ⟨(by decide : (0 : Int) ≤ 7 + 1), (by decide : (7 + 1 : Int) ≤ 8)⟩
    | exact ⟨(by omega : 0 ≤ M 9 0 + 1), (by omega : M 9 0 + 1 ≤ 8)⟩
    | omega
theorem HN_pop {M : Mem} (h : HN M) : HN (fX2_pop M) := by
  unfold HN at h
  unfold fX2_pop
  (repeat' split) <;> first
    | exact h
    | exact ⟨(by omega : 0 ≤ M 9 0 - 1), (by omega : M 9 0 - 1 ≤ 8)⟩
theorem HN_empty {M : Mem} : HN (fX2_empty M) := ⟨(by decide : (0 : Int) ≤ 0), (by decide : (0 : Int) ≤ 8)⟩


theorem LN_i {M : Mem} (h : LN M) : 0 ≤ M 13 0 ∧ M 13 0 ≤ 23 := h.1
theorem LN_c {M : Mem} (h : LN M) : ∀ j : Int, 0 ≤ j → j < 23 → 0 ≤ M 12 j ∧ M 12 j < 65536 := h.2
theorem rg_X3_length {M : Mem} (h : LN M) : 0 ≤ fX3_length M ∧ fX3_length M ≤ 23 := h.1
theorem rg_X2_size {M : Mem} (h : HN M) : 0 ≤ fX2_size M ∧ fX2_size M ≤ 8 := h
theorem rg_X7_length {M : Mem} (h : TI M) : 0 ≤ fX7_length M ∧ fX7_length M ≤ 60 := h.1
theorem rg_X3_at {M : Mem} (h : LN M) (i : Int) : 0 ≤ fX3_at M i ∧ fX3_at M i < 65536 := by
  unfold fX3_at
  (repeat' split) <;> first | omega | exact h.2 _ (by omega) (by omega)

def fX8_heard (M : Mem) (table : Int) : Mem := (fX4_hear M table)
set_option maxRecDepth 100000 in
set_option maxHeartbeats 4000000 in
theorem kX8_heard (l : Launch) (D : va_G) (E : Nat → Nat) (cI cC : ClassId) (Z : State → Prop) (hZo : ∀ M : Mem, ZOk (VC E cI cC M) Z) (hZb : ZBl Z) (M : Mem) (table : Int) (h1 : -2147483648 ≤ table ∧ table < 2147483648) (hC : CI M) (M' : Mem) (hE : fX8_heard M table = M') : Cr l yX8_heard wsX8_heard 3 67 [.ref (E 0), .int (iI table)] D (TY cI cC) (VC E cI cC) Z M (.ref (E 4)) M' := by
  refine Cr.of (cc := cX8_heard) (maxL := 2) (ret := (some (.object "NapkinSyntax$Sentence"))) (by decide +kernel) rfl (Nat.le_of_ble_eq_true rfl) ?_
  intro p e s m args below meth c ls hx hb hml hr hown hts hlocks hP hK hD hZ hS hl
  have hl : lv_has ls 2 [(0, .ref (E 0)), (1, .int (iI table))] := hl
  have S0 : CallFix p m c cX8_heard 2 s args wsX8_heard RX8 := ⟨hx, hb, hml, hown, hts⟩
  have hinX8 : ∀ w ∈ u_ws RX8 TX8 12, w ∈ wsX8_heard := by decide +kernel
  rw [fX8_heard] at hE
  refine lv_aload_n hx hb dX8_heard_0 rfl (lv_at hl 0 rfl) ?_
  refine va_get (own := RX8) (ref := "NapkinSyntax") (C := RX8) (T := TX8) (N := 12) hx hb hts hinX8 hown hK hP 0 VC_0 rfl 2 (Nat.le_of_ble_eq_true rfl) (hts (.fieldLink RX8 27 "NapkinSyntax" "sentence" "LNapkinSyntax$Sentence;") (by decide +kernel)) (fun _ h => h) (v := .ref (E 4)) rfl dX8_heard_1 ?_
  refine lv_aload_n hx hb dX8_heard_4 rfl (lv_at hl 0 rfl) ?_
  refine va_get (own := RX8) (ref := "NapkinSyntax") (C := RX8) (T := TX8) (N := 12) hx hb hts hinX8 hown hK hP 0 VC_0 rfl 1 (Nat.le_of_ble_eq_true rfl) (hts (.fieldLink RX8 20 "NapkinSyntax" "now" "LNapkinSyntax$State;") (by decide +kernel)) (fun _ h => h) (v := .ref (E 2)) rfl dX8_heard_5 ?_
  refine lv_iload_n hx hb dX8_heard_8 rfl (lv_at hl 1 rfl) ?_
  refine ct_Vv (VC_fix E cI cC) hZo hZb hZ S0 (kX4_hear l D E cI cC Z hZo hZb M table (by omega) hC (fX4_hear M table) rfl) (cwV 2 hts gX8_heard_X4_hear rfl rfl rfl (by decide +kernel) ⟨(Nat.le_of_ble_eq_true rfl), (Nat.le_of_ble_eq_true rfl)⟩) hK hP hD hS rfl rfl VC_4 rfl hl.1 rfl (Nat.le_of_ble_eq_true rfl) dX8_heard_9 ⟨Nat.zero_le _, Nat.zero_le _⟩ (fun H locs hP hD hS => ?_)
  refine lv_aload_n hx hb dX8_heard_12 rfl (lv_at hl 0 rfl) ?_
  refine va_get (own := RX8) (ref := "NapkinSyntax") (C := RX8) (T := TX8) (N := 12) hx hb hts hinX8 hown hK hP 0 VC_0 rfl 2 (Nat.le_of_ble_eq_true rfl) (hts (.fieldLink RX8 27 "NapkinSyntax" "sentence" "LNapkinSyntax$Sentence;") (by decide +kernel)) (fun _ h => h) (v := .ref (E 4)) rfl dX8_heard_13 ?_
  subst hE
  exact cr_r hx hb hr hlocks hS hP dX8_heard_16

theorem fr_fX8_heard {M : Mem} (table : Int) {r : Nat} (h1 : Nat.beq r 1 = false) (h2 : Nat.beq r 2 = false) (h3 : Nat.beq r 3 = false) (h4 : Nat.beq r 4 = false) (h7 : Nat.beq r 7 = false) : (fX8_heard M table) r = M r := by
  unfold fX8_heard
  (repeat' with_reducible refine frite_v (fun _ => ?_) (fun _ => ?_)) <;> first | with_reducible rfl | simp only [mst_o, msf_o, mcp_o, fr_fX4_hear, h1, h2, h3, h4, h7]


theorem SI_heard {M : Mem} (hC : CI M) (h : SI M) (t : Int) : SI (fX8_heard M t) := SI_hear hC h t

def fX8_checkTable (M : Mem) (table : Int) : Int := if ((fX8_isTable table) = 0) then (1) else (0)
set_option maxRecDepth 100000 in
set_option maxHeartbeats 4000000 in
theorem kX8_checkTable (l : Launch) (hst : l.stackTraces = false) (D : va_G) (E : Nat → Nat) (cI cC : ClassId) (T : Nat → Nat) (M : Mem) (table : Int) (h1 : -2147483648 ≤ table ∧ table < 2147483648) (kx : Int) (hE : fX8_checkTable M table = kx) : Cx l yX8_checkTable wsX8_checkTable 6 82 1 [.ref (E 0), .int (iI table)] D (TY cI cC) (VC E cI cC) (ZC E cI cC T) M kx none M := by
  refine Cx.of (cc := cX8_checkTable) (maxL := 2) (ret := none) (by decide +kernel) rfl (Nat.le_of_ble_eq_true rfl) ?_
  intro p e s m args below meth c ls hx hb hml hr hown hts hlocks hP hK hD hZ hS hout hl
  have hl : lv_has ls 2 [(0, .ref (E 0)), (1, .int (iI table))] := hl
  have S0 : CallFix p m c cX8_checkTable 2 s args wsX8_checkTable RX8 := ⟨hx, hb, hml, hown, hts⟩
  rw [fX8_checkTable] at hE
  refine lv_iload_n hx hb dX8_checkTable_0 rfl (lv_at hl 1 rfl) ?_
  refine ct_Si (VC_fix E cI cC) (ZC_ok E cI cC T) (ZC_bl E cI cC T) hZ S0 (kX8_isTable l D E cI cC (ZC E cI cC T) (ZC_ok E cI cC T) (ZC_bl E cI cC T) M table (by omega) (fX8_isTable table) rfl) (va_cwS 1 hts gX8_checkTable_X8_isTable rfl rfl rfl (by decide +kernel) ⟨(Nat.le_of_ble_eq_true rfl), (Nat.le_of_ble_eq_true rfl)⟩) hK hP hD hS rfl hl.1 rfl (Nat.le_of_ble_eq_true rfl) dX8_checkTable_1 ⟨(Nat.le_of_ble_eq_true rfl), (Nat.le_of_ble_eq_true rfl)⟩ (fun H locs hP hD hS => ?_)
  have q1 := bX8_isTable table
  refine z_if_ne hx hb dX8_checkTable_4 (tgt := 18) rfl (by omega) (fun b2 => ?_) (fun b2 => ?_)
  · rw [if_neg b2] at hE
    exact cx_v hx hb hr hlocks hE hS hP (Nat.le_of_ble_eq_true rfl) (Nat.le_of_ble_eq_true rfl) dX8_checkTable_18
  · rw [if_pos b2] at hE
    exact cx_throwW (k := 1) rfl hx hb hst hts hown (by decide +kernel) xn_fit (by decide +kernel) (by decide +kernel) (ZC_t401 hZ) (fun w h => List.mem_cons_of_mem _ (List.mem_append_right _ h)) xb_1 xg_1 (ZC_d1 hZ) (ZC_d2 hZ) (ZC_d3 hZ) (ZC_x1 hZ) (ZC_us hZ M) (ZC_ss hZ M) hS hP (hl.1.trans hml.symm) dX8_checkTable_7 dX8_checkTable_10 dX8_checkTable_11 dX8_checkTable_14 dX8_checkTable_17 hout (Nat.le_of_ble_eq_true rfl) (Nat.le_of_ble_eq_true rfl) (Nat.le_of_ble_eq_true rfl) (Nat.le_of_ble_eq_true rfl) hlocks (by decide) hE (Nat.le_of_ble_eq_true rfl) (Nat.le_of_ble_eq_true rfl)


theorem tX8_checkTable {M : Mem} {t : Int} (h : fX8_checkTable M t = 0) : 0 ≤ t ∧ t < 3 := by
  unfold fX8_checkTable at h
  split at h
  · omega
  · rename_i h2
    exact tX8_isTable h2

def fX8_refuse (M : Mem) (verdict causing : Int) : Mem := (msf (msf M 18 verdict) 19 causing)
set_option maxRecDepth 100000 in
set_option maxHeartbeats 4000000 in
theorem kX8_refuse (l : Launch) (D : va_G) (E : Nat → Nat) (cI cC : ClassId) (Z : State → Prop) (hZo : ∀ M : Mem, ZOk (VC E cI cC M) Z) (hZb : ZBl Z) (M : Mem) (verdict causing : Int)  (M' : Mem) (hE : fX8_refuse M verdict causing = M') : Cv l yX8_refuse wsX8_refuse 0 0 [.ref (E 0), .int (iI verdict), .int (iI causing)] D (TY cI cC) (VC E cI cC) Z M M' := by
  refine Cv.of (cc := cX8_refuse) (maxL := 3) (ret := none) (by decide +kernel) rfl (Nat.le_of_ble_eq_true rfl) ?_
  intro p e s m args below meth c ls hx hb hml hr hown hts hlocks hP hK hD hZ hS hl
  have hl : lv_has ls 3 [(0, .ref (E 0)), (1, .int (iI verdict)), (2, .int (iI causing))] := hl
  have S0 : CallFix p m c cX8_refuse 3 s args wsX8_refuse RX8 := ⟨hx, hb, hml, hown, hts⟩
  have hinX8 : ∀ w ∈ u_ws RX8 TX8 12, w ∈ wsX8_refuse := by decide +kernel
  rw [fX8_refuse] at hE
  refine lv_aload_n hx hb dX8_refuse_0 rfl (lv_at hl 0 rfl) ?_
  refine lv_iload_n hx hb dX8_refuse_1 rfl (lv_at hl 1 rfl) ?_
  refine va_put (own := RX8) (ref := "NapkinSyntax") (C := RX8) (T := TX8) (N := 12) hx hb hts hinX8 tyX8 tyX8_ok nmX8 hown hK hP hD hS 0 VC_0 rfl 10 (Nat.le_of_ble_eq_true rfl) (hts (.fieldLink RX8 66 "NapkinSyntax" "refused" "I") (by decide +kernel)) (fun _ h => h) rfl (ty := .int) (v := .int (iI verdict)) (by decide +kernel) rfl rfl (Nat.le_of_ble_eq_true rfl) dX8_refuse_2 (fun H locs hP hD hS => ?_)
  rw [VCf_18] at hP hD
  refine lv_aload_n hx hb dX8_refuse_5 rfl (lv_at hl 0 rfl) ?_
  refine lv_iload_n hx hb dX8_refuse_6 rfl (lv_at hl 2 rfl) ?_
  refine va_put (own := RX8) (ref := "NapkinSyntax") (C := RX8) (T := TX8) (N := 12) hx hb hts hinX8 tyX8 tyX8_ok nmX8 hown hK hP hD hS 0 VC_0 rfl 11 (Nat.le_of_ble_eq_true rfl) (hts (.fieldLink RX8 69 "NapkinSyntax" "cause" "I") (by decide +kernel)) (fun _ h => h) rfl (ty := .int) (v := .int (iI causing)) (by decide +kernel) rfl rfl (Nat.le_of_ble_eq_true rfl) dX8_refuse_7 (fun H locs hP hD hS => ?_)
  rw [VCf_19] at hP hD
  subst hE
  exact cv_v hx hb hr hlocks hS hP dX8_refuse_10

theorem fr_fX8_refuse {M : Mem} (verdict causing : Int) {r : Nat} (h18 : Nat.beq r 18 = false) (h19 : Nat.beq r 19 = false) : (fX8_refuse M verdict causing) r = M r := by
  unfold fX8_refuse
  (repeat' with_reducible refine frite_v (fun _ => ?_) (fun _ => ?_)) <;> first | with_reducible rfl | simp only [mst_o, msf_o, mcp_o, h18, h19]

def fX8_tableOf (M : Mem) (table what : Int) : Int × Int × Mem := if (fX8_checkTable M table) = 0 then if (what = 0) then ((0), (fX6_laidOn M table), M) else if (what = 1) then ((0), (fX4_size (fX8_heard M table)), (fX8_heard M table)) else if (what = 2) then ((0), (fX4_countOf (fX8_heard M table) (1)), (fX8_heard M table)) else if (what = 3) then ((0), (fX4_countOf (fX8_heard M table) (4)), (fX8_heard M table)) else if (what = 4) then ((0), (fX6_readingsOf M table), M) else if (what = 5) then ((0), (fX6_puzzlesOf M table), M) else ((2), (0), M) else ((fX8_checkTable M table), (0), M)
set_option maxRecDepth 100000 in
set_option maxHeartbeats 4000000 in
theorem kX8_tableOf (l : Launch) (hst : l.stackTraces = false) (D : va_G) (E : Nat → Nat) (cI cC : ClassId) (T : Nat → Nat) (M : Mem) (table what : Int) (h1 : -2147483648 ≤ table ∧ table < 2147483648) (h2 : -2147483648 ≤ what ∧ what < 2147483648) (hC : CI M) (hQ : SI M) (kx r : Int) (M' : Mem) (hE : fX8_tableOf M table what = (kx, r, M')) : Cx l yX8_tableOf wsX8_tableOf 7 103 2 [.ref (E 0), .int (iI table), .int (iI what)] D (TY cI cC) (VC E cI cC) (ZC E cI cC T) M kx (some (.int (iI r))) M' := by
  refine Cx.of (cc := cX8_tableOf) (maxL := 3) (ret := (some .int)) (by decide +kernel) rfl (Nat.le_of_ble_eq_true rfl) ?_
  intro p e s m args below meth c ls hx hb hml hr hown hts hlocks hP hK hD hZ hS hout hl
  have hl : lv_has ls 3 [(0, .ref (E 0)), (1, .int (iI table)), (2, .int (iI what))] := hl
  have S0 : CallFix p m c cX8_tableOf 3 s args wsX8_tableOf RX8 := ⟨hx, hb, hml, hown, hts⟩
  have hinX8 : ∀ w ∈ u_ws RX8 TX8 12, w ∈ wsX8_tableOf := by decide +kernel
  rw [fX8_tableOf] at hE
  refine lv_aload_n hx hb dX8_tableOf_0 rfl (lv_at hl 0 rfl) ?_
  refine lv_iload_n hx hb dX8_tableOf_1 rfl (lv_at hl 1 rfl) ?_
  refine ct_Vxv (VC_fix E cI cC) (ZC_ok E cI cC T) (ZC_bl E cI cC T) hZ S0 (kX8_checkTable l hst D E cI cC T M table (by omega) (fX8_checkTable M table) rfl) (cwV 1 hts gX8_tableOf_X8_checkTable rfl rfl rfl (by decide +kernel) ⟨(Nat.le_of_ble_eq_true rfl), (Nat.le_of_ble_eq_true rfl)⟩) hK hP hD hS rfl rfl VC_0 rfl hl.1 rfl (Nat.le_of_ble_eq_true rfl) dX8_tableOf_2 ⟨(Nat.le_of_ble_eq_true rfl), (Nat.le_of_ble_eq_true rfl)⟩ hout hlocks (Nat.le_of_ble_eq_true rfl) (Nat.le_of_ble_eq_true rfl) (fun b1 => ?_) (fun b1 H locs hP hD hS => ?_)
  · rw [if_neg b1] at hE
    obtain ⟨e0, e1⟩ := Prod.mk.inj hE
    exact ⟨e0, (Prod.mk.inj e1).2⟩
  · rw [if_pos b1] at hE
    refine lv_iload_n hx hb dX8_tableOf_5 rfl (lv_at hl 2 rfl) ?_
    by_cases b2 : (what = 0)
    · rw [if_pos b2] at hE
      refine z_table hx hb dX8_tableOf_6 (k0 := 0) (tgt := 44) (by omega) b2 (by decide) (by decide) rfl rfl ?_
      refine lv_aload_n hx hb dX8_tableOf_44 rfl (lv_at hl 0 rfl) ?_
      refine va_get (own := RX8) (ref := "NapkinSyntax") (C := RX8) (T := TX8) (N := 12) hx hb hts hinX8 hown hK hP 0 VC_0 rfl 1 (Nat.le_of_ble_eq_true rfl) (hts (.fieldLink RX8 20 "NapkinSyntax" "now" "LNapkinSyntax$State;") (by decide +kernel)) (fun _ h => h) (v := .ref (E 2)) rfl dX8_tableOf_45 ?_
      refine lv_iload_n hx hb dX8_tableOf_48 rfl (lv_at hl 1 rfl) ?_
      refine ct_Vi (VC_fix E cI cC) (ZC_ok E cI cC T) (ZC_bl E cI cC T) hZ S0 (kX6_laidOn l D E cI cC (ZC E cI cC T) (ZC_ok E cI cC T) (ZC_bl E cI cC T) M table (by omega) (fX6_laidOn M table) rfl) (cwV 1 hts gX8_tableOf_X6_laidOn rfl rfl rfl (by decide +kernel) ⟨(Nat.le_of_ble_eq_true rfl), (Nat.le_of_ble_eq_true rfl)⟩) hK hP hD hS rfl rfl VC_2 rfl hl.1 rfl (Nat.le_of_ble_eq_true rfl) dX8_tableOf_49 ⟨(Nat.le_of_ble_eq_true rfl), (Nat.le_of_ble_eq_true rfl)⟩ (fun H locs hP hD hS => ?_)
      have q3 := rg_X6_laidOn hC table
      obtain ⟨e0, e9⟩ := Prod.mk.inj hE
      obtain ⟨e1, e2⟩ := Prod.mk.inj e9
      subst e2
      exact cx_i hx hb hr hlocks e0 e1 rfl hS hP (Nat.le_of_ble_eq_true rfl) (Nat.le_of_ble_eq_true rfl) dX8_tableOf_52
    · rw [if_neg b2] at hE
      by_cases b4 : (what = 1)
      · rw [if_pos b4] at hE
        refine z_table hx hb dX8_tableOf_6 (k0 := 1) (tgt := 53) (by omega) b4 (by decide) (by decide) rfl rfl ?_
        refine lv_aload_n hx hb dX8_tableOf_53 rfl (lv_at hl 0 rfl) ?_
        refine lv_iload_n hx hb dX8_tableOf_54 rfl (lv_at hl 1 rfl) ?_
        refine ct_Vr (VC_fix E cI cC) (ZC_ok E cI cC T) (ZC_bl E cI cC T) hZ S0 (kX8_heard l D E cI cC (ZC E cI cC T) (ZC_ok E cI cC T) (ZC_bl E cI cC T) M table (by omega) hC (fX8_heard M table) rfl) (cwV 1 hts gX8_tableOf_X8_heard rfl rfl rfl (by decide +kernel) ⟨(Nat.le_of_ble_eq_true rfl), (Nat.le_of_ble_eq_true rfl)⟩) hK hP hD hS rfl rfl VC_0 rfl hl.1 rfl (Nat.le_of_ble_eq_true rfl) dX8_tableOf_55 ⟨(Nat.le_of_ble_eq_true rfl), (Nat.le_of_ble_eq_true rfl)⟩ (fun H locs hP hD hS => ?_)
        refine ct_Vi (VC_fix E cI cC) (ZC_ok E cI cC T) (ZC_bl E cI cC T) hZ S0 (kX4_size l D E cI cC (ZC E cI cC T) (ZC_ok E cI cC T) (ZC_bl E cI cC T) (fX8_heard M table) (SI_heard hC hQ table) (fX4_size (fX8_heard M table)) rfl) (cwV 0 hts gX8_tableOf_X4_size rfl rfl rfl (by decide +kernel) ⟨(Nat.le_of_ble_eq_true rfl), (Nat.le_of_ble_eq_true rfl)⟩) hK hP hD hS rfl rfl VC_4 rfl hl.1 rfl (Nat.le_of_ble_eq_true rfl) dX8_tableOf_58 ⟨(Nat.le_of_ble_eq_true rfl), (Nat.le_of_ble_eq_true rfl)⟩ (fun H locs hP hD hS => ?_)
        have q5 := rg_X4_size (SI_heard hC hQ table)
        obtain ⟨e0, e9⟩ := Prod.mk.inj hE
        obtain ⟨e1, e2⟩ := Prod.mk.inj e9
        subst e2
        exact cx_i hx hb hr hlocks e0 e1 rfl hS hP (Nat.le_of_ble_eq_true rfl) (Nat.le_of_ble_eq_true rfl) dX8_tableOf_61
      · rw [if_neg b4] at hE
        by_cases b6 : (what = 2)
        · rw [if_pos b6] at hE
          refine z_table hx hb dX8_tableOf_6 (k0 := 2) (tgt := 62) (by omega) b6 (by decide) (by decide) rfl rfl ?_
          refine lv_aload_n hx hb dX8_tableOf_62 rfl (lv_at hl 0 rfl) ?_
          refine lv_iload_n hx hb dX8_tableOf_63 rfl (lv_at hl 1 rfl) ?_
          refine ct_Vr (VC_fix E cI cC) (ZC_ok E cI cC T) (ZC_bl E cI cC T) hZ S0 (kX8_heard l D E cI cC (ZC E cI cC T) (ZC_ok E cI cC T) (ZC_bl E cI cC T) M table (by omega) hC (fX8_heard M table) rfl) (cwV 1 hts gX8_tableOf_X8_heard rfl rfl rfl (by decide +kernel) ⟨(Nat.le_of_ble_eq_true rfl), (Nat.le_of_ble_eq_true rfl)⟩) hK hP hD hS rfl rfl VC_0 rfl hl.1 rfl (Nat.le_of_ble_eq_true rfl) dX8_tableOf_64 ⟨(Nat.le_of_ble_eq_true rfl), (Nat.le_of_ble_eq_true rfl)⟩ (fun H locs hP hD hS => ?_)
          refine z_iconst hx hb dX8_tableOf_67 ?_
          refine ct_Vi (VC_fix E cI cC) (ZC_ok E cI cC T) (ZC_bl E cI cC T) hZ S0 (kX4_countOf l D E cI cC (ZC E cI cC T) (ZC_ok E cI cC T) (ZC_bl E cI cC T) (fX8_heard M table) (1) (by omega) (SI_heard hC hQ table) (fX4_countOf (fX8_heard M table) (1)) rfl) (cwV 1 hts gX8_tableOf_X4_countOf rfl rfl rfl (by decide +kernel) ⟨(Nat.le_of_ble_eq_true rfl), (Nat.le_of_ble_eq_true rfl)⟩) hK hP hD hS rfl rfl VC_4 rfl hl.1 rfl (Nat.le_of_ble_eq_true rfl) dX8_tableOf_68 ⟨(Nat.le_of_ble_eq_true rfl), (Nat.le_of_ble_eq_true rfl)⟩ (fun H locs hP hD hS => ?_)
          have q7 := rg_X4_countOf (SI_heard hC hQ table) (1)
          obtain ⟨e0, e9⟩ := Prod.mk.inj hE
          obtain ⟨e1, e2⟩ := Prod.mk.inj e9
          subst e2
          exact cx_i hx hb hr hlocks e0 e1 rfl hS hP (Nat.le_of_ble_eq_true rfl) (Nat.le_of_ble_eq_true rfl) dX8_tableOf_71
        · rw [if_neg b6] at hE
          by_cases b8 : (what = 3)
          · rw [if_pos b8] at hE
            refine z_table hx hb dX8_tableOf_6 (k0 := 3) (tgt := 72) (by omega) b8 (by decide) (by decide) rfl rfl ?_
            refine lv_aload_n hx hb dX8_tableOf_72 rfl (lv_at hl 0 rfl) ?_
            refine lv_iload_n hx hb dX8_tableOf_73 rfl (lv_at hl 1 rfl) ?_
            refine ct_Vr (VC_fix E cI cC) (ZC_ok E cI cC T) (ZC_bl E cI cC T) hZ S0 (kX8_heard l D E cI cC (ZC E cI cC T) (ZC_ok E cI cC T) (ZC_bl E cI cC T) M table (by omega) hC (fX8_heard M table) rfl) (cwV 1 hts gX8_tableOf_X8_heard rfl rfl rfl (by decide +kernel) ⟨(Nat.le_of_ble_eq_true rfl), (Nat.le_of_ble_eq_true rfl)⟩) hK hP hD hS rfl rfl VC_0 rfl hl.1 rfl (Nat.le_of_ble_eq_true rfl) dX8_tableOf_74 ⟨(Nat.le_of_ble_eq_true rfl), (Nat.le_of_ble_eq_true rfl)⟩ (fun H locs hP hD hS => ?_)
            refine z_iconst hx hb dX8_tableOf_77 ?_
            refine ct_Vi (VC_fix E cI cC) (ZC_ok E cI cC T) (ZC_bl E cI cC T) hZ S0 (kX4_countOf l D E cI cC (ZC E cI cC T) (ZC_ok E cI cC T) (ZC_bl E cI cC T) (fX8_heard M table) (4) (by omega) (SI_heard hC hQ table) (fX4_countOf (fX8_heard M table) (4)) rfl) (cwV 1 hts gX8_tableOf_X4_countOf rfl rfl rfl (by decide +kernel) ⟨(Nat.le_of_ble_eq_true rfl), (Nat.le_of_ble_eq_true rfl)⟩) hK hP hD hS rfl rfl VC_4 rfl hl.1 rfl (Nat.le_of_ble_eq_true rfl) dX8_tableOf_78 ⟨(Nat.le_of_ble_eq_true rfl), (Nat.le_of_ble_eq_true rfl)⟩ (fun H locs hP hD hS => ?_)
            have q9 := rg_X4_countOf (SI_heard hC hQ table) (4)
            obtain ⟨e0, e9⟩ := Prod.mk.inj hE
            obtain ⟨e1, e2⟩ := Prod.mk.inj e9
            subst e2
            exact cx_i hx hb hr hlocks e0 e1 rfl hS hP (Nat.le_of_ble_eq_true rfl) (Nat.le_of_ble_eq_true rfl) dX8_tableOf_81
          · rw [if_neg b8] at hE
            by_cases b10 : (what = 4)
            · rw [if_pos b10] at hE
              refine z_table hx hb dX8_tableOf_6 (k0 := 4) (tgt := 82) (by omega) b10 (by decide) (by decide) rfl rfl ?_
              refine lv_aload_n hx hb dX8_tableOf_82 rfl (lv_at hl 0 rfl) ?_
              refine va_get (own := RX8) (ref := "NapkinSyntax") (C := RX8) (T := TX8) (N := 12) hx hb hts hinX8 hown hK hP 0 VC_0 rfl 1 (Nat.le_of_ble_eq_true rfl) (hts (.fieldLink RX8 20 "NapkinSyntax" "now" "LNapkinSyntax$State;") (by decide +kernel)) (fun _ h => h) (v := .ref (E 2)) rfl dX8_tableOf_83 ?_
              refine lv_iload_n hx hb dX8_tableOf_86 rfl (lv_at hl 1 rfl) ?_
              refine ct_Vi (VC_fix E cI cC) (ZC_ok E cI cC T) (ZC_bl E cI cC T) hZ S0 (kX6_readingsOf l D E cI cC (ZC E cI cC T) (ZC_ok E cI cC T) (ZC_bl E cI cC T) M table (by omega) (fX6_readingsOf M table) rfl) (cwV 1 hts gX8_tableOf_X6_readingsOf rfl rfl rfl (by decide +kernel) ⟨(Nat.le_of_ble_eq_true rfl), (Nat.le_of_ble_eq_true rfl)⟩) hK hP hD hS rfl rfl VC_2 rfl hl.1 rfl (Nat.le_of_ble_eq_true rfl) dX8_tableOf_87 ⟨(Nat.le_of_ble_eq_true rfl), (Nat.le_of_ble_eq_true rfl)⟩ (fun H locs hP hD hS => ?_)
              obtain ⟨e0, e9⟩ := Prod.mk.inj hE
              obtain ⟨e1, e2⟩ := Prod.mk.inj e9
              subst e2
              exact cx_i hx hb hr hlocks e0 e1 rfl hS hP (Nat.le_of_ble_eq_true rfl) (Nat.le_of_ble_eq_true rfl) dX8_tableOf_90
            · rw [if_neg b10] at hE
              by_cases b11 : (what = 5)
              · rw [if_pos b11] at hE
                refine z_table hx hb dX8_tableOf_6 (k0 := 5) (tgt := 91) (by omega) b11 (by decide) (by decide) rfl rfl ?_
                refine lv_aload_n hx hb dX8_tableOf_91 rfl (lv_at hl 0 rfl) ?_
                refine va_get (own := RX8) (ref := "NapkinSyntax") (C := RX8) (T := TX8) (N := 12) hx hb hts hinX8 hown hK hP 0 VC_0 rfl 1 (Nat.le_of_ble_eq_true rfl) (hts (.fieldLink RX8 20 "NapkinSyntax" "now" "LNapkinSyntax$State;") (by decide +kernel)) (fun _ h => h) (v := .ref (E 2)) rfl dX8_tableOf_92 ?_
                refine lv_iload_n hx hb dX8_tableOf_95 rfl (lv_at hl 1 rfl) ?_
                refine ct_Vi (VC_fix E cI cC) (ZC_ok E cI cC T) (ZC_bl E cI cC T) hZ S0 (kX6_puzzlesOf l D E cI cC (ZC E cI cC T) (ZC_ok E cI cC T) (ZC_bl E cI cC T) M table (by omega) (fX6_puzzlesOf M table) rfl) (cwV 1 hts gX8_tableOf_X6_puzzlesOf rfl rfl rfl (by decide +kernel) ⟨(Nat.le_of_ble_eq_true rfl), (Nat.le_of_ble_eq_true rfl)⟩) hK hP hD hS rfl rfl VC_2 rfl hl.1 rfl (Nat.le_of_ble_eq_true rfl) dX8_tableOf_96 ⟨(Nat.le_of_ble_eq_true rfl), (Nat.le_of_ble_eq_true rfl)⟩ (fun H locs hP hD hS => ?_)
                obtain ⟨e0, e9⟩ := Prod.mk.inj hE
                obtain ⟨e1, e2⟩ := Prod.mk.inj e9
                subst e2
                exact cx_i hx hb hr hlocks e0 e1 rfl hS hP (Nat.le_of_ble_eq_true rfl) (Nat.le_of_ble_eq_true rfl) dX8_tableOf_99
              · rw [if_neg b11] at hE
                refine z_tableD hx hb dX8_tableOf_6 (tgt := 100) (by omega) (by omega) rfl ?_
                obtain ⟨e0, e1⟩ := Prod.mk.inj hE
                obtain ⟨-, e2⟩ := Prod.mk.inj e1
                subst e2
                exact cx_throw (k := 2) rfl hx hb hst hts hown (by decide +kernel) xn_fit (by decide +kernel) (by decide +kernel) (ZC_t170 hZ) (fun w h => List.mem_cons_of_mem _ (List.mem_append_left _ (List.mem_append_left _ (List.mem_append_right _ h)))) xb_2 xg_2 (ZC_d1 hZ) (ZC_d2 hZ) (ZC_d3 hZ) (ZC_x2 hZ) (ZC_us hZ M) (ZC_ss hZ M) hS hP (hl.1.trans hml.symm) dX8_tableOf_100 dX8_tableOf_103 dX8_tableOf_104 dX8_tableOf_106 dX8_tableOf_109 hout (Nat.le_of_ble_eq_true rfl) (Nat.le_of_ble_eq_true rfl) (Nat.le_of_ble_eq_true rfl) (Nat.le_of_ble_eq_true rfl) hlocks (by decide) e0 (Nat.le_of_ble_eq_true rfl) (Nat.le_of_ble_eq_true rfl)

theorem fr_fX8_tableOf {M : Mem} (table what : Int) {r : Nat} (h1 : Nat.beq r 1 = false) (h2 : Nat.beq r 2 = false) (h3 : Nat.beq r 3 = false) (h4 : Nat.beq r 4 = false) (h7 : Nat.beq r 7 = false) : (fX8_tableOf M table what).2.2 r = M r := by
  unfold fX8_tableOf
  (repeat' with_reducible refine frite_x (fun _ => ?_) (fun _ => ?_)) <;> first | with_reducible rfl | simp only [mst_o, msf_o, mcp_o, fr_fX8_heard, h1, h2, h3, h4, h7]

def fX8_wrong (M : Mem) (table : Int) : Int × Int × Mem := if (fX8_checkTable M table) = 0 then ((0), (fX4_errorByNapkins (fX8_heard M table)), (fX8_heard M table)) else ((fX8_checkTable M table), (0), M)
set_option maxRecDepth 100000 in
set_option maxHeartbeats 4000000 in
theorem kX8_wrong (l : Launch) (hst : l.stackTraces = false) (D : va_G) (E : Nat → Nat) (cI cC : ClassId) (T : Nat → Nat) (M : Mem) (table : Int) (h1 : -2147483648 ≤ table ∧ table < 2147483648) (hC : CI M) (hQ : SI M) (kx r : Int) (M' : Mem) (hE : fX8_wrong M table = (kx, r, M')) : Cx l yX8_wrong wsX8_wrong 7 103 1 [.ref (E 0), .int (iI table)] D (TY cI cC) (VC E cI cC) (ZC E cI cC T) M kx (some (.int (iI r))) M' := by
  refine Cx.of (cc := cX8_wrong) (maxL := 2) (ret := (some .int)) (by decide +kernel) rfl (Nat.le_of_ble_eq_true rfl) ?_
  intro p e s m args below meth c ls hx hb hml hr hown hts hlocks hP hK hD hZ hS hout hl
  have hl : lv_has ls 2 [(0, .ref (E 0)), (1, .int (iI table))] := hl
  have S0 : CallFix p m c cX8_wrong 2 s args wsX8_wrong RX8 := ⟨hx, hb, hml, hown, hts⟩
  rw [fX8_wrong] at hE
  refine lv_aload_n hx hb dX8_wrong_0 rfl (lv_at hl 0 rfl) ?_
  refine lv_iload_n hx hb dX8_wrong_1 rfl (lv_at hl 1 rfl) ?_
  refine ct_Vxv (VC_fix E cI cC) (ZC_ok E cI cC T) (ZC_bl E cI cC T) hZ S0 (kX8_checkTable l hst D E cI cC T M table (by omega) (fX8_checkTable M table) rfl) (cwV 1 hts gX8_wrong_X8_checkTable rfl rfl rfl (by decide +kernel) ⟨(Nat.le_of_ble_eq_true rfl), (Nat.le_of_ble_eq_true rfl)⟩) hK hP hD hS rfl rfl VC_0 rfl hl.1 rfl (Nat.le_of_ble_eq_true rfl) dX8_wrong_2 ⟨(Nat.le_of_ble_eq_true rfl), (Nat.le_of_ble_eq_true rfl)⟩ hout hlocks (Nat.le_of_ble_eq_true rfl) (Nat.le_of_ble_eq_true rfl) (fun b1 => ?_) (fun b1 H locs hP hD hS => ?_)
  · rw [if_neg b1] at hE
    obtain ⟨e0, e1⟩ := Prod.mk.inj hE
    exact ⟨e0, (Prod.mk.inj e1).2⟩
  · rw [if_pos b1] at hE
    refine lv_aload_n hx hb dX8_wrong_5 rfl (lv_at hl 0 rfl) ?_
    refine lv_iload_n hx hb dX8_wrong_6 rfl (lv_at hl 1 rfl) ?_
    refine ct_Vr (VC_fix E cI cC) (ZC_ok E cI cC T) (ZC_bl E cI cC T) hZ S0 (kX8_heard l D E cI cC (ZC E cI cC T) (ZC_ok E cI cC T) (ZC_bl E cI cC T) M table (by omega) hC (fX8_heard M table) rfl) (cwV 1 hts gX8_wrong_X8_heard rfl rfl rfl (by decide +kernel) ⟨(Nat.le_of_ble_eq_true rfl), (Nat.le_of_ble_eq_true rfl)⟩) hK hP hD hS rfl rfl VC_0 rfl hl.1 rfl (Nat.le_of_ble_eq_true rfl) dX8_wrong_7 ⟨(Nat.le_of_ble_eq_true rfl), (Nat.le_of_ble_eq_true rfl)⟩ (fun H locs hP hD hS => ?_)
    refine ct_Vi (VC_fix E cI cC) (ZC_ok E cI cC T) (ZC_bl E cI cC T) hZ S0 (kX4_errorByNapkins l D E cI cC (ZC E cI cC T) (ZC_ok E cI cC T) (ZC_bl E cI cC T) (fX8_heard M table) (SI_heard hC hQ table) (fX4_errorByNapkins (fX8_heard M table)) rfl) (cwV 0 hts gX8_wrong_X4_errorByNapkins rfl rfl rfl (by decide +kernel) ⟨(Nat.le_of_ble_eq_true rfl), (Nat.le_of_ble_eq_true rfl)⟩) hK hP hD hS rfl rfl VC_4 rfl hl.1 rfl (Nat.le_of_ble_eq_true rfl) dX8_wrong_10 ⟨(Nat.le_of_ble_eq_true rfl), (Nat.le_of_ble_eq_true rfl)⟩ (fun H locs hP hD hS => ?_)
    have q2 := rg_X4_errorByNapkins (SI_heard hC hQ table)
    obtain ⟨e0, e9⟩ := Prod.mk.inj hE
    obtain ⟨e1, e2⟩ := Prod.mk.inj e9
    subst e2
    exact cx_i hx hb hr hlocks e0 e1 rfl hS hP (Nat.le_of_ble_eq_true rfl) (Nat.le_of_ble_eq_true rfl) dX8_wrong_13

theorem fr_fX8_wrong {M : Mem} (table : Int) {r : Nat} (h1 : Nat.beq r 1 = false) (h2 : Nat.beq r 2 = false) (h3 : Nat.beq r 3 = false) (h4 : Nat.beq r 4 = false) (h7 : Nat.beq r 7 = false) : (fX8_wrong M table).2.2 r = M r := by
  unfold fX8_wrong
  (repeat' with_reducible refine frite_x (fun _ => ?_) (fun _ => ?_)) <;> first | with_reducible rfl | simp only [mst_o, msf_o, mcp_o, fr_fX8_heard, h1, h2, h3, h4, h7]

def fX8_wrongAgain (M : Mem) (table : Int) : Int × Int × Mem := if (fX8_checkTable M table) = 0 then ((0), (fX4_errorByPhrases (fX8_heard M table)), (fX8_heard M table)) else ((fX8_checkTable M table), (0), M)
set_option maxRecDepth 100000 in
set_option maxHeartbeats 4000000 in
theorem kX8_wrongAgain (l : Launch) (hst : l.stackTraces = false) (D : va_G) (E : Nat → Nat) (cI cC : ClassId) (T : Nat → Nat) (M : Mem) (table : Int) (h1 : -2147483648 ≤ table ∧ table < 2147483648) (hC : CI M) (hQ : SI M) (kx r : Int) (M' : Mem) (hE : fX8_wrongAgain M table = (kx, r, M')) : Cx l yX8_wrongAgain wsX8_wrongAgain 7 103 1 [.ref (E 0), .int (iI table)] D (TY cI cC) (VC E cI cC) (ZC E cI cC T) M kx (some (.int (iI r))) M' := by
  refine Cx.of (cc := cX8_wrongAgain) (maxL := 2) (ret := (some .int)) (by decide +kernel) rfl (Nat.le_of_ble_eq_true rfl) ?_
  intro p e s m args below meth c ls hx hb hml hr hown hts hlocks hP hK hD hZ hS hout hl
  have hl : lv_has ls 2 [(0, .ref (E 0)), (1, .int (iI table))] := hl
  have S0 : CallFix p m c cX8_wrongAgain 2 s args wsX8_wrongAgain RX8 := ⟨hx, hb, hml, hown, hts⟩
  rw [fX8_wrongAgain] at hE
  refine lv_aload_n hx hb dX8_wrongAgain_0 rfl (lv_at hl 0 rfl) ?_
  refine lv_iload_n hx hb dX8_wrongAgain_1 rfl (lv_at hl 1 rfl) ?_
  refine ct_Vxv (VC_fix E cI cC) (ZC_ok E cI cC T) (ZC_bl E cI cC T) hZ S0 (kX8_checkTable l hst D E cI cC T M table (by omega) (fX8_checkTable M table) rfl) (cwV 1 hts gX8_wrongAgain_X8_checkTable rfl rfl rfl (by decide +kernel) ⟨(Nat.le_of_ble_eq_true rfl), (Nat.le_of_ble_eq_true rfl)⟩) hK hP hD hS rfl rfl VC_0 rfl hl.1 rfl (Nat.le_of_ble_eq_true rfl) dX8_wrongAgain_2 ⟨(Nat.le_of_ble_eq_true rfl), (Nat.le_of_ble_eq_true rfl)⟩ hout hlocks (Nat.le_of_ble_eq_true rfl) (Nat.le_of_ble_eq_true rfl) (fun b1 => ?_) (fun b1 H locs hP hD hS => ?_)
  · rw [if_neg b1] at hE
    obtain ⟨e0, e1⟩ := Prod.mk.inj hE
    exact ⟨e0, (Prod.mk.inj e1).2⟩
  · rw [if_pos b1] at hE
    refine lv_aload_n hx hb dX8_wrongAgain_5 rfl (lv_at hl 0 rfl) ?_
    refine lv_iload_n hx hb dX8_wrongAgain_6 rfl (lv_at hl 1 rfl) ?_
    refine ct_Vr (VC_fix E cI cC) (ZC_ok E cI cC T) (ZC_bl E cI cC T) hZ S0 (kX8_heard l D E cI cC (ZC E cI cC T) (ZC_ok E cI cC T) (ZC_bl E cI cC T) M table (by omega) hC (fX8_heard M table) rfl) (cwV 1 hts gX8_wrongAgain_X8_heard rfl rfl rfl (by decide +kernel) ⟨(Nat.le_of_ble_eq_true rfl), (Nat.le_of_ble_eq_true rfl)⟩) hK hP hD hS rfl rfl VC_0 rfl hl.1 rfl (Nat.le_of_ble_eq_true rfl) dX8_wrongAgain_7 ⟨(Nat.le_of_ble_eq_true rfl), (Nat.le_of_ble_eq_true rfl)⟩ (fun H locs hP hD hS => ?_)
    refine ct_Vi (VC_fix E cI cC) (ZC_ok E cI cC T) (ZC_bl E cI cC T) hZ S0 (kX4_errorByPhrases l D E cI cC (ZC E cI cC T) (ZC_ok E cI cC T) (ZC_bl E cI cC T) (fX8_heard M table) (SI_heard hC hQ table) (fX4_errorByPhrases (fX8_heard M table)) rfl) (cwV 0 hts gX8_wrongAgain_X4_errorByPhrases rfl rfl rfl (by decide +kernel) ⟨(Nat.le_of_ble_eq_true rfl), (Nat.le_of_ble_eq_true rfl)⟩) hK hP hD hS rfl rfl VC_4 rfl hl.1 rfl (Nat.le_of_ble_eq_true rfl) dX8_wrongAgain_10 ⟨(Nat.le_of_ble_eq_true rfl), (Nat.le_of_ble_eq_true rfl)⟩ (fun H locs hP hD hS => ?_)
    have q2 := rg_X4_errorByPhrases (SI_heard hC hQ table)
    obtain ⟨e0, e9⟩ := Prod.mk.inj hE
    obtain ⟨e1, e2⟩ := Prod.mk.inj e9
    subst e2
    exact cx_i hx hb hr hlocks e0 e1 rfl hS hP (Nat.le_of_ble_eq_true rfl) (Nat.le_of_ble_eq_true rfl) dX8_wrongAgain_13

theorem fr_fX8_wrongAgain {M : Mem} (table : Int) {r : Nat} (h1 : Nat.beq r 1 = false) (h2 : Nat.beq r 2 = false) (h3 : Nat.beq r 3 = false) (h4 : Nat.beq r 4 = false) (h7 : Nat.beq r 7 = false) : (fX8_wrongAgain M table).2.2 r = M r := by
  unfold fX8_wrongAgain
  (repeat' with_reducible refine frite_x (fun _ => ?_) (fun _ => ?_)) <;> first | with_reducible rfl | simp only [mst_o, msf_o, mcp_o, fr_fX8_heard, h1, h2, h3, h4, h7]

def fX8_isRight (M : Mem) (table : Int) : Int × Int × Mem := if (fX8_checkTable M table) = 0 then ((0), (fX4_isWhole (fX8_heard M table)), (fX8_heard M table)) else ((fX8_checkTable M table), (0), M)
set_option maxRecDepth 100000 in
set_option maxHeartbeats 4000000 in
theorem kX8_isRight (l : Launch) (hst : l.stackTraces = false) (D : va_G) (E : Nat → Nat) (cI cC : ClassId) (T : Nat → Nat) (M : Mem) (table : Int) (h1 : -2147483648 ≤ table ∧ table < 2147483648) (hC : CI M) (hQ : SI M) (kx r : Int) (M' : Mem) (hE : fX8_isRight M table = (kx, r, M')) : Cx l yX8_isRight wsX8_isRight 7 103 1 [.ref (E 0), .int (iI table)] D (TY cI cC) (VC E cI cC) (ZC E cI cC T) M kx (some (.int (iI r))) M' := by
  refine Cx.of (cc := cX8_isRight) (maxL := 2) (ret := (some .boolean)) (by decide +kernel) rfl (Nat.le_of_ble_eq_true rfl) ?_
  intro p e s m args below meth c ls hx hb hml hr hown hts hlocks hP hK hD hZ hS hout hl
  have hl : lv_has ls 2 [(0, .ref (E 0)), (1, .int (iI table))] := hl
  have S0 : CallFix p m c cX8_isRight 2 s args wsX8_isRight RX8 := ⟨hx, hb, hml, hown, hts⟩
  rw [fX8_isRight] at hE
  refine lv_aload_n hx hb dX8_isRight_0 rfl (lv_at hl 0 rfl) ?_
  refine lv_iload_n hx hb dX8_isRight_1 rfl (lv_at hl 1 rfl) ?_
  refine ct_Vxv (VC_fix E cI cC) (ZC_ok E cI cC T) (ZC_bl E cI cC T) hZ S0 (kX8_checkTable l hst D E cI cC T M table (by omega) (fX8_checkTable M table) rfl) (cwV 1 hts gX8_isRight_X8_checkTable rfl rfl rfl (by decide +kernel) ⟨(Nat.le_of_ble_eq_true rfl), (Nat.le_of_ble_eq_true rfl)⟩) hK hP hD hS rfl rfl VC_0 rfl hl.1 rfl (Nat.le_of_ble_eq_true rfl) dX8_isRight_2 ⟨(Nat.le_of_ble_eq_true rfl), (Nat.le_of_ble_eq_true rfl)⟩ hout hlocks (Nat.le_of_ble_eq_true rfl) (Nat.le_of_ble_eq_true rfl) (fun b1 => ?_) (fun b1 H locs hP hD hS => ?_)
  · rw [if_neg b1] at hE
    obtain ⟨e0, e1⟩ := Prod.mk.inj hE
    exact ⟨e0, (Prod.mk.inj e1).2⟩
  · rw [if_pos b1] at hE
    refine lv_aload_n hx hb dX8_isRight_5 rfl (lv_at hl 0 rfl) ?_
    refine lv_iload_n hx hb dX8_isRight_6 rfl (lv_at hl 1 rfl) ?_
    refine ct_Vr (VC_fix E cI cC) (ZC_ok E cI cC T) (ZC_bl E cI cC T) hZ S0 (kX8_heard l D E cI cC (ZC E cI cC T) (ZC_ok E cI cC T) (ZC_bl E cI cC T) M table (by omega) hC (fX8_heard M table) rfl) (cwV 1 hts gX8_isRight_X8_heard rfl rfl rfl (by decide +kernel) ⟨(Nat.le_of_ble_eq_true rfl), (Nat.le_of_ble_eq_true rfl)⟩) hK hP hD hS rfl rfl VC_0 rfl hl.1 rfl (Nat.le_of_ble_eq_true rfl) dX8_isRight_7 ⟨(Nat.le_of_ble_eq_true rfl), (Nat.le_of_ble_eq_true rfl)⟩ (fun H locs hP hD hS => ?_)
    refine ct_Vi (VC_fix E cI cC) (ZC_ok E cI cC T) (ZC_bl E cI cC T) hZ S0 (kX4_isWhole l D E cI cC (ZC E cI cC T) (ZC_ok E cI cC T) (ZC_bl E cI cC T) (fX8_heard M table) (SI_heard hC hQ table) (fX4_isWhole (fX8_heard M table)) rfl) (cwV 0 hts gX8_isRight_X4_isWhole rfl rfl rfl (by decide +kernel) ⟨(Nat.le_of_ble_eq_true rfl), (Nat.le_of_ble_eq_true rfl)⟩) hK hP hD hS rfl rfl VC_4 rfl hl.1 rfl (Nat.le_of_ble_eq_true rfl) dX8_isRight_10 ⟨(Nat.le_of_ble_eq_true rfl), (Nat.le_of_ble_eq_true rfl)⟩ (fun H locs hP hD hS => ?_)
    have q2 := bX4_isWhole (fX8_heard M table)
    obtain ⟨e0, e9⟩ := Prod.mk.inj hE
    obtain ⟨e1, e2⟩ := Prod.mk.inj e9
    subst e2
    exact cx_i hx hb hr hlocks e0 e1 (nr_bb (by omega) (by omega)) hS hP (Nat.le_of_ble_eq_true rfl) (Nat.le_of_ble_eq_true rfl) dX8_isRight_13

theorem fr_fX8_isRight {M : Mem} (table : Int) {r : Nat} (h1 : Nat.beq r 1 = false) (h2 : Nat.beq r 2 = false) (h3 : Nat.beq r 3 = false) (h4 : Nat.beq r 4 = false) (h7 : Nat.beq r 7 = false) : (fX8_isRight M table).2.2 r = M r := by
  unfold fX8_isRight
  (repeat' with_reducible refine frite_x (fun _ => ?_) (fun _ => ?_)) <;> first | with_reducible rfl | simp only [mst_o, msf_o, mcp_o, fr_fX8_heard, h1, h2, h3, h4, h7]

def fX8_phrases (M : Mem) (table : Int) : Int × Int × Mem := if (fX8_checkTable M table) = 0 then ((0), (fX4_phraseCount (fX8_heard M table)), (fX8_heard M table)) else ((fX8_checkTable M table), (0), M)
set_option maxRecDepth 100000 in
set_option maxHeartbeats 4000000 in
theorem kX8_phrases (l : Launch) (hst : l.stackTraces = false) (D : va_G) (E : Nat → Nat) (cI cC : ClassId) (T : Nat → Nat) (M : Mem) (table : Int) (h1 : -2147483648 ≤ table ∧ table < 2147483648) (hC : CI M) (hQ : SI M) (kx r : Int) (M' : Mem) (hE : fX8_phrases M table = (kx, r, M')) : Cx l yX8_phrases wsX8_phrases 7 103 1 [.ref (E 0), .int (iI table)] D (TY cI cC) (VC E cI cC) (ZC E cI cC T) M kx (some (.int (iI r))) M' := by
  refine Cx.of (cc := cX8_phrases) (maxL := 2) (ret := (some .int)) (by decide +kernel) rfl (Nat.le_of_ble_eq_true rfl) ?_
  intro p e s m args below meth c ls hx hb hml hr hown hts hlocks hP hK hD hZ hS hout hl
  have hl : lv_has ls 2 [(0, .ref (E 0)), (1, .int (iI table))] := hl
  have S0 : CallFix p m c cX8_phrases 2 s args wsX8_phrases RX8 := ⟨hx, hb, hml, hown, hts⟩
  rw [fX8_phrases] at hE
  refine lv_aload_n hx hb dX8_phrases_0 rfl (lv_at hl 0 rfl) ?_
  refine lv_iload_n hx hb dX8_phrases_1 rfl (lv_at hl 1 rfl) ?_
  refine ct_Vxv (VC_fix E cI cC) (ZC_ok E cI cC T) (ZC_bl E cI cC T) hZ S0 (kX8_checkTable l hst D E cI cC T M table (by omega) (fX8_checkTable M table) rfl) (cwV 1 hts gX8_phrases_X8_checkTable rfl rfl rfl (by decide +kernel) ⟨(Nat.le_of_ble_eq_true rfl), (Nat.le_of_ble_eq_true rfl)⟩) hK hP hD hS rfl rfl VC_0 rfl hl.1 rfl (Nat.le_of_ble_eq_true rfl) dX8_phrases_2 ⟨(Nat.le_of_ble_eq_true rfl), (Nat.le_of_ble_eq_true rfl)⟩ hout hlocks (Nat.le_of_ble_eq_true rfl) (Nat.le_of_ble_eq_true rfl) (fun b1 => ?_) (fun b1 H locs hP hD hS => ?_)
  · rw [if_neg b1] at hE
    obtain ⟨e0, e1⟩ := Prod.mk.inj hE
    exact ⟨e0, (Prod.mk.inj e1).2⟩
  · rw [if_pos b1] at hE
    refine lv_aload_n hx hb dX8_phrases_5 rfl (lv_at hl 0 rfl) ?_
    refine lv_iload_n hx hb dX8_phrases_6 rfl (lv_at hl 1 rfl) ?_
    refine ct_Vr (VC_fix E cI cC) (ZC_ok E cI cC T) (ZC_bl E cI cC T) hZ S0 (kX8_heard l D E cI cC (ZC E cI cC T) (ZC_ok E cI cC T) (ZC_bl E cI cC T) M table (by omega) hC (fX8_heard M table) rfl) (cwV 1 hts gX8_phrases_X8_heard rfl rfl rfl (by decide +kernel) ⟨(Nat.le_of_ble_eq_true rfl), (Nat.le_of_ble_eq_true rfl)⟩) hK hP hD hS rfl rfl VC_0 rfl hl.1 rfl (Nat.le_of_ble_eq_true rfl) dX8_phrases_7 ⟨(Nat.le_of_ble_eq_true rfl), (Nat.le_of_ble_eq_true rfl)⟩ (fun H locs hP hD hS => ?_)
    refine ct_Vi (VC_fix E cI cC) (ZC_ok E cI cC T) (ZC_bl E cI cC T) hZ S0 (kX4_phraseCount l D E cI cC (ZC E cI cC T) (ZC_ok E cI cC T) (ZC_bl E cI cC T) (fX8_heard M table) (SI_heard hC hQ table) (fX4_phraseCount (fX8_heard M table)) rfl) (cwV 0 hts gX8_phrases_X4_phraseCount rfl rfl rfl (by decide +kernel) ⟨(Nat.le_of_ble_eq_true rfl), (Nat.le_of_ble_eq_true rfl)⟩) hK hP hD hS rfl rfl VC_4 rfl hl.1 rfl (Nat.le_of_ble_eq_true rfl) dX8_phrases_10 ⟨(Nat.le_of_ble_eq_true rfl), (Nat.le_of_ble_eq_true rfl)⟩ (fun H locs hP hD hS => ?_)
    have q2 := rg_X4_phraseCount (SI_heard hC hQ table)
    obtain ⟨e0, e9⟩ := Prod.mk.inj hE
    obtain ⟨e1, e2⟩ := Prod.mk.inj e9
    subst e2
    exact cx_i hx hb hr hlocks e0 e1 rfl hS hP (Nat.le_of_ble_eq_true rfl) (Nat.le_of_ble_eq_true rfl) dX8_phrases_13

theorem fr_fX8_phrases {M : Mem} (table : Int) {r : Nat} (h1 : Nat.beq r 1 = false) (h2 : Nat.beq r 2 = false) (h3 : Nat.beq r 3 = false) (h4 : Nat.beq r 4 = false) (h7 : Nat.beq r 7 = false) : (fX8_phrases M table).2.2 r = M r := by
  unfold fX8_phrases
  (repeat' with_reducible refine frite_x (fun _ => ?_) (fun _ => ?_)) <;> first | with_reducible rfl | simp only [mst_o, msf_o, mcp_o, fr_fX8_heard, h1, h2, h3, h4, h7]

def fX8_next (M : Mem) (table : Int) : Int × Int × Mem := if (fX8_checkTable M table) = 0 then ((0), (fX4_followers (fX8_heard M table)), (fX8_heard M table)) else ((fX8_checkTable M table), (0), M)
set_option maxRecDepth 100000 in
set_option maxHeartbeats 4000000 in
theorem kX8_next (l : Launch) (hst : l.stackTraces = false) (D : va_G) (E : Nat → Nat) (cI cC : ClassId) (T : Nat → Nat) (M : Mem) (table : Int) (h1 : -2147483648 ≤ table ∧ table < 2147483648) (hC : CI M) (hQ : SI M) (kx r : Int) (M' : Mem) (hE : fX8_next M table = (kx, r, M')) : Cx l yX8_next wsX8_next 7 103 1 [.ref (E 0), .int (iI table)] D (TY cI cC) (VC E cI cC) (ZC E cI cC T) M kx (some (.int (iI r))) M' := by
  refine Cx.of (cc := cX8_next) (maxL := 2) (ret := (some .int)) (by decide +kernel) rfl (Nat.le_of_ble_eq_true rfl) ?_
  intro p e s m args below meth c ls hx hb hml hr hown hts hlocks hP hK hD hZ hS hout hl
  have hl : lv_has ls 2 [(0, .ref (E 0)), (1, .int (iI table))] := hl
  have S0 : CallFix p m c cX8_next 2 s args wsX8_next RX8 := ⟨hx, hb, hml, hown, hts⟩
  rw [fX8_next] at hE
  refine lv_aload_n hx hb dX8_next_0 rfl (lv_at hl 0 rfl) ?_
  refine lv_iload_n hx hb dX8_next_1 rfl (lv_at hl 1 rfl) ?_
  refine ct_Vxv (VC_fix E cI cC) (ZC_ok E cI cC T) (ZC_bl E cI cC T) hZ S0 (kX8_checkTable l hst D E cI cC T M table (by omega) (fX8_checkTable M table) rfl) (cwV 1 hts gX8_next_X8_checkTable rfl rfl rfl (by decide +kernel) ⟨(Nat.le_of_ble_eq_true rfl), (Nat.le_of_ble_eq_true rfl)⟩) hK hP hD hS rfl rfl VC_0 rfl hl.1 rfl (Nat.le_of_ble_eq_true rfl) dX8_next_2 ⟨(Nat.le_of_ble_eq_true rfl), (Nat.le_of_ble_eq_true rfl)⟩ hout hlocks (Nat.le_of_ble_eq_true rfl) (Nat.le_of_ble_eq_true rfl) (fun b1 => ?_) (fun b1 H locs hP hD hS => ?_)
  · rw [if_neg b1] at hE
    obtain ⟨e0, e1⟩ := Prod.mk.inj hE
    exact ⟨e0, (Prod.mk.inj e1).2⟩
  · rw [if_pos b1] at hE
    refine lv_aload_n hx hb dX8_next_5 rfl (lv_at hl 0 rfl) ?_
    refine lv_iload_n hx hb dX8_next_6 rfl (lv_at hl 1 rfl) ?_
    refine ct_Vr (VC_fix E cI cC) (ZC_ok E cI cC T) (ZC_bl E cI cC T) hZ S0 (kX8_heard l D E cI cC (ZC E cI cC T) (ZC_ok E cI cC T) (ZC_bl E cI cC T) M table (by omega) hC (fX8_heard M table) rfl) (cwV 1 hts gX8_next_X8_heard rfl rfl rfl (by decide +kernel) ⟨(Nat.le_of_ble_eq_true rfl), (Nat.le_of_ble_eq_true rfl)⟩) hK hP hD hS rfl rfl VC_0 rfl hl.1 rfl (Nat.le_of_ble_eq_true rfl) dX8_next_7 ⟨(Nat.le_of_ble_eq_true rfl), (Nat.le_of_ble_eq_true rfl)⟩ (fun H locs hP hD hS => ?_)
    refine ct_Vi (VC_fix E cI cC) (ZC_ok E cI cC T) (ZC_bl E cI cC T) hZ S0 (kX4_followers l D E cI cC (ZC E cI cC T) (ZC_ok E cI cC T) (ZC_bl E cI cC T) (fX8_heard M table) (SI_heard hC hQ table) (fX4_followers (fX8_heard M table)) rfl) (cwV 0 hts gX8_next_X4_followers rfl rfl rfl (by decide +kernel) ⟨(Nat.le_of_ble_eq_true rfl), (Nat.le_of_ble_eq_true rfl)⟩) hK hP hD hS rfl rfl VC_4 rfl hl.1 rfl (Nat.le_of_ble_eq_true rfl) dX8_next_10 ⟨(Nat.le_of_ble_eq_true rfl), (Nat.le_of_ble_eq_true rfl)⟩ (fun H locs hP hD hS => ?_)
    obtain ⟨e0, e9⟩ := Prod.mk.inj hE
    obtain ⟨e1, e2⟩ := Prod.mk.inj e9
    subst e2
    exact cx_i hx hb hr hlocks e0 e1 rfl hS hP (Nat.le_of_ble_eq_true rfl) (Nat.le_of_ble_eq_true rfl) dX8_next_13

theorem fr_fX8_next {M : Mem} (table : Int) {r : Nat} (h1 : Nat.beq r 1 = false) (h2 : Nat.beq r 2 = false) (h3 : Nat.beq r 3 = false) (h4 : Nat.beq r 4 = false) (h7 : Nat.beq r 7 = false) : (fX8_next M table).2.2 r = M r := by
  unfold fX8_next
  (repeat' with_reducible refine frite_x (fun _ => ?_) (fun _ => ?_)) <;> first | with_reducible rfl | simp only [mst_o, msf_o, mcp_o, fr_fX8_heard, h1, h2, h3, h4, h7]

def fX8_fewest (M : Mem) (table : Int) : Int × Int × Mem := if (fX8_checkTable M table) = 0 then if ((fX4_fewestBySets (fX8_heard M table)) = (-1)) then ((4), (0), (fX8_heard M table)) else ((0), (fX4_fewestBySets (fX8_heard M table)), (fX8_heard M table)) else ((fX8_checkTable M table), (0), M)
set_option maxRecDepth 100000 in
set_option maxHeartbeats 4000000 in
theorem kX8_fewest (l : Launch) (hst : l.stackTraces = false) (D : va_G) (E : Nat → Nat) (cI cC : ClassId) (T : Nat → Nat) (M : Mem) (table : Int) (h1 : -2147483648 ≤ table ∧ table < 2147483648) (hC : CI M) (hQ : SI M) (kx r : Int) (M' : Mem) (hE : fX8_fewest M table = (kx, r, M')) : Cx l yX8_fewest wsX8_fewest 7 103 2 [.ref (E 0), .int (iI table)] D (TY cI cC) (VC E cI cC) (ZC E cI cC T) M kx (some (.int (iI r))) M' := by
  refine Cx.of (cc := cX8_fewest) (maxL := 3) (ret := (some .int)) (by decide +kernel) rfl (Nat.le_of_ble_eq_true rfl) ?_
  intro p e s m args below meth c ls hx hb hml hr hown hts hlocks hP hK hD hZ hS hout hl
  have hl : lv_has ls 3 [(0, .ref (E 0)), (1, .int (iI table))] := hl
  have S0 : CallFix p m c cX8_fewest 3 s args wsX8_fewest RX8 := ⟨hx, hb, hml, hown, hts⟩
  rw [fX8_fewest] at hE
  refine lv_aload_n hx hb dX8_fewest_0 rfl (lv_at hl 0 rfl) ?_
  refine lv_iload_n hx hb dX8_fewest_1 rfl (lv_at hl 1 rfl) ?_
  refine ct_Vxv (VC_fix E cI cC) (ZC_ok E cI cC T) (ZC_bl E cI cC T) hZ S0 (kX8_checkTable l hst D E cI cC T M table (by omega) (fX8_checkTable M table) rfl) (cwV 1 hts gX8_fewest_X8_checkTable rfl rfl rfl (by decide +kernel) ⟨(Nat.le_of_ble_eq_true rfl), (Nat.le_of_ble_eq_true rfl)⟩) hK hP hD hS rfl rfl VC_0 rfl hl.1 rfl (Nat.le_of_ble_eq_true rfl) dX8_fewest_2 ⟨(Nat.le_of_ble_eq_true rfl), (Nat.le_of_ble_eq_true rfl)⟩ hout hlocks (Nat.le_of_ble_eq_true rfl) (Nat.le_of_ble_eq_true rfl) (fun b1 => ?_) (fun b1 H locs hP hD hS => ?_)
  · rw [if_neg b1] at hE
    obtain ⟨e0, e1⟩ := Prod.mk.inj hE
    exact ⟨e0, (Prod.mk.inj e1).2⟩
  · rw [if_pos b1] at hE
    refine lv_aload_n hx hb dX8_fewest_5 rfl (lv_at hl 0 rfl) ?_
    refine lv_iload_n hx hb dX8_fewest_6 rfl (lv_at hl 1 rfl) ?_
    refine ct_Vr (VC_fix E cI cC) (ZC_ok E cI cC T) (ZC_bl E cI cC T) hZ S0 (kX8_heard l D E cI cC (ZC E cI cC T) (ZC_ok E cI cC T) (ZC_bl E cI cC T) M table (by omega) hC (fX8_heard M table) rfl) (cwV 1 hts gX8_fewest_X8_heard rfl rfl rfl (by decide +kernel) ⟨(Nat.le_of_ble_eq_true rfl), (Nat.le_of_ble_eq_true rfl)⟩) hK hP hD hS rfl rfl VC_0 rfl hl.1 rfl (Nat.le_of_ble_eq_true rfl) dX8_fewest_7 ⟨(Nat.le_of_ble_eq_true rfl), (Nat.le_of_ble_eq_true rfl)⟩ (fun H locs hP hD hS => ?_)
    refine ct_Vi (VC_fix E cI cC) (ZC_ok E cI cC T) (ZC_bl E cI cC T) hZ S0 (kX4_fewestBySets l D E cI cC (ZC E cI cC T) (ZC_ok E cI cC T) (ZC_bl E cI cC T) (fX8_heard M table) (SI_heard hC hQ table) (fX4_fewestBySets (fX8_heard M table)) rfl) (cwV 0 hts gX8_fewest_X4_fewestBySets rfl rfl rfl (by decide +kernel) ⟨(Nat.le_of_ble_eq_true rfl), (Nat.le_of_ble_eq_true rfl)⟩) hK hP hD hS rfl rfl VC_4 rfl hl.1 rfl (Nat.le_of_ble_eq_true rfl) dX8_fewest_10 ⟨(Nat.le_of_ble_eq_true rfl), (Nat.le_of_ble_eq_true rfl)⟩ (fun H locs hP hD hS => ?_)
    have q2 := rg_X4_fewestBySets (SI_heard hC hQ table)
    refine lv_istore_n hx hb dX8_fewest_13 rfl hl (Nat.le_of_ble_eq_true rfl) (lv' := [(2, .int (iI (fX4_fewestBySets (fX8_heard M table)))), (0, .ref (E 0)), (1, .int (iI table))]) rfl (fun ls hl => ?_)
    refine lv_iload_n hx hb dX8_fewest_14 rfl (lv_at hl 0 rfl) ?_
    refine z_iconst hx hb dX8_fewest_15 ?_
    refine z_icmp_ne hx hb dX8_fewest_16 (tgt := 29) rfl (by omega) (by omega) (fun b3 => ?_) (fun b3 => ?_)
    · rw [if_neg b3] at hE
      refine lv_iload_n hx hb dX8_fewest_29 rfl (lv_at hl 0 rfl) ?_
      obtain ⟨e0, e9⟩ := Prod.mk.inj hE
      obtain ⟨e1, e2⟩ := Prod.mk.inj e9
      subst e2
      exact cx_i hx hb hr hlocks e0 e1 rfl hS hP (Nat.le_of_ble_eq_true rfl) (Nat.le_of_ble_eq_true rfl) dX8_fewest_30
    · rw [if_pos b3] at hE
      obtain ⟨e0, e1⟩ := Prod.mk.inj hE
      obtain ⟨-, e2⟩ := Prod.mk.inj e1
      subst e2
      exact cx_throwN (k := 4) rfl hx hb hst hts hown (by decide +kernel) (by decide +kernel) (ZC_t225 hZ) (fun w h => List.mem_cons_of_mem _ (List.mem_append_left _ (List.mem_append_left _ (List.mem_append_right _ h)))) xb_4 xg_4 (ZC_d1 hZ) (ZC_d2 hZ) (ZC_d3 hZ) (ZC_x4 hZ) (ZC_us hZ M) (ZC_ss hZ M) hS hP (hl.1.trans hml.symm) dX8_fewest_19 dX8_fewest_22 dX8_fewest_23 dX8_fewest_25 dX8_fewest_28 hout (Nat.le_of_ble_eq_true rfl) (Nat.le_of_ble_eq_true rfl) (Nat.le_of_ble_eq_true rfl) (Nat.le_of_ble_eq_true rfl) hlocks (by decide) e0 (Nat.le_of_ble_eq_true rfl) (Nat.le_of_ble_eq_true rfl)

theorem fr_fX8_fewest {M : Mem} (table : Int) {r : Nat} (h1 : Nat.beq r 1 = false) (h2 : Nat.beq r 2 = false) (h3 : Nat.beq r 3 = false) (h4 : Nat.beq r 4 = false) (h7 : Nat.beq r 7 = false) : (fX8_fewest M table).2.2 r = M r := by
  unfold fX8_fewest
  (repeat' with_reducible refine frite_x (fun _ => ?_) (fun _ => ?_)) <;> first | with_reducible rfl | simp only [mst_o, msf_o, mcp_o, fr_fX8_heard, h1, h2, h3, h4, h7]

def fX8_fewestAgain (M : Mem) (table : Int) : Int × Int × Mem := if (fX8_checkTable M table) = 0 then if ((fX4_fewestByPoints (fX8_heard M table)).1 = (-1)) then ((4), (0), (fX4_fewestByPoints (fX8_heard M table)).2) else ((0), (fX4_fewestByPoints (fX8_heard M table)).1, (fX4_fewestByPoints (fX8_heard M table)).2) else ((fX8_checkTable M table), (0), M)
set_option maxRecDepth 100000 in
set_option maxHeartbeats 4000000 in
theorem kX8_fewestAgain (l : Launch) (hst : l.stackTraces = false) (D : va_G) (E : Nat → Nat) (cI cC : ClassId) (T : Nat → Nat) (M : Mem) (table : Int) (h1 : -2147483648 ≤ table ∧ table < 2147483648) (hC : CI M) (hQ : SI M) (kx r : Int) (M' : Mem) (hE : fX8_fewestAgain M table = (kx, r, M')) : Cx l yX8_fewestAgain wsX8_fewestAgain 7 103 2 [.ref (E 0), .int (iI table)] D (TY cI cC) (VC E cI cC) (ZC E cI cC T) M kx (some (.int (iI r))) M' := by
  refine Cx.of (cc := cX8_fewestAgain) (maxL := 3) (ret := (some .int)) (by decide +kernel) rfl (Nat.le_of_ble_eq_true rfl) ?_
  intro p e s m args below meth c ls hx hb hml hr hown hts hlocks hP hK hD hZ hS hout hl
  have hl : lv_has ls 3 [(0, .ref (E 0)), (1, .int (iI table))] := hl
  have S0 : CallFix p m c cX8_fewestAgain 3 s args wsX8_fewestAgain RX8 := ⟨hx, hb, hml, hown, hts⟩
  rw [fX8_fewestAgain] at hE
  refine lv_aload_n hx hb dX8_fewestAgain_0 rfl (lv_at hl 0 rfl) ?_
  refine lv_iload_n hx hb dX8_fewestAgain_1 rfl (lv_at hl 1 rfl) ?_
  refine ct_Vxv (VC_fix E cI cC) (ZC_ok E cI cC T) (ZC_bl E cI cC T) hZ S0 (kX8_checkTable l hst D E cI cC T M table (by omega) (fX8_checkTable M table) rfl) (cwV 1 hts gX8_fewestAgain_X8_checkTable rfl rfl rfl (by decide +kernel) ⟨(Nat.le_of_ble_eq_true rfl), (Nat.le_of_ble_eq_true rfl)⟩) hK hP hD hS rfl rfl VC_0 rfl hl.1 rfl (Nat.le_of_ble_eq_true rfl) dX8_fewestAgain_2 ⟨(Nat.le_of_ble_eq_true rfl), (Nat.le_of_ble_eq_true rfl)⟩ hout hlocks (Nat.le_of_ble_eq_true rfl) (Nat.le_of_ble_eq_true rfl) (fun b1 => ?_) (fun b1 H locs hP hD hS => ?_)
  · rw [if_neg b1] at hE
    obtain ⟨e0, e1⟩ := Prod.mk.inj hE
    exact ⟨e0, (Prod.mk.inj e1).2⟩
  · rw [if_pos b1] at hE
    refine lv_aload_n hx hb dX8_fewestAgain_5 rfl (lv_at hl 0 rfl) ?_
    refine lv_iload_n hx hb dX8_fewestAgain_6 rfl (lv_at hl 1 rfl) ?_
    refine ct_Vr (VC_fix E cI cC) (ZC_ok E cI cC T) (ZC_bl E cI cC T) hZ S0 (kX8_heard l D E cI cC (ZC E cI cC T) (ZC_ok E cI cC T) (ZC_bl E cI cC T) M table (by omega) hC (fX8_heard M table) rfl) (cwV 1 hts gX8_fewestAgain_X8_heard rfl rfl rfl (by decide +kernel) ⟨(Nat.le_of_ble_eq_true rfl), (Nat.le_of_ble_eq_true rfl)⟩) hK hP hD hS rfl rfl VC_0 rfl hl.1 rfl (Nat.le_of_ble_eq_true rfl) dX8_fewestAgain_7 ⟨(Nat.le_of_ble_eq_true rfl), (Nat.le_of_ble_eq_true rfl)⟩ (fun H locs hP hD hS => ?_)
    refine ct_Vi (VC_fix E cI cC) (ZC_ok E cI cC T) (ZC_bl E cI cC T) hZ S0 (kX4_fewestByPoints l D E cI cC (ZC E cI cC T) (ZC_ok E cI cC T) (ZC_bl E cI cC T) (fX8_heard M table) (SI_heard hC hQ table) (fX4_fewestByPoints (fX8_heard M table)).1 (fX4_fewestByPoints (fX8_heard M table)).2 (Prod.ext rfl rfl)) (cwV 0 hts gX8_fewestAgain_X4_fewestByPoints rfl rfl rfl (by decide +kernel) ⟨(Nat.le_of_ble_eq_true rfl), (Nat.le_of_ble_eq_true rfl)⟩) hK hP hD hS rfl rfl VC_4 rfl hl.1 rfl (Nat.le_of_ble_eq_true rfl) dX8_fewestAgain_10 ⟨(Nat.le_of_ble_eq_true rfl), (Nat.le_of_ble_eq_true rfl)⟩ (fun H locs hP hD hS => ?_)
    have q2 := rg_X4_fewestByPoints (fX8_heard M table)
    refine lv_istore_n hx hb dX8_fewestAgain_13 rfl hl (Nat.le_of_ble_eq_true rfl) (lv' := [(2, .int (iI (fX4_fewestByPoints (fX8_heard M table)).1)), (0, .ref (E 0)), (1, .int (iI table))]) rfl (fun ls hl => ?_)
    refine lv_iload_n hx hb dX8_fewestAgain_14 rfl (lv_at hl 0 rfl) ?_
    refine z_iconst hx hb dX8_fewestAgain_15 ?_
    refine z_icmp_ne hx hb dX8_fewestAgain_16 (tgt := 29) rfl (by omega) (by omega) (fun b3 => ?_) (fun b3 => ?_)
    · rw [if_neg b3] at hE
      refine lv_iload_n hx hb dX8_fewestAgain_29 rfl (lv_at hl 0 rfl) ?_
      obtain ⟨e0, e9⟩ := Prod.mk.inj hE
      obtain ⟨e1, e2⟩ := Prod.mk.inj e9
      subst e2
      exact cx_i hx hb hr hlocks e0 e1 rfl hS hP (Nat.le_of_ble_eq_true rfl) (Nat.le_of_ble_eq_true rfl) dX8_fewestAgain_30
    · rw [if_pos b3] at hE
      obtain ⟨e0, e1⟩ := Prod.mk.inj hE
      obtain ⟨-, e2⟩ := Prod.mk.inj e1
      subst e2
      exact cx_throwN (k := 4) rfl hx hb hst hts hown (by decide +kernel) (by decide +kernel) (ZC_t225 hZ) (fun w h => List.mem_cons_of_mem _ (List.mem_append_left _ (List.mem_append_left _ (List.mem_append_right _ h)))) xb_4 xg_4 (ZC_d1 hZ) (ZC_d2 hZ) (ZC_d3 hZ) (ZC_x4 hZ) (ZC_us hZ M) (ZC_ss hZ M) hS hP (hl.1.trans hml.symm) dX8_fewestAgain_19 dX8_fewestAgain_22 dX8_fewestAgain_23 dX8_fewestAgain_25 dX8_fewestAgain_28 hout (Nat.le_of_ble_eq_true rfl) (Nat.le_of_ble_eq_true rfl) (Nat.le_of_ble_eq_true rfl) (Nat.le_of_ble_eq_true rfl) hlocks (by decide) e0 (Nat.le_of_ble_eq_true rfl) (Nat.le_of_ble_eq_true rfl)

theorem fr_fX8_fewestAgain {M : Mem} (table : Int) {r : Nat} (h1 : Nat.beq r 1 = false) (h2 : Nat.beq r 2 = false) (h3 : Nat.beq r 3 = false) (h4 : Nat.beq r 4 = false) (h5 : Nat.beq r 5 = false) (h6 : Nat.beq r 6 = false) (h7 : Nat.beq r 7 = false) : (fX8_fewestAgain M table).2.2 r = M r := by
  unfold fX8_fewestAgain
  (repeat' with_reducible refine frite_x (fun _ => ?_) (fun _ => ?_)) <;> first | with_reducible rfl | simp only [mst_o, msf_o, mcp_o, fr_fX4_fewestByPoints, fr_fX8_heard, h1, h2, h3, h4, h5, h6, h7]

def fX8_doubt (M : Mem) (table : Int) : Int × Int × Mem := if (fX8_checkTable M table) = 0 then ((0), (fX4_doubtByNapkins (fX8_heard M table)), (fX8_heard M table)) else ((fX8_checkTable M table), (0), M)
set_option maxRecDepth 100000 in
set_option maxHeartbeats 4000000 in
theorem kX8_doubt (l : Launch) (hst : l.stackTraces = false) (D : va_G) (E : Nat → Nat) (cI cC : ClassId) (T : Nat → Nat) (M : Mem) (table : Int) (h1 : -2147483648 ≤ table ∧ table < 2147483648) (hC : CI M) (hQ : SI M) (kx r : Int) (M' : Mem) (hE : fX8_doubt M table = (kx, r, M')) : Cx l yX8_doubt wsX8_doubt 7 103 1 [.ref (E 0), .int (iI table)] D (TY cI cC) (VC E cI cC) (ZC E cI cC T) M kx (some (.int (iI r))) M' := by
  refine Cx.of (cc := cX8_doubt) (maxL := 2) (ret := (some .int)) (by decide +kernel) rfl (Nat.le_of_ble_eq_true rfl) ?_
  intro p e s m args below meth c ls hx hb hml hr hown hts hlocks hP hK hD hZ hS hout hl
  have hl : lv_has ls 2 [(0, .ref (E 0)), (1, .int (iI table))] := hl
  have S0 : CallFix p m c cX8_doubt 2 s args wsX8_doubt RX8 := ⟨hx, hb, hml, hown, hts⟩
  rw [fX8_doubt] at hE
  refine lv_aload_n hx hb dX8_doubt_0 rfl (lv_at hl 0 rfl) ?_
  refine lv_iload_n hx hb dX8_doubt_1 rfl (lv_at hl 1 rfl) ?_
  refine ct_Vxv (VC_fix E cI cC) (ZC_ok E cI cC T) (ZC_bl E cI cC T) hZ S0 (kX8_checkTable l hst D E cI cC T M table (by omega) (fX8_checkTable M table) rfl) (cwV 1 hts gX8_doubt_X8_checkTable rfl rfl rfl (by decide +kernel) ⟨(Nat.le_of_ble_eq_true rfl), (Nat.le_of_ble_eq_true rfl)⟩) hK hP hD hS rfl rfl VC_0 rfl hl.1 rfl (Nat.le_of_ble_eq_true rfl) dX8_doubt_2 ⟨(Nat.le_of_ble_eq_true rfl), (Nat.le_of_ble_eq_true rfl)⟩ hout hlocks (Nat.le_of_ble_eq_true rfl) (Nat.le_of_ble_eq_true rfl) (fun b1 => ?_) (fun b1 H locs hP hD hS => ?_)
  · rw [if_neg b1] at hE
    obtain ⟨e0, e1⟩ := Prod.mk.inj hE
    exact ⟨e0, (Prod.mk.inj e1).2⟩
  · rw [if_pos b1] at hE
    refine lv_aload_n hx hb dX8_doubt_5 rfl (lv_at hl 0 rfl) ?_
    refine lv_iload_n hx hb dX8_doubt_6 rfl (lv_at hl 1 rfl) ?_
    refine ct_Vr (VC_fix E cI cC) (ZC_ok E cI cC T) (ZC_bl E cI cC T) hZ S0 (kX8_heard l D E cI cC (ZC E cI cC T) (ZC_ok E cI cC T) (ZC_bl E cI cC T) M table (by omega) hC (fX8_heard M table) rfl) (cwV 1 hts gX8_doubt_X8_heard rfl rfl rfl (by decide +kernel) ⟨(Nat.le_of_ble_eq_true rfl), (Nat.le_of_ble_eq_true rfl)⟩) hK hP hD hS rfl rfl VC_0 rfl hl.1 rfl (Nat.le_of_ble_eq_true rfl) dX8_doubt_7 ⟨(Nat.le_of_ble_eq_true rfl), (Nat.le_of_ble_eq_true rfl)⟩ (fun H locs hP hD hS => ?_)
    refine ct_Vi (VC_fix E cI cC) (ZC_ok E cI cC T) (ZC_bl E cI cC T) hZ S0 (kX4_doubtByNapkins l D E cI cC (ZC E cI cC T) (ZC_ok E cI cC T) (ZC_bl E cI cC T) (fX8_heard M table) (SI_heard hC hQ table) (fX4_doubtByNapkins (fX8_heard M table)) rfl) (cwV 0 hts gX8_doubt_X4_doubtByNapkins rfl rfl rfl (by decide +kernel) ⟨(Nat.le_of_ble_eq_true rfl), (Nat.le_of_ble_eq_true rfl)⟩) hK hP hD hS rfl rfl VC_4 rfl hl.1 rfl (Nat.le_of_ble_eq_true rfl) dX8_doubt_10 ⟨(Nat.le_of_ble_eq_true rfl), (Nat.le_of_ble_eq_true rfl)⟩ (fun H locs hP hD hS => ?_)
    have q2 := rg_X4_doubtByNapkins (SI_heard hC hQ table)
    obtain ⟨e0, e9⟩ := Prod.mk.inj hE
    obtain ⟨e1, e2⟩ := Prod.mk.inj e9
    subst e2
    exact cx_i hx hb hr hlocks e0 e1 rfl hS hP (Nat.le_of_ble_eq_true rfl) (Nat.le_of_ble_eq_true rfl) dX8_doubt_13

theorem fr_fX8_doubt {M : Mem} (table : Int) {r : Nat} (h1 : Nat.beq r 1 = false) (h2 : Nat.beq r 2 = false) (h3 : Nat.beq r 3 = false) (h4 : Nat.beq r 4 = false) (h7 : Nat.beq r 7 = false) : (fX8_doubt M table).2.2 r = M r := by
  unfold fX8_doubt
  (repeat' with_reducible refine frite_x (fun _ => ?_) (fun _ => ?_)) <;> first | with_reducible rfl | simp only [mst_o, msf_o, mcp_o, fr_fX8_heard, h1, h2, h3, h4, h7]

def fX8_napkinOf (M : Mem) (napkin what : Int) : Int × Int := if ((fX6_hasNapkin M napkin) = 0) then ((1), (0)) else if (what = 0) then ((0), (fX6_colourOf M napkin)) else if (what = 1) then ((0), (fX6_foldOf M napkin)) else if (what = 2) then ((0), (fX6_creasesOf M napkin)) else if (what = 3) then ((0), (fX6_stainsOf M napkin)) else if (what = 4) then ((0), (fX6_tableUnder M napkin)) else if (what = 5) then ((0), (fX6_placeUnder M napkin)) else if (what = 6) then ((0), (fX6_foldingsOf M napkin)) else ((2), (0))
set_option maxRecDepth 100000 in
set_option maxHeartbeats 4000000 in
theorem kX8_napkinOf (l : Launch) (hst : l.stackTraces = false) (D : va_G) (E : Nat → Nat) (cI cC : ClassId) (T : Nat → Nat) (M : Mem) (napkin what : Int) (h1 : -2147483648 ≤ napkin ∧ napkin < 2147483648) (h2 : -2147483648 ≤ what ∧ what < 2147483648) (hC : CI M) (kx r : Int) (hE : fX8_napkinOf M napkin what = (kx, r)) : Cx l yX8_napkinOf wsX8_napkinOf 6 82 1 [.ref (E 0), .int (iI napkin), .int (iI what)] D (TY cI cC) (VC E cI cC) (ZC E cI cC T) M kx (some (.int (iI r))) M := by
  refine Cx.of (cc := cX8_napkinOf) (maxL := 3) (ret := (some .int)) (by decide +kernel) rfl (Nat.le_of_ble_eq_true rfl) ?_
  intro p e s m args below meth c ls hx hb hml hr hown hts hlocks hP hK hD hZ hS hout hl
  have hl : lv_has ls 3 [(0, .ref (E 0)), (1, .int (iI napkin)), (2, .int (iI what))] := hl
  have S0 : CallFix p m c cX8_napkinOf 3 s args wsX8_napkinOf RX8 := ⟨hx, hb, hml, hown, hts⟩
  have hinX8 : ∀ w ∈ u_ws RX8 TX8 12, w ∈ wsX8_napkinOf := by decide +kernel
  rw [fX8_napkinOf] at hE
  refine lv_aload_n hx hb dX8_napkinOf_0 rfl (lv_at hl 0 rfl) ?_
  refine va_get (own := RX8) (ref := "NapkinSyntax") (C := RX8) (T := TX8) (N := 12) hx hb hts hinX8 hown hK hP 0 VC_0 rfl 1 (Nat.le_of_ble_eq_true rfl) (hts (.fieldLink RX8 20 "NapkinSyntax" "now" "LNapkinSyntax$State;") (by decide +kernel)) (fun _ h => h) (v := .ref (E 2)) rfl dX8_napkinOf_1 ?_
  refine lv_iload_n hx hb dX8_napkinOf_4 rfl (lv_at hl 1 rfl) ?_
  refine ct_Vi (VC_fix E cI cC) (ZC_ok E cI cC T) (ZC_bl E cI cC T) hZ S0 (kX6_hasNapkin l D E cI cC (ZC E cI cC T) (ZC_ok E cI cC T) (ZC_bl E cI cC T) M napkin (by omega) hC (fX6_hasNapkin M napkin) rfl) (cwV 1 hts gX8_napkinOf_X6_hasNapkin rfl rfl rfl (by decide +kernel) ⟨(Nat.le_of_ble_eq_true rfl), (Nat.le_of_ble_eq_true rfl)⟩) hK hP hD hS rfl rfl VC_2 rfl hl.1 rfl (Nat.le_of_ble_eq_true rfl) dX8_napkinOf_5 ⟨(Nat.le_of_ble_eq_true rfl), (Nat.le_of_ble_eq_true rfl)⟩ (fun H locs hP hD hS => ?_)
  have q1 := bX6_hasNapkin M napkin
  refine z_if_ne hx hb dX8_napkinOf_8 (tgt := 21) rfl (by omega) (fun b2 => ?_) (fun b2 => ?_)
  · rw [if_neg b2] at hE
    refine lv_iload_n hx hb dX8_napkinOf_21 rfl (lv_at hl 2 rfl) ?_
    by_cases b3 : (what = 0)
    · rw [if_pos b3] at hE
      refine z_table hx hb dX8_napkinOf_22 (k0 := 0) (tgt := 64) (by omega) b3 (by decide) (by decide) rfl rfl ?_
      refine lv_aload_n hx hb dX8_napkinOf_64 rfl (lv_at hl 0 rfl) ?_
      refine va_get (own := RX8) (ref := "NapkinSyntax") (C := RX8) (T := TX8) (N := 12) hx hb hts hinX8 hown hK hP 0 VC_0 rfl 1 (Nat.le_of_ble_eq_true rfl) (hts (.fieldLink RX8 20 "NapkinSyntax" "now" "LNapkinSyntax$State;") (by decide +kernel)) (fun _ h => h) (v := .ref (E 2)) rfl dX8_napkinOf_65 ?_
      refine lv_iload_n hx hb dX8_napkinOf_68 rfl (lv_at hl 1 rfl) ?_
      refine ct_Vi (VC_fix E cI cC) (ZC_ok E cI cC T) (ZC_bl E cI cC T) hZ S0 (kX6_colourOf l D E cI cC (ZC E cI cC T) (ZC_ok E cI cC T) (ZC_bl E cI cC T) M napkin (by omega) (fX6_colourOf M napkin) rfl) (cwV 1 hts gX8_napkinOf_X6_colourOf rfl rfl rfl (by decide +kernel) ⟨(Nat.le_of_ble_eq_true rfl), (Nat.le_of_ble_eq_true rfl)⟩) hK hP hD hS rfl rfl VC_2 rfl hl.1 rfl (Nat.le_of_ble_eq_true rfl) dX8_napkinOf_69 ⟨(Nat.le_of_ble_eq_true rfl), (Nat.le_of_ble_eq_true rfl)⟩ (fun H locs hP hD hS => ?_)
      have q4 := rg_X6_colourOf hC napkin
      obtain ⟨e0, e1⟩ := Prod.mk.inj hE
      exact cx_i hx hb hr hlocks e0 e1 rfl hS hP (Nat.le_of_ble_eq_true rfl) (Nat.le_of_ble_eq_true rfl) dX8_napkinOf_72
    · rw [if_neg b3] at hE
      by_cases b5 : (what = 1)
      · rw [if_pos b5] at hE
        refine z_table hx hb dX8_napkinOf_22 (k0 := 1) (tgt := 73) (by omega) b5 (by decide) (by decide) rfl rfl ?_
        refine lv_aload_n hx hb dX8_napkinOf_73 rfl (lv_at hl 0 rfl) ?_
        refine va_get (own := RX8) (ref := "NapkinSyntax") (C := RX8) (T := TX8) (N := 12) hx hb hts hinX8 hown hK hP 0 VC_0 rfl 1 (Nat.le_of_ble_eq_true rfl) (hts (.fieldLink RX8 20 "NapkinSyntax" "now" "LNapkinSyntax$State;") (by decide +kernel)) (fun _ h => h) (v := .ref (E 2)) rfl dX8_napkinOf_74 ?_
        refine lv_iload_n hx hb dX8_napkinOf_77 rfl (lv_at hl 1 rfl) ?_
        refine ct_Vi (VC_fix E cI cC) (ZC_ok E cI cC T) (ZC_bl E cI cC T) hZ S0 (kX6_foldOf l D E cI cC (ZC E cI cC T) (ZC_ok E cI cC T) (ZC_bl E cI cC T) M napkin (by omega) (fX6_foldOf M napkin) rfl) (cwV 1 hts gX8_napkinOf_X6_foldOf rfl rfl rfl (by decide +kernel) ⟨(Nat.le_of_ble_eq_true rfl), (Nat.le_of_ble_eq_true rfl)⟩) hK hP hD hS rfl rfl VC_2 rfl hl.1 rfl (Nat.le_of_ble_eq_true rfl) dX8_napkinOf_78 ⟨(Nat.le_of_ble_eq_true rfl), (Nat.le_of_ble_eq_true rfl)⟩ (fun H locs hP hD hS => ?_)
        have q6 := rg_X6_foldOf hC napkin
        obtain ⟨e0, e1⟩ := Prod.mk.inj hE
        exact cx_i hx hb hr hlocks e0 e1 rfl hS hP (Nat.le_of_ble_eq_true rfl) (Nat.le_of_ble_eq_true rfl) dX8_napkinOf_81
      · rw [if_neg b5] at hE
        by_cases b7 : (what = 2)
        · rw [if_pos b7] at hE
          refine z_table hx hb dX8_napkinOf_22 (k0 := 2) (tgt := 82) (by omega) b7 (by decide) (by decide) rfl rfl ?_
          refine lv_aload_n hx hb dX8_napkinOf_82 rfl (lv_at hl 0 rfl) ?_
          refine va_get (own := RX8) (ref := "NapkinSyntax") (C := RX8) (T := TX8) (N := 12) hx hb hts hinX8 hown hK hP 0 VC_0 rfl 1 (Nat.le_of_ble_eq_true rfl) (hts (.fieldLink RX8 20 "NapkinSyntax" "now" "LNapkinSyntax$State;") (by decide +kernel)) (fun _ h => h) (v := .ref (E 2)) rfl dX8_napkinOf_83 ?_
          refine lv_iload_n hx hb dX8_napkinOf_86 rfl (lv_at hl 1 rfl) ?_
          refine ct_Vi (VC_fix E cI cC) (ZC_ok E cI cC T) (ZC_bl E cI cC T) hZ S0 (kX6_creasesOf l D E cI cC (ZC E cI cC T) (ZC_ok E cI cC T) (ZC_bl E cI cC T) M napkin (by omega) (fX6_creasesOf M napkin) rfl) (cwV 1 hts gX8_napkinOf_X6_creasesOf rfl rfl rfl (by decide +kernel) ⟨(Nat.le_of_ble_eq_true rfl), (Nat.le_of_ble_eq_true rfl)⟩) hK hP hD hS rfl rfl VC_2 rfl hl.1 rfl (Nat.le_of_ble_eq_true rfl) dX8_napkinOf_87 ⟨(Nat.le_of_ble_eq_true rfl), (Nat.le_of_ble_eq_true rfl)⟩ (fun H locs hP hD hS => ?_)
          have q8 := rg_X6_creasesOf hC napkin
          obtain ⟨e0, e1⟩ := Prod.mk.inj hE
          exact cx_i hx hb hr hlocks e0 e1 rfl hS hP (Nat.le_of_ble_eq_true rfl) (Nat.le_of_ble_eq_true rfl) dX8_napkinOf_90
        · rw [if_neg b7] at hE
          by_cases b9 : (what = 3)
          · rw [if_pos b9] at hE
            refine z_table hx hb dX8_napkinOf_22 (k0 := 3) (tgt := 91) (by omega) b9 (by decide) (by decide) rfl rfl ?_
            refine lv_aload_n hx hb dX8_napkinOf_91 rfl (lv_at hl 0 rfl) ?_
            refine va_get (own := RX8) (ref := "NapkinSyntax") (C := RX8) (T := TX8) (N := 12) hx hb hts hinX8 hown hK hP 0 VC_0 rfl 1 (Nat.le_of_ble_eq_true rfl) (hts (.fieldLink RX8 20 "NapkinSyntax" "now" "LNapkinSyntax$State;") (by decide +kernel)) (fun _ h => h) (v := .ref (E 2)) rfl dX8_napkinOf_92 ?_
            refine lv_iload_n hx hb dX8_napkinOf_95 rfl (lv_at hl 1 rfl) ?_
            refine ct_Vi (VC_fix E cI cC) (ZC_ok E cI cC T) (ZC_bl E cI cC T) hZ S0 (kX6_stainsOf l D E cI cC (ZC E cI cC T) (ZC_ok E cI cC T) (ZC_bl E cI cC T) M napkin (by omega) (fX6_stainsOf M napkin) rfl) (cwV 1 hts gX8_napkinOf_X6_stainsOf rfl rfl rfl (by decide +kernel) ⟨(Nat.le_of_ble_eq_true rfl), (Nat.le_of_ble_eq_true rfl)⟩) hK hP hD hS rfl rfl VC_2 rfl hl.1 rfl (Nat.le_of_ble_eq_true rfl) dX8_napkinOf_96 ⟨(Nat.le_of_ble_eq_true rfl), (Nat.le_of_ble_eq_true rfl)⟩ (fun H locs hP hD hS => ?_)
            have q10 := rg_X6_stainsOf hC napkin
            obtain ⟨e0, e1⟩ := Prod.mk.inj hE
            exact cx_i hx hb hr hlocks e0 e1 rfl hS hP (Nat.le_of_ble_eq_true rfl) (Nat.le_of_ble_eq_true rfl) dX8_napkinOf_99
          · rw [if_neg b9] at hE
            by_cases b11 : (what = 4)
            · rw [if_pos b11] at hE
              refine z_table hx hb dX8_napkinOf_22 (k0 := 4) (tgt := 100) (by omega) b11 (by decide) (by decide) rfl rfl ?_
              refine lv_aload_n hx hb dX8_napkinOf_100 rfl (lv_at hl 0 rfl) ?_
              refine va_get (own := RX8) (ref := "NapkinSyntax") (C := RX8) (T := TX8) (N := 12) hx hb hts hinX8 hown hK hP 0 VC_0 rfl 1 (Nat.le_of_ble_eq_true rfl) (hts (.fieldLink RX8 20 "NapkinSyntax" "now" "LNapkinSyntax$State;") (by decide +kernel)) (fun _ h => h) (v := .ref (E 2)) rfl dX8_napkinOf_101 ?_
              refine lv_iload_n hx hb dX8_napkinOf_104 rfl (lv_at hl 1 rfl) ?_
              refine ct_Vi (VC_fix E cI cC) (ZC_ok E cI cC T) (ZC_bl E cI cC T) hZ S0 (kX6_tableUnder l D E cI cC (ZC E cI cC T) (ZC_ok E cI cC T) (ZC_bl E cI cC T) M napkin (by omega) hC (fX6_tableUnder M napkin) rfl) (cwV 1 hts gX8_napkinOf_X6_tableUnder rfl rfl rfl (by decide +kernel) ⟨(Nat.le_of_ble_eq_true rfl), (Nat.le_of_ble_eq_true rfl)⟩) hK hP hD hS rfl rfl VC_2 rfl hl.1 rfl (Nat.le_of_ble_eq_true rfl) dX8_napkinOf_105 ⟨(Nat.le_of_ble_eq_true rfl), (Nat.le_of_ble_eq_true rfl)⟩ (fun H locs hP hD hS => ?_)
              have q12 := rg_X6_tableUnder M napkin
              obtain ⟨e0, e1⟩ := Prod.mk.inj hE
              exact cx_i hx hb hr hlocks e0 e1 rfl hS hP (Nat.le_of_ble_eq_true rfl) (Nat.le_of_ble_eq_true rfl) dX8_napkinOf_108
            · rw [if_neg b11] at hE
              by_cases b13 : (what = 5)
              · rw [if_pos b13] at hE
                refine z_table hx hb dX8_napkinOf_22 (k0 := 5) (tgt := 109) (by omega) b13 (by decide) (by decide) rfl rfl ?_
                refine lv_aload_n hx hb dX8_napkinOf_109 rfl (lv_at hl 0 rfl) ?_
                refine va_get (own := RX8) (ref := "NapkinSyntax") (C := RX8) (T := TX8) (N := 12) hx hb hts hinX8 hown hK hP 0 VC_0 rfl 1 (Nat.le_of_ble_eq_true rfl) (hts (.fieldLink RX8 20 "NapkinSyntax" "now" "LNapkinSyntax$State;") (by decide +kernel)) (fun _ h => h) (v := .ref (E 2)) rfl dX8_napkinOf_110 ?_
                refine lv_iload_n hx hb dX8_napkinOf_113 rfl (lv_at hl 1 rfl) ?_
                refine ct_Vi (VC_fix E cI cC) (ZC_ok E cI cC T) (ZC_bl E cI cC T) hZ S0 (kX6_placeUnder l D E cI cC (ZC E cI cC T) (ZC_ok E cI cC T) (ZC_bl E cI cC T) M napkin (by omega) hC (fX6_placeUnder M napkin) rfl) (cwV 1 hts gX8_napkinOf_X6_placeUnder rfl rfl rfl (by decide +kernel) ⟨(Nat.le_of_ble_eq_true rfl), (Nat.le_of_ble_eq_true rfl)⟩) hK hP hD hS rfl rfl VC_2 rfl hl.1 rfl (Nat.le_of_ble_eq_true rfl) dX8_napkinOf_114 ⟨(Nat.le_of_ble_eq_true rfl), (Nat.le_of_ble_eq_true rfl)⟩ (fun H locs hP hD hS => ?_)
                have q14 := rg_X6_placeUnder M napkin
                obtain ⟨e0, e1⟩ := Prod.mk.inj hE
                exact cx_i hx hb hr hlocks e0 e1 rfl hS hP (Nat.le_of_ble_eq_true rfl) (Nat.le_of_ble_eq_true rfl) dX8_napkinOf_117
              · rw [if_neg b13] at hE
                by_cases b15 : (what = 6)
                · rw [if_pos b15] at hE
                  refine z_table hx hb dX8_napkinOf_22 (k0 := 6) (tgt := 118) (by omega) b15 (by decide) (by decide) rfl rfl ?_
                  refine lv_aload_n hx hb dX8_napkinOf_118 rfl (lv_at hl 0 rfl) ?_
                  refine va_get (own := RX8) (ref := "NapkinSyntax") (C := RX8) (T := TX8) (N := 12) hx hb hts hinX8 hown hK hP 0 VC_0 rfl 1 (Nat.le_of_ble_eq_true rfl) (hts (.fieldLink RX8 20 "NapkinSyntax" "now" "LNapkinSyntax$State;") (by decide +kernel)) (fun _ h => h) (v := .ref (E 2)) rfl dX8_napkinOf_119 ?_
                  refine lv_iload_n hx hb dX8_napkinOf_122 rfl (lv_at hl 1 rfl) ?_
                  refine ct_Vi (VC_fix E cI cC) (ZC_ok E cI cC T) (ZC_bl E cI cC T) hZ S0 (kX6_foldingsOf l D E cI cC (ZC E cI cC T) (ZC_ok E cI cC T) (ZC_bl E cI cC T) M napkin (by omega) (fX6_foldingsOf M napkin) rfl) (cwV 1 hts gX8_napkinOf_X6_foldingsOf rfl rfl rfl (by decide +kernel) ⟨(Nat.le_of_ble_eq_true rfl), (Nat.le_of_ble_eq_true rfl)⟩) hK hP hD hS rfl rfl VC_2 rfl hl.1 rfl (Nat.le_of_ble_eq_true rfl) dX8_napkinOf_123 ⟨(Nat.le_of_ble_eq_true rfl), (Nat.le_of_ble_eq_true rfl)⟩ (fun H locs hP hD hS => ?_)
                  obtain ⟨e0, e1⟩ := Prod.mk.inj hE
                  exact cx_i hx hb hr hlocks e0 e1 rfl hS hP (Nat.le_of_ble_eq_true rfl) (Nat.le_of_ble_eq_true rfl) dX8_napkinOf_126
                · rw [if_neg b15] at hE
                  refine z_tableD hx hb dX8_napkinOf_22 (tgt := 127) (by omega) (by omega) rfl ?_
                  obtain ⟨e0, e1⟩ := Prod.mk.inj hE
                  exact cx_throw (k := 2) rfl hx hb hst hts hown (by decide +kernel) xn_fit (by decide +kernel) (by decide +kernel) (ZC_t141 hZ) (fun w h => List.mem_cons_of_mem _ (List.mem_append_left _ (List.mem_append_right _ h))) xb_2 xg_2 (ZC_d1 hZ) (ZC_d2 hZ) (ZC_d3 hZ) (ZC_x2 hZ) (ZC_us hZ M) (ZC_ss hZ M) hS hP (hl.1.trans hml.symm) dX8_napkinOf_127 dX8_napkinOf_130 dX8_napkinOf_131 dX8_napkinOf_133 dX8_napkinOf_136 hout (Nat.le_of_ble_eq_true rfl) (Nat.le_of_ble_eq_true rfl) (Nat.le_of_ble_eq_true rfl) (Nat.le_of_ble_eq_true rfl) hlocks (by decide) e0 (Nat.le_of_ble_eq_true rfl) (Nat.le_of_ble_eq_true rfl)
  · rw [if_pos b2] at hE
    obtain ⟨e0, e1⟩ := Prod.mk.inj hE
    exact cx_throw (k := 1) rfl hx hb hst hts hown (by decide +kernel) xn_fit (by decide +kernel) (by decide +kernel) (ZC_t112 hZ) (fun w h => List.mem_cons_of_mem _ (List.mem_append_left _ (List.mem_append_left _ (List.mem_append_right _ h)))) xb_1 xg_1 (ZC_d1 hZ) (ZC_d2 hZ) (ZC_d3 hZ) (ZC_x1 hZ) (ZC_us hZ M) (ZC_ss hZ M) hS hP (hl.1.trans hml.symm) dX8_napkinOf_11 dX8_napkinOf_14 dX8_napkinOf_15 dX8_napkinOf_17 dX8_napkinOf_20 hout (Nat.le_of_ble_eq_true rfl) (Nat.le_of_ble_eq_true rfl) (Nat.le_of_ble_eq_true rfl) (Nat.le_of_ble_eq_true rfl) hlocks (by decide) e0 (Nat.le_of_ble_eq_true rfl) (Nat.le_of_ble_eq_true rfl)

def fX8_phraseOf (M : Mem) (table phrase what : Int) : Int × Int × Mem := if (fX8_checkTable M table) = 0 then if (phrase < 0) then ((4), (0), (fX8_heard M table)) else if (phrase < (fX4_phraseCount (fX8_heard M table))) then if (what = 0) then ((0), ((fX4_moodFrom (fX8_heard M table) (fX4_startOf (fX8_heard M table) phrase)) - (fX4_startOf (fX8_heard M table) phrase)), (fX8_heard M table)) else if (what = 1) then ((0), (fX4_napkinAt (fX8_heard M table) (fX4_moodFrom (fX8_heard M table) (fX4_startOf (fX8_heard M table) phrase))), (fX8_heard M table)) else if (what = 2) then if ((fX4_isBoatAt (fX8_heard M table) ((fX4_moodFrom (fX8_heard M table) (fX4_startOf (fX8_heard M table) phrase)) + (1))) = 0) then ((0), (-1), (fX8_heard M table)) else ((0), (fX4_napkinAt (fX8_heard M table) ((fX4_moodFrom (fX8_heard M table) (fX4_startOf (fX8_heard M table) phrase)) + (1))), (fX8_heard M table)) else if (what = 3) then if ((fX4_isAgreed (fX8_heard M table) (fX4_startOf (fX8_heard M table) phrase) (fX4_moodFrom (fX8_heard M table) (fX4_startOf (fX8_heard M table) phrase))) = 0) then ((0), (0), (fX8_heard M table)) else ((0), (1), (fX8_heard M table)) else ((2), (0), (fX8_heard M table)) else ((4), (0), (fX8_heard M table)) else ((fX8_checkTable M table), (0), M)
set_option maxRecDepth 100000 in
set_option maxHeartbeats 4000000 in
theorem kX8_phraseOf (l : Launch) (hst : l.stackTraces = false) (D : va_G) (E : Nat → Nat) (cI cC : ClassId) (T : Nat → Nat) (M : Mem) (table phrase what : Int) (h1 : -2147483648 ≤ table ∧ table < 2147483648) (h2 : -2147483648 ≤ phrase ∧ phrase < 2147483648) (h3 : -2147483648 ≤ what ∧ what < 2147483648) (hC : CI M) (hQ : SI M) (kx r : Int) (M' : Mem) (hE : fX8_phraseOf M table phrase what = (kx, r, M')) : Cx l yX8_phraseOf wsX8_phraseOf 7 103 2 [.ref (E 0), .int (iI table), .int (iI phrase), .int (iI what)] D (TY cI cC) (VC E cI cC) (ZC E cI cC T) M kx (some (.int (iI r))) M' := by
  refine Cx.of (cc := cX8_phraseOf) (maxL := 7) (ret := (some .int)) (by decide +kernel) rfl (Nat.le_of_ble_eq_true rfl) ?_
  intro p e s m args below meth c ls hx hb hml hr hown hts hlocks hP hK hD hZ hS hout hl
  have hl : lv_has ls 7 [(0, .ref (E 0)), (1, .int (iI table)), (2, .int (iI phrase)), (3, .int (iI what))] := hl
  have S0 : CallFix p m c cX8_phraseOf 7 s args wsX8_phraseOf RX8 := ⟨hx, hb, hml, hown, hts⟩
  rw [fX8_phraseOf] at hE
  refine lv_aload_n hx hb dX8_phraseOf_0 rfl (lv_at hl 0 rfl) ?_
  refine lv_iload_n hx hb dX8_phraseOf_1 rfl (lv_at hl 1 rfl) ?_
  refine ct_Vxv (VC_fix E cI cC) (ZC_ok E cI cC T) (ZC_bl E cI cC T) hZ S0 (kX8_checkTable l hst D E cI cC T M table (by omega) (fX8_checkTable M table) rfl) (cwV 1 hts gX8_phraseOf_X8_checkTable rfl rfl rfl (by decide +kernel) ⟨(Nat.le_of_ble_eq_true rfl), (Nat.le_of_ble_eq_true rfl)⟩) hK hP hD hS rfl rfl VC_0 rfl hl.1 rfl (Nat.le_of_ble_eq_true rfl) dX8_phraseOf_2 ⟨(Nat.le_of_ble_eq_true rfl), (Nat.le_of_ble_eq_true rfl)⟩ hout hlocks (Nat.le_of_ble_eq_true rfl) (Nat.le_of_ble_eq_true rfl) (fun b1 => ?_) (fun b1 H locs hP hD hS => ?_)
  · rw [if_neg b1] at hE
    obtain ⟨e0, e1⟩ := Prod.mk.inj hE
    exact ⟨e0, (Prod.mk.inj e1).2⟩
  · rw [if_pos b1] at hE
    refine lv_aload_n hx hb dX8_phraseOf_5 rfl (lv_at hl 0 rfl) ?_
    refine lv_iload_n hx hb dX8_phraseOf_6 rfl (lv_at hl 1 rfl) ?_
    refine ct_Vr (VC_fix E cI cC) (ZC_ok E cI cC T) (ZC_bl E cI cC T) hZ S0 (kX8_heard l D E cI cC (ZC E cI cC T) (ZC_ok E cI cC T) (ZC_bl E cI cC T) M table (by omega) hC (fX8_heard M table) rfl) (cwV 1 hts gX8_phraseOf_X8_heard rfl rfl rfl (by decide +kernel) ⟨(Nat.le_of_ble_eq_true rfl), (Nat.le_of_ble_eq_true rfl)⟩) hK hP hD hS rfl rfl VC_0 rfl hl.1 rfl (Nat.le_of_ble_eq_true rfl) dX8_phraseOf_7 ⟨(Nat.le_of_ble_eq_true rfl), (Nat.le_of_ble_eq_true rfl)⟩ (fun H locs hP hD hS => ?_)
    refine lv_astore hx hb dX8_phraseOf_10 hl (Nat.le_of_ble_eq_true rfl) (lv' := [(4, .ref (E 4)), (0, .ref (E 0)), (1, .int (iI table)), (2, .int (iI phrase)), (3, .int (iI what))]) rfl (fun ls hl => ?_)
    refine lv_iload_n hx hb dX8_phraseOf_12 rfl (lv_at hl 3 rfl) ?_
    refine z_if_lt hx hb dX8_phraseOf_13 (tgt := 25) rfl (by omega) (fun b2 => ?_) (fun b2 => ?_)
    · rw [if_pos b2] at hE
      obtain ⟨e0, e1⟩ := Prod.mk.inj hE
      obtain ⟨-, e2⟩ := Prod.mk.inj e1
      subst e2
      exact cx_throwN (k := 4) rfl hx hb hst hts hown (by decide +kernel) (by decide +kernel) (ZC_t203 hZ) (fun w h => List.mem_cons_of_mem _ (List.mem_append_left _ (List.mem_append_left _ (List.mem_append_left _ (List.mem_append_right _ h))))) xb_4 xg_4 (ZC_d1 hZ) (ZC_d2 hZ) (ZC_d3 hZ) (ZC_x4 hZ) (ZC_us hZ M) (ZC_ss hZ M) hS hP (hl.1.trans hml.symm) dX8_phraseOf_25 dX8_phraseOf_28 dX8_phraseOf_29 dX8_phraseOf_31 dX8_phraseOf_34 hout (Nat.le_of_ble_eq_true rfl) (Nat.le_of_ble_eq_true rfl) (Nat.le_of_ble_eq_true rfl) (Nat.le_of_ble_eq_true rfl) hlocks (by decide) e0 (Nat.le_of_ble_eq_true rfl) (Nat.le_of_ble_eq_true rfl)
    · rw [if_neg b2] at hE
      refine lv_iload_n hx hb dX8_phraseOf_16 rfl (lv_at hl 3 rfl) ?_
      refine lv_aload hx hb dX8_phraseOf_17 (lv_at hl 0 rfl) ?_
      refine ct_Vi (VC_fix E cI cC) (ZC_ok E cI cC T) (ZC_bl E cI cC T) hZ S0 (kX4_phraseCount l D E cI cC (ZC E cI cC T) (ZC_ok E cI cC T) (ZC_bl E cI cC T) (fX8_heard M table) (SI_heard hC hQ table) (fX4_phraseCount (fX8_heard M table)) rfl) (cwV 0 hts gX8_phraseOf_X4_phraseCount rfl rfl rfl (by decide +kernel) ⟨(Nat.le_of_ble_eq_true rfl), (Nat.le_of_ble_eq_true rfl)⟩) hK hP hD hS rfl rfl VC_4 rfl hl.1 rfl (Nat.le_of_ble_eq_true rfl) dX8_phraseOf_19 ⟨(Nat.le_of_ble_eq_true rfl), (Nat.le_of_ble_eq_true rfl)⟩ (fun H locs hP hD hS => ?_)
      have q3 := rg_X4_phraseCount (SI_heard hC hQ table)
      refine z_icmp_lt hx hb dX8_phraseOf_22 (tgt := 35) rfl (by omega) (by omega) (fun b4 => ?_) (fun b4 => ?_)
      · rw [if_pos b4] at hE
        have q81 := rg_X4_phraseCount (SI_heard hC hQ table)
        refine lv_aload hx hb dX8_phraseOf_35 (lv_at hl 0 rfl) ?_
        refine lv_iload_n hx hb dX8_phraseOf_37 rfl (lv_at hl 3 rfl) ?_
        refine ct_Vi (VC_fix E cI cC) (ZC_ok E cI cC T) (ZC_bl E cI cC T) hZ S0 (kX4_startOf l D E cI cC (ZC E cI cC T) (ZC_ok E cI cC T) (ZC_bl E cI cC T) (fX8_heard M table) phrase (by omega) (SI_heard hC hQ table) (fX4_startOf (fX8_heard M table) phrase) rfl) (cwV 1 hts gX8_phraseOf_X4_startOf rfl rfl rfl (by decide +kernel) ⟨(Nat.le_of_ble_eq_true rfl), (Nat.le_of_ble_eq_true rfl)⟩) hK hP hD hS rfl rfl VC_4 rfl hl.1 rfl (Nat.le_of_ble_eq_true rfl) dX8_phraseOf_38 ⟨(Nat.le_of_ble_eq_true rfl), (Nat.le_of_ble_eq_true rfl)⟩ (fun H locs hP hD hS => ?_)
        have q5 := rg_X4_startOf (SI_heard hC hQ table) phrase
        refine lv_istore hx hb dX8_phraseOf_41 hl (Nat.le_of_ble_eq_true rfl) (lv' := [(5, .int (iI (fX4_startOf (fX8_heard M table) phrase))), (4, .ref (E 4)), (0, .ref (E 0)), (1, .int (iI table)), (2, .int (iI phrase)), (3, .int (iI what))]) rfl (fun ls hl => ?_)
        have q80 := SI_n (SI_heard hC hQ table)
        refine lv_aload hx hb dX8_phraseOf_43 (lv_at hl 1 rfl) ?_
        refine lv_iload hx hb dX8_phraseOf_45 (lv_at hl 0 rfl) ?_
        refine ct_Vi (VC_fix E cI cC) (ZC_ok E cI cC T) (ZC_bl E cI cC T) hZ S0 (kX4_moodFrom l D E cI cC (ZC E cI cC T) (ZC_ok E cI cC T) (ZC_bl E cI cC T) (fX8_heard M table) (fX4_startOf (fX8_heard M table) phrase) (by omega) (SI_heard hC hQ table) (fX4_moodFrom (fX8_heard M table) (fX4_startOf (fX8_heard M table) phrase)) rfl) (cwV 1 hts gX8_phraseOf_X4_moodFrom rfl rfl rfl (by decide +kernel) ⟨(Nat.le_of_ble_eq_true rfl), (Nat.le_of_ble_eq_true rfl)⟩) hK hP hD hS rfl rfl VC_4 rfl hl.1 rfl (Nat.le_of_ble_eq_true rfl) dX8_phraseOf_47 ⟨(Nat.le_of_ble_eq_true rfl), (Nat.le_of_ble_eq_true rfl)⟩ (fun H locs hP hD hS => ?_)
        have q6 := rg_X4_moodFrom (SI_heard hC hQ table) (fX4_startOf (fX8_heard M table) phrase) (by omega) (by omega)
        refine lv_istore hx hb dX8_phraseOf_50 hl (Nat.le_of_ble_eq_true rfl) (lv' := [(6, .int (iI (fX4_moodFrom (fX8_heard M table) (fX4_startOf (fX8_heard M table) phrase)))), (5, .int (iI (fX4_startOf (fX8_heard M table) phrase))), (4, .ref (E 4)), (0, .ref (E 0)), (1, .int (iI table)), (2, .int (iI phrase)), (3, .int (iI what))]) rfl (fun ls hl => ?_)
        refine lv_iload_n hx hb dX8_phraseOf_52 rfl (lv_at hl 6 rfl) ?_
        by_cases b7 : (what = 0)
        · rw [if_pos b7] at hE
          refine z_table hx hb dX8_phraseOf_53 (k0 := 0) (tgt := 84) (by omega) b7 (by decide) (by decide) rfl rfl ?_
          refine lv_iload hx hb dX8_phraseOf_84 (lv_at hl 0 rfl) ?_
          refine lv_iload hx hb dX8_phraseOf_86 (lv_at hl 1 rfl) ?_
          refine z_isub hx hb dX8_phraseOf_88 ?_
          obtain ⟨e0, e9⟩ := Prod.mk.inj hE
          obtain ⟨e1, e2⟩ := Prod.mk.inj e9
          subst e2
          exact cx_i hx hb hr hlocks e0 e1 rfl hS hP (Nat.le_of_ble_eq_true rfl) (Nat.le_of_ble_eq_true rfl) dX8_phraseOf_89
        · rw [if_neg b7] at hE
          by_cases b8 : (what = 1)
          · rw [if_pos b8] at hE
            refine z_table hx hb dX8_phraseOf_53 (k0 := 1) (tgt := 90) (by omega) b8 (by decide) (by decide) rfl rfl ?_
            refine lv_aload hx hb dX8_phraseOf_90 (lv_at hl 2 rfl) ?_
            refine lv_iload hx hb dX8_phraseOf_92 (lv_at hl 0 rfl) ?_
            refine ct_Vi (VC_fix E cI cC) (ZC_ok E cI cC T) (ZC_bl E cI cC T) hZ S0 (kX4_napkinAt l D E cI cC (ZC E cI cC T) (ZC_ok E cI cC T) (ZC_bl E cI cC T) (fX8_heard M table) (fX4_moodFrom (fX8_heard M table) (fX4_startOf (fX8_heard M table) phrase)) (by omega) (SI_heard hC hQ table) (fX4_napkinAt (fX8_heard M table) (fX4_moodFrom (fX8_heard M table) (fX4_startOf (fX8_heard M table) phrase))) rfl) (cwV 1 hts gX8_phraseOf_X4_napkinAt rfl rfl rfl (by decide +kernel) ⟨(Nat.le_of_ble_eq_true rfl), (Nat.le_of_ble_eq_true rfl)⟩) hK hP hD hS rfl rfl VC_4 rfl hl.1 rfl (Nat.le_of_ble_eq_true rfl) dX8_phraseOf_94 ⟨(Nat.le_of_ble_eq_true rfl), (Nat.le_of_ble_eq_true rfl)⟩ (fun H locs hP hD hS => ?_)
            have q9 := rg_X4_napkinAt (SI_heard hC hQ table) (fX4_moodFrom (fX8_heard M table) (fX4_startOf (fX8_heard M table) phrase))
            obtain ⟨e0, e9⟩ := Prod.mk.inj hE
            obtain ⟨e1, e2⟩ := Prod.mk.inj e9
            subst e2
            exact cx_i hx hb hr hlocks e0 e1 rfl hS hP (Nat.le_of_ble_eq_true rfl) (Nat.le_of_ble_eq_true rfl) dX8_phraseOf_97
          · rw [if_neg b8] at hE
            by_cases b10 : (what = 2)
            · rw [if_pos b10] at hE
              refine z_table hx hb dX8_phraseOf_53 (k0 := 2) (tgt := 98) (by omega) b10 (by decide) (by decide) rfl rfl ?_
              refine lv_aload hx hb dX8_phraseOf_98 (lv_at hl 2 rfl) ?_
              refine lv_iload hx hb dX8_phraseOf_100 (lv_at hl 0 rfl) ?_
              refine z_iconst hx hb dX8_phraseOf_102 ?_
              refine z_iadd hx hb dX8_phraseOf_103 ?_
              refine ct_Vi (VC_fix E cI cC) (ZC_ok E cI cC T) (ZC_bl E cI cC T) hZ S0 (kX4_isBoatAt l D E cI cC (ZC E cI cC T) (ZC_ok E cI cC T) (ZC_bl E cI cC T) (fX8_heard M table) ((fX4_moodFrom (fX8_heard M table) (fX4_startOf (fX8_heard M table) phrase)) + (1)) (by omega) (SI_heard hC hQ table) (fX4_isBoatAt (fX8_heard M table) ((fX4_moodFrom (fX8_heard M table) (fX4_startOf (fX8_heard M table) phrase)) + (1))) rfl) (cwV 1 hts gX8_phraseOf_X4_isBoatAt rfl rfl rfl (by decide +kernel) ⟨(Nat.le_of_ble_eq_true rfl), (Nat.le_of_ble_eq_true rfl)⟩) hK hP hD hS rfl rfl VC_4 rfl hl.1 rfl (Nat.le_of_ble_eq_true rfl) dX8_phraseOf_104 ⟨(Nat.le_of_ble_eq_true rfl), (Nat.le_of_ble_eq_true rfl)⟩ (fun H locs hP hD hS => ?_)
              have q11 := bX4_isBoatAt (fX8_heard M table) ((fX4_moodFrom (fX8_heard M table) (fX4_startOf (fX8_heard M table) phrase)) + (1))
              refine z_if_eq hx hb dX8_phraseOf_107 (tgt := 122) rfl (by omega) (fun b12 => ?_) (fun b12 => ?_)
              · rw [if_pos b12] at hE
                refine z_iconst hx hb dX8_phraseOf_122 ?_
                obtain ⟨e0, e9⟩ := Prod.mk.inj hE
                obtain ⟨e1, e2⟩ := Prod.mk.inj e9
                subst e2
                exact cx_i hx hb hr hlocks e0 e1 rfl hS hP (Nat.le_of_ble_eq_true rfl) (Nat.le_of_ble_eq_true rfl) dX8_phraseOf_123
              · rw [if_neg b12] at hE
                refine lv_aload hx hb dX8_phraseOf_110 (lv_at hl 2 rfl) ?_
                refine lv_iload hx hb dX8_phraseOf_112 (lv_at hl 0 rfl) ?_
                refine z_iconst hx hb dX8_phraseOf_114 ?_
                refine z_iadd hx hb dX8_phraseOf_115 ?_
                refine ct_Vi (VC_fix E cI cC) (ZC_ok E cI cC T) (ZC_bl E cI cC T) hZ S0 (kX4_napkinAt l D E cI cC (ZC E cI cC T) (ZC_ok E cI cC T) (ZC_bl E cI cC T) (fX8_heard M table) ((fX4_moodFrom (fX8_heard M table) (fX4_startOf (fX8_heard M table) phrase)) + (1)) (by omega) (SI_heard hC hQ table) (fX4_napkinAt (fX8_heard M table) ((fX4_moodFrom (fX8_heard M table) (fX4_startOf (fX8_heard M table) phrase)) + (1))) rfl) (cwV 1 hts gX8_phraseOf_X4_napkinAt rfl rfl rfl (by decide +kernel) ⟨(Nat.le_of_ble_eq_true rfl), (Nat.le_of_ble_eq_true rfl)⟩) hK hP hD hS rfl rfl VC_4 rfl hl.1 rfl (Nat.le_of_ble_eq_true rfl) dX8_phraseOf_116 ⟨(Nat.le_of_ble_eq_true rfl), (Nat.le_of_ble_eq_true rfl)⟩ (fun H locs hP hD hS => ?_)
                have q13 := rg_X4_napkinAt (SI_heard hC hQ table) ((fX4_moodFrom (fX8_heard M table) (fX4_startOf (fX8_heard M table) phrase)) + (1))
                refine lv_goto hx hb dX8_phraseOf_119 (tgt := 123) rfl ?_
                obtain ⟨e0, e9⟩ := Prod.mk.inj hE
                obtain ⟨e1, e2⟩ := Prod.mk.inj e9
                subst e2
                exact cx_i hx hb hr hlocks e0 e1 rfl hS hP (Nat.le_of_ble_eq_true rfl) (Nat.le_of_ble_eq_true rfl) dX8_phraseOf_123
            · rw [if_neg b10] at hE
              by_cases b14 : (what = 3)
              · rw [if_pos b14] at hE
                refine z_table hx hb dX8_phraseOf_53 (k0 := 3) (tgt := 124) (by omega) b14 (by decide) (by decide) rfl rfl ?_
                refine lv_aload hx hb dX8_phraseOf_124 (lv_at hl 2 rfl) ?_
                refine lv_iload hx hb dX8_phraseOf_126 (lv_at hl 1 rfl) ?_
                refine lv_iload hx hb dX8_phraseOf_128 (lv_at hl 0 rfl) ?_
                refine ct_Vi (VC_fix E cI cC) (ZC_ok E cI cC T) (ZC_bl E cI cC T) hZ S0 (kX4_isAgreed l D E cI cC (ZC E cI cC T) (ZC_ok E cI cC T) (ZC_bl E cI cC T) (fX8_heard M table) (fX4_startOf (fX8_heard M table) phrase) (fX4_moodFrom (fX8_heard M table) (fX4_startOf (fX8_heard M table) phrase)) (by omega) (by omega) (SI_heard hC hQ table) (fX4_isAgreed (fX8_heard M table) (fX4_startOf (fX8_heard M table) phrase) (fX4_moodFrom (fX8_heard M table) (fX4_startOf (fX8_heard M table) phrase))) rfl) (cwV 2 hts gX8_phraseOf_X4_isAgreed rfl rfl rfl (by decide +kernel) ⟨(Nat.le_of_ble_eq_true rfl), (Nat.le_of_ble_eq_true rfl)⟩) hK hP hD hS rfl rfl VC_4 rfl hl.1 rfl (Nat.le_of_ble_eq_true rfl) dX8_phraseOf_130 ⟨(Nat.le_of_ble_eq_true rfl), (Nat.le_of_ble_eq_true rfl)⟩ (fun H locs hP hD hS => ?_)
                have q15 := bX4_isAgreed (fX8_heard M table) (fX4_startOf (fX8_heard M table) phrase) (fX4_moodFrom (fX8_heard M table) (fX4_startOf (fX8_heard M table) phrase))
                refine z_if_eq hx hb dX8_phraseOf_133 (tgt := 140) rfl (by omega) (fun b16 => ?_) (fun b16 => ?_)
                · rw [if_pos b16] at hE
                  refine z_iconst hx hb dX8_phraseOf_140 ?_
                  obtain ⟨e0, e9⟩ := Prod.mk.inj hE
                  obtain ⟨e1, e2⟩ := Prod.mk.inj e9
                  subst e2
                  exact cx_i hx hb hr hlocks e0 e1 rfl hS hP (Nat.le_of_ble_eq_true rfl) (Nat.le_of_ble_eq_true rfl) dX8_phraseOf_141
                · rw [if_neg b16] at hE
                  refine z_iconst hx hb dX8_phraseOf_136 ?_
                  refine lv_goto hx hb dX8_phraseOf_137 (tgt := 141) rfl ?_
                  obtain ⟨e0, e9⟩ := Prod.mk.inj hE
                  obtain ⟨e1, e2⟩ := Prod.mk.inj e9
                  subst e2
                  exact cx_i hx hb hr hlocks e0 e1 rfl hS hP (Nat.le_of_ble_eq_true rfl) (Nat.le_of_ble_eq_true rfl) dX8_phraseOf_141
              · rw [if_neg b14] at hE
                refine z_tableD hx hb dX8_phraseOf_53 (tgt := 142) (by omega) (by omega) rfl ?_
                obtain ⟨e0, e1⟩ := Prod.mk.inj hE
                obtain ⟨-, e2⟩ := Prod.mk.inj e1
                subst e2
                exact cx_throw (k := 2) rfl hx hb hst hts hown (by decide +kernel) xn_fit (by decide +kernel) (by decide +kernel) (ZC_t217 hZ) (fun w h => List.mem_cons_of_mem _ (List.mem_append_left _ (List.mem_append_left _ (List.mem_append_right _ h)))) xb_2 xg_2 (ZC_d1 hZ) (ZC_d2 hZ) (ZC_d3 hZ) (ZC_x2 hZ) (ZC_us hZ M) (ZC_ss hZ M) hS hP (hl.1.trans hml.symm) dX8_phraseOf_142 dX8_phraseOf_145 dX8_phraseOf_146 dX8_phraseOf_148 dX8_phraseOf_151 hout (Nat.le_of_ble_eq_true rfl) (Nat.le_of_ble_eq_true rfl) (Nat.le_of_ble_eq_true rfl) (Nat.le_of_ble_eq_true rfl) hlocks (by decide) e0 (Nat.le_of_ble_eq_true rfl) (Nat.le_of_ble_eq_true rfl)
      · rw [if_neg b4] at hE
        obtain ⟨e0, e1⟩ := Prod.mk.inj hE
        obtain ⟨-, e2⟩ := Prod.mk.inj e1
        subst e2
        exact cx_throwN (k := 4) rfl hx hb hst hts hown (by decide +kernel) (by decide +kernel) (ZC_t203 hZ) (fun w h => List.mem_cons_of_mem _ (List.mem_append_left _ (List.mem_append_left _ (List.mem_append_left _ (List.mem_append_right _ h))))) xb_4 xg_4 (ZC_d1 hZ) (ZC_d2 hZ) (ZC_d3 hZ) (ZC_x4 hZ) (ZC_us hZ M) (ZC_ss hZ M) hS hP (hl.1.trans hml.symm) dX8_phraseOf_25 dX8_phraseOf_28 dX8_phraseOf_29 dX8_phraseOf_31 dX8_phraseOf_34 hout (Nat.le_of_ble_eq_true rfl) (Nat.le_of_ble_eq_true rfl) (Nat.le_of_ble_eq_true rfl) (Nat.le_of_ble_eq_true rfl) hlocks (by decide) e0 (Nat.le_of_ble_eq_true rfl) (Nat.le_of_ble_eq_true rfl)

theorem fr_fX8_phraseOf {M : Mem} (table phrase what : Int) {r : Nat} (h1 : Nat.beq r 1 = false) (h2 : Nat.beq r 2 = false) (h3 : Nat.beq r 3 = false) (h4 : Nat.beq r 4 = false) (h7 : Nat.beq r 7 = false) : (fX8_phraseOf M table phrase what).2.2 r = M r := by
  unfold fX8_phraseOf
  (repeat' with_reducible refine frite_x (fun _ => ?_) (fun _ => ?_)) <;> first | with_reducible rfl | simp only [mst_o, msf_o, mcp_o, fr_fX8_heard, h1, h2, h3, h4, h7]


theorem fp_sure : ∀ n : Fin 7, ∀ d : Fin 55, n.val ≠ 0 → (vf_n32 (FP.fmul 1120403456 (FP.i2f (iI (n.val : Int)))) ∧ vf_n32 (FP.fmul 1092616192 (FP.i2f (iI (d.val : Int)))) ∧ vf_n32 (FP.fsub (FP.fmul 1120403456 (FP.i2f (iI (n.val : Int)))) (FP.fmul 1092616192 (FP.i2f (iI (d.val : Int))))) ∧ vf_n32 (FP.fdiv (FP.fsub (FP.fmul 1120403456 (FP.i2f (iI (n.val : Int)))) (FP.fmul 1092616192 (FP.i2f (iI (d.val : Int))))) (FP.i2f (iI (n.val : Int))))) := by unfold vf_n32; decide +kernel
theorem fp_sureI {n d : Int} (h1 : 0 ≤ n ∧ n ≤ 6) (h0 : ¬ n = 0) (h2 : 0 ≤ d ∧ d ≤ 54) : vf_n32 (FP.fmul 1120403456 (FP.i2f (iI n))) ∧ vf_n32 (FP.fmul 1092616192 (FP.i2f (iI d))) ∧ vf_n32 (FP.fsub (FP.fmul 1120403456 (FP.i2f (iI n))) (FP.fmul 1092616192 (FP.i2f (iI d)))) ∧ vf_n32 (FP.fdiv (FP.fsub (FP.fmul 1120403456 (FP.i2f (iI n))) (FP.fmul 1092616192 (FP.i2f (iI d)))) (FP.i2f (iI n))) := by
  obtain ⟨a, rfl⟩ := Int.eq_ofNat_of_zero_le h1.1
  obtain ⟨b, rfl⟩ := Int.eq_ofNat_of_zero_le h2.1
  exact fp_sure ⟨a, by omega⟩ ⟨b, by omega⟩ (by show a ≠ 0; omega)
theorem fp_mean : ∀ n : Fin 11, ∀ d : Fin 91, n.val ≠ 0 → vf_n64 (FP.ddiv (FP.i2d (iI (d.val : Int))) (FP.i2d (iI (n.val : Int)))) := by unfold vf_n64; decide +kernel
theorem fp_share : ∀ n : Fin 11, ∀ d : Fin 11, n.val ≠ 0 → vf_n32 (FP.fdiv (FP.i2f (iI (d.val : Int))) (FP.i2f (iI (n.val : Int)))) := by unfold vf_n32; decide +kernel
theorem fp_meanI {n d : Int} (h1 : 0 ≤ n ∧ n ≤ 10) (h0 : ¬ n = 0) (h2 : 0 ≤ d ∧ d ≤ 90) : vf_n64 (FP.ddiv (FP.i2d (iI d)) (FP.i2d (iI n))) := by
  obtain ⟨a, rfl⟩ := Int.eq_ofNat_of_zero_le h1.1
  obtain ⟨b, rfl⟩ := Int.eq_ofNat_of_zero_le h2.1
  exact fp_mean ⟨a, by omega⟩ ⟨b, by omega⟩ (by show a ≠ 0; omega)
theorem fp_shareI {n d : Int} (h1 : 0 ≤ n ∧ n ≤ 10) (h0 : ¬ n = 0) (h2 : 0 ≤ d ∧ d ≤ 10) : vf_n32 (FP.fdiv (FP.i2f (iI d)) (FP.i2f (iI n))) := by
  obtain ⟨a, rfl⟩ := Int.eq_ofNat_of_zero_le h1.1
  obtain ⟨b, rfl⟩ := Int.eq_ofNat_of_zero_le h2.1
  exact fp_share ⟨a, by omega⟩ ⟨b, by omega⟩ (by show a ≠ 0; omega)
def zf2i (x : UInt32) : Int := (FP.f2i x).toInt
theorem zf2i_I (x : UInt32) : I32 (zf2i x) := I32_x _
theorem rg_sumOf_L {M : Mem} {f c lo hi : Int} (h : ∀ j : Int, f ≤ j → j < f + c → lo ≤ M 0 j ∧ M 0 j ≤ hi) : ∀ (k : Nat) (s i : Int), f ≤ i → i ≤ f + c → f + c - i < k → lo * (i - f) ≤ s → s ≤ hi * (i - f) → f + c ≤ 80 → lo * c ≤ fX6_sumOf_L1 M f c k s i ∧ fX6_sumOf_L1 M f c k s i ≤ hi * c := by
  intro k
  induction k with
  | zero => intro s i _ _ h9; omega
  | succ k ih =>
    intro s i h1 h2 h3 h4 h5 h6
    rw [fX6_sumOf_L1]
    by_cases he : f + c ≤ i
    · rw [if_pos he]
      have : i - f = c := by omega
      rw [this] at h4 h5
      exact ⟨h4, h5⟩
    · rw [if_neg he, if_neg (by omega : ¬ (80 : Int) ≤ i)]
      have a := h i h1 (by omega)
      refine ih _ _ (by omega) (by omega) (by omega) ?_ ?_ h6
      · have : lo * (i + 1 - f) = lo * (i - f) + lo := by rw [show i + 1 - f = (i - f) + 1 by omega, Int.mul_add, Int.mul_one]
        omega
      · have : hi * (i + 1 - f) = hi * (i - f) + hi := by rw [show i + 1 - f = (i - f) + 1 by omega, Int.mul_add, Int.mul_one]
        omega
theorem rg_X6_stainsSum {M : Mem} (h : CI M) : 0 ≤ fX6_stainsSum M ∧ fX6_stainsSum M ≤ 90 := by
  have := rg_sumOf_L (M := M) (f := 30) (c := 10) (lo := 0) (hi := 9) (fun j a b => h.2.2.2.1 j a (by omega)) 11 0 30 (by decide) (by decide) (by decide) (by decide) (by decide) (by decide)
  unfold fX6_stainsSum fX6_sumOf
  omega
theorem rg_X6_foldedCount_L {M : Mem} (h : CI M) : ∀ (k : Nat) (c n : Int), 0 ≤ n → 0 ≤ c → c ≤ n → n ≤ 10 → 0 ≤ fX6_foldedCount_L1 M k c n ∧ fX6_foldedCount_L1 M k c n ≤ 10 := by
  have hz := rg_X6_napkins h
  intro k
  induction k with
  | zero => intro c n _ _ _ _; exact ⟨(by decide : (0 : Int) ≤ 0), (by decide : (0 : Int) ≤ 10)⟩
  | succ k ih =>
    intro c n h1 h2 h3 h4
    rw [fX6_foldedCount_L1]
    (repeat' split) <;> first | omega | exact ih _ _ (by omega) (by omega) (by omega) (by omega)
theorem rg_X6_foldedCount {M : Mem} (h : CI M) : 0 ≤ fX6_foldedCount M ∧ fX6_foldedCount M ≤ 10 := rg_X6_foldedCount_L h 11 0 0 (by decide) (by decide) (by decide) (by decide)
section
variable {p : Program} {l : Launch} {e : Env} {R : Room} {s : State} {m : MethodId} {args : Array Value} {below : List Frame} {meth : Method} {c : Code} {H : Heap} {locs : List Loc} {cells slots : Nat} {Q : State → Prop}
variable {cc : ByteArray} {pc : Nat} {ls : Array Slot} {rest : List Value}
theorem z_f2i (hx : p.tables.exec = Jvm.exec) (hb : c.code = cc) {x : UInt32} (hdg : decode cc pc = .ok (.f2i, 1)) (k : W p l e R s m args below meth c H locs cells slots Q (F0 m (pc + 1) ls (.int (iI (zf2i x)) :: rest))) : W p l e R s m args below meth c H locs cells slots Q (F0 m pc ls (.float x :: rest)) :=
  lv_f2i hx hb hdg (by unfold zf2i at k; rw [iI_x] at k; exact k)
end

def fX8_sure (M : Mem) (table : Int) : Int × Int × Mem := if (fX8_checkTable M table) = 0 then if ((fX4_size (fX8_heard M table)) = 0) then ((6), (0), (fX8_heard M table)) else ((0), (zf2i (FP.fdiv (FP.fsub (FP.fmul (1120403456) (FP.i2f (iI (fX4_size (fX8_heard M table))))) (FP.fmul (1092616192) (FP.i2f (iI (fX4_doubtByNapkins (fX8_heard M table)))))) (FP.i2f (iI (fX4_size (fX8_heard M table)))))), (fX8_heard M table)) else ((fX8_checkTable M table), (0), M)
set_option maxRecDepth 100000 in
set_option maxHeartbeats 4000000 in
theorem kX8_sure (l : Launch) (hst : l.stackTraces = false) (D : va_G) (E : Nat → Nat) (cI cC : ClassId) (T : Nat → Nat) (M : Mem) (table : Int) (h1 : -2147483648 ≤ table ∧ table < 2147483648) (hC : CI M) (hQ : SI M) (kx r : Int) (M' : Mem) (hE : fX8_sure M table = (kx, r, M')) : Cx l yX8_sure wsX8_sure 7 103 2 [.ref (E 0), .int (iI table)] D (TY cI cC) (VC E cI cC) (ZC E cI cC T) M kx (some (.int (iI r))) M' := by
  refine Cx.of (cc := cX8_sure) (maxL := 5) (ret := (some .int)) (by decide +kernel) rfl (Nat.le_of_ble_eq_true rfl) ?_
  intro p e s m args below meth c ls hx hb hml hr hown hts hlocks hP hK hD hZ hS hout hl
  have hl : lv_has ls 5 [(0, .ref (E 0)), (1, .int (iI table))] := hl
  have S0 : CallFix p m c cX8_sure 5 s args wsX8_sure RX8 := ⟨hx, hb, hml, hown, hts⟩
  rw [fX8_sure] at hE
  refine lv_aload_n hx hb dX8_sure_0 rfl (lv_at hl 0 rfl) ?_
  refine lv_iload_n hx hb dX8_sure_1 rfl (lv_at hl 1 rfl) ?_
  refine ct_Vxv (VC_fix E cI cC) (ZC_ok E cI cC T) (ZC_bl E cI cC T) hZ S0 (kX8_checkTable l hst D E cI cC T M table (by omega) (fX8_checkTable M table) rfl) (cwV 1 hts gX8_sure_X8_checkTable rfl rfl rfl (by decide +kernel) ⟨(Nat.le_of_ble_eq_true rfl), (Nat.le_of_ble_eq_true rfl)⟩) hK hP hD hS rfl rfl VC_0 rfl hl.1 rfl (Nat.le_of_ble_eq_true rfl) dX8_sure_2 ⟨(Nat.le_of_ble_eq_true rfl), (Nat.le_of_ble_eq_true rfl)⟩ hout hlocks (Nat.le_of_ble_eq_true rfl) (Nat.le_of_ble_eq_true rfl) (fun b1 => ?_) (fun b1 H locs hP hD hS => ?_)
  · rw [if_neg b1] at hE
    obtain ⟨e0, e1⟩ := Prod.mk.inj hE
    exact ⟨e0, (Prod.mk.inj e1).2⟩
  · rw [if_pos b1] at hE
    refine lv_aload_n hx hb dX8_sure_5 rfl (lv_at hl 0 rfl) ?_
    refine lv_iload_n hx hb dX8_sure_6 rfl (lv_at hl 1 rfl) ?_
    refine ct_Vr (VC_fix E cI cC) (ZC_ok E cI cC T) (ZC_bl E cI cC T) hZ S0 (kX8_heard l D E cI cC (ZC E cI cC T) (ZC_ok E cI cC T) (ZC_bl E cI cC T) M table (by omega) hC (fX8_heard M table) rfl) (cwV 1 hts gX8_sure_X8_heard rfl rfl rfl (by decide +kernel) ⟨(Nat.le_of_ble_eq_true rfl), (Nat.le_of_ble_eq_true rfl)⟩) hK hP hD hS rfl rfl VC_0 rfl hl.1 rfl (Nat.le_of_ble_eq_true rfl) dX8_sure_7 ⟨(Nat.le_of_ble_eq_true rfl), (Nat.le_of_ble_eq_true rfl)⟩ (fun H locs hP hD hS => ?_)
    refine lv_astore_n hx hb dX8_sure_10 rfl hl (Nat.le_of_ble_eq_true rfl) (lv' := [(2, .ref (E 4)), (0, .ref (E 0)), (1, .int (iI table))]) rfl (fun ls hl => ?_)
    refine lv_aload_n hx hb dX8_sure_11 rfl (lv_at hl 0 rfl) ?_
    refine ct_Vi (VC_fix E cI cC) (ZC_ok E cI cC T) (ZC_bl E cI cC T) hZ S0 (kX4_size l D E cI cC (ZC E cI cC T) (ZC_ok E cI cC T) (ZC_bl E cI cC T) (fX8_heard M table) (SI_heard hC hQ table) (fX4_size (fX8_heard M table)) rfl) (cwV 0 hts gX8_sure_X4_size rfl rfl rfl (by decide +kernel) ⟨(Nat.le_of_ble_eq_true rfl), (Nat.le_of_ble_eq_true rfl)⟩) hK hP hD hS rfl rfl VC_4 rfl hl.1 rfl (Nat.le_of_ble_eq_true rfl) dX8_sure_12 ⟨(Nat.le_of_ble_eq_true rfl), (Nat.le_of_ble_eq_true rfl)⟩ (fun H locs hP hD hS => ?_)
    have q2 := rg_X4_size (SI_heard hC hQ table)
    refine z_if_ne hx hb dX8_sure_15 (tgt := 28) rfl (by omega) (fun b3 => ?_) (fun b3 => ?_)
    · rw [if_neg b3] at hE
      refine lv_aload_n hx hb dX8_sure_28 rfl (lv_at hl 0 rfl) ?_
      refine ct_Vi (VC_fix E cI cC) (ZC_ok E cI cC T) (ZC_bl E cI cC T) hZ S0 (kX4_size l D E cI cC (ZC E cI cC T) (ZC_ok E cI cC T) (ZC_bl E cI cC T) (fX8_heard M table) (SI_heard hC hQ table) (fX4_size (fX8_heard M table)) rfl) (cwV 0 hts gX8_sure_X4_size rfl rfl rfl (by decide +kernel) ⟨(Nat.le_of_ble_eq_true rfl), (Nat.le_of_ble_eq_true rfl)⟩) hK hP hD hS rfl rfl VC_4 rfl hl.1 rfl (Nat.le_of_ble_eq_true rfl) dX8_sure_29 ⟨(Nat.le_of_ble_eq_true rfl), (Nat.le_of_ble_eq_true rfl)⟩ (fun H locs hP hD hS => ?_)
      have q4 := rg_X4_size (SI_heard hC hQ table)
      refine lv_i2f hx hb dX8_sure_32 ?_
      refine lv_fstore_n hx hb dX8_sure_33 rfl hl (Nat.le_of_ble_eq_true rfl) (lv' := [(3, .float (FP.i2f (iI (fX4_size (fX8_heard M table))))), (2, .ref (E 4)), (0, .ref (E 0)), (1, .int (iI table))]) rfl (fun ls hl => ?_)
      refine lv_aload_n hx hb dX8_sure_34 rfl (lv_at hl 1 rfl) ?_
      refine ct_Vi (VC_fix E cI cC) (ZC_ok E cI cC T) (ZC_bl E cI cC T) hZ S0 (kX4_doubtByNapkins l D E cI cC (ZC E cI cC T) (ZC_ok E cI cC T) (ZC_bl E cI cC T) (fX8_heard M table) (SI_heard hC hQ table) (fX4_doubtByNapkins (fX8_heard M table)) rfl) (cwV 0 hts gX8_sure_X4_doubtByNapkins rfl rfl rfl (by decide +kernel) ⟨(Nat.le_of_ble_eq_true rfl), (Nat.le_of_ble_eq_true rfl)⟩) hK hP hD hS rfl rfl VC_4 rfl hl.1 rfl (Nat.le_of_ble_eq_true rfl) dX8_sure_35 ⟨(Nat.le_of_ble_eq_true rfl), (Nat.le_of_ble_eq_true rfl)⟩ (fun H locs hP hD hS => ?_)
      have q5 := rg_X4_doubtByNapkins (SI_heard hC hQ table)
      refine lv_i2f hx hb dX8_sure_38 ?_
      refine lv_fstore hx hb dX8_sure_39 hl (Nat.le_of_ble_eq_true rfl) (lv' := [(4, .float (FP.i2f (iI (fX4_doubtByNapkins (fX8_heard M table))))), (3, .float (FP.i2f (iI (fX4_size (fX8_heard M table))))), (2, .ref (E 4)), (0, .ref (E 0)), (1, .int (iI table))]) rfl (fun ls hl => ?_)
      refine lv_ldcf hx hb hown (hts (.constantFloat RX8 241 (1120403456)) (by decide +kernel)) dX8_sure_41 ?_
      refine lv_fload_n hx hb dX8_sure_43 rfl (lv_at hl 1 rfl) ?_
      refine lv_fmul hx hb dX8_sure_44 (fp_sureI (rg_X4_size (SI_heard hC hQ table)) (by assumption) (rg_X4_doubtByNapkins (SI_heard hC hQ table))).1 ?_
      refine lv_ldcf hx hb hown (hts (.constantFloat RX8 242 (1092616192)) (by decide +kernel)) dX8_sure_45 ?_
      refine lv_fload hx hb dX8_sure_47 (lv_at hl 0 rfl) ?_
      refine lv_fmul hx hb dX8_sure_49 (fp_sureI (rg_X4_size (SI_heard hC hQ table)) (by assumption) (rg_X4_doubtByNapkins (SI_heard hC hQ table))).2.1 ?_
      refine lv_fsub hx hb dX8_sure_50 (fp_sureI (rg_X4_size (SI_heard hC hQ table)) (by assumption) (rg_X4_doubtByNapkins (SI_heard hC hQ table))).2.2.1 ?_
      refine lv_fload_n hx hb dX8_sure_51 rfl (lv_at hl 1 rfl) ?_
      refine lv_fdiv hx hb dX8_sure_52 (fp_sureI (rg_X4_size (SI_heard hC hQ table)) (by assumption) (rg_X4_doubtByNapkins (SI_heard hC hQ table))).2.2.2 ?_
      refine z_f2i hx hb dX8_sure_53 ?_
      obtain ⟨e0, e9⟩ := Prod.mk.inj hE
      obtain ⟨e1, e2⟩ := Prod.mk.inj e9
      subst e2
      exact cx_i hx hb hr hlocks e0 e1 rfl hS hP (Nat.le_of_ble_eq_true rfl) (Nat.le_of_ble_eq_true rfl) dX8_sure_54
    · rw [if_pos b3] at hE
      obtain ⟨e0, e1⟩ := Prod.mk.inj hE
      obtain ⟨-, e2⟩ := Prod.mk.inj e1
      subst e2
      exact cx_throw (k := 6) rfl hx hb hst hts hown (by decide +kernel) xn_fit (by decide +kernel) (by decide +kernel) (ZC_t238 hZ) (fun w h => List.mem_cons_of_mem _ (List.mem_append_left _ (List.mem_append_left _ (List.mem_append_right _ h)))) xb_6 xg_6 (ZC_d1 hZ) (ZC_d2 hZ) (ZC_d3 hZ) (ZC_x6 hZ) (ZC_us hZ M) (ZC_ss hZ M) hS hP (hl.1.trans hml.symm) dX8_sure_18 dX8_sure_21 dX8_sure_22 dX8_sure_24 dX8_sure_27 hout (Nat.le_of_ble_eq_true rfl) (Nat.le_of_ble_eq_true rfl) (Nat.le_of_ble_eq_true rfl) (Nat.le_of_ble_eq_true rfl) hlocks (by decide) e0 (Nat.le_of_ble_eq_true rfl) (Nat.le_of_ble_eq_true rfl)

theorem fr_fX8_sure {M : Mem} (table : Int) {r : Nat} (h1 : Nat.beq r 1 = false) (h2 : Nat.beq r 2 = false) (h3 : Nat.beq r 3 = false) (h4 : Nat.beq r 4 = false) (h7 : Nat.beq r 7 = false) : (fX8_sure M table).2.2 r = M r := by
  unfold fX8_sure
  (repeat' with_reducible refine frite_x (fun _ => ?_) (fun _ => ?_)) <;> first | with_reducible rfl | simp only [mst_o, msf_o, mcp_o, fr_fX8_heard, h1, h2, h3, h4, h7]

def fX8_rightTables_L1 (M : Mem) : Nat → Mem → Int → Int → (Int × Mem)
  | 0, Mx, _, _ => (0, Mx)
  | k1 + 1, Mx, count, tab => if ((3) ≤ tab) then (count, Mx) else if ((fX4_isWhole (fX8_heard Mx tab)) = 0) then fX8_rightTables_L1 M k1 (fX8_heard Mx tab) count (tab + 1) else fX8_rightTables_L1 M k1 (fX8_heard Mx tab) (count + 1) (tab + 1)
def fX8_rightTables (M : Mem) : Int × Mem := fX8_rightTables_L1 M 4 M (0) (0)
set_option maxRecDepth 100000 in
set_option maxHeartbeats 4000000 in
theorem kX8_rightTables (l : Launch) (D : va_G) (E : Nat → Nat) (cI cC : ClassId) (Z : State → Prop) (hZo : ∀ M : Mem, ZOk (VC E cI cC M) Z) (hZb : ZBl Z) (M : Mem) (hC : CI M) (hQ : SI M) (r : Int) (M' : Mem) (hE : fX8_rightTables M = (r, M')) : Ci l yX8_rightTables wsX8_rightTables 4 88 [.ref (E 0)] D (TY cI cC) (VC E cI cC) Z M r M' := by
  refine Ci.of (cc := cX8_rightTables) (maxL := 3) (ret := (some .int)) (by decide +kernel) rfl (Nat.le_of_ble_eq_true rfl) ?_
  intro p e s m args below meth c ls hx hb hml hr hown hts hlocks hP hK hD hZ hS hl
  have hl : lv_has ls 3 [(0, .ref (E 0))] := hl
  have S0 : CallFix p m c cX8_rightTables 3 s args wsX8_rightTables RX8 := ⟨hx, hb, hml, hown, hts⟩
  rw [fX8_rightTables] at hE
  refine z_iconst hx hb dX8_rightTables_0 ?_
  refine lv_istore_n hx hb dX8_rightTables_1 rfl hl (Nat.le_of_ble_eq_true rfl) (lv' := [(1, .int (iI (0))), (0, .ref (E 0))]) rfl (fun ls hl => ?_)
  refine z_iconst hx hb dX8_rightTables_2 ?_
  refine lv_istore_n hx hb dX8_rightTables_3 rfl hl (Nat.le_of_ble_eq_true rfl) (lv' := [(2, .int (iI (0))), (1, .int (iI (0))), (0, .ref (E 0))]) rfl (fun ls hl => ?_)
  have L1 : ∀ (k1 : Nat) (Mx : Mem) (count tab : Int) (ls : Array Slot) (H : Heap) (locs : List Loc), lv_has ls 3 [(0, .ref (E 0)), (1, .int (iI count)), (2, .int (iI tab))] → va_P D vwCl (VC E cI cC Mx) H → va_D (wA (VC E cI cC M)) (VC E cI cC Mx) → va_S (wA (VC E cI cC M)) s.heap H locs → (0 ≤ tab ∧ tab ≤ 3) → (3 - tab < (k1 : Int)) → (CI Mx) → (SI Mx) → fX8_rightTables_L1 M k1 Mx count tab = (r, M') → W p l e (zRm 4 88) s m args below meth c H locs 0 0 (MQ below (ciQ D (VC E cI cC) M r M') args s 0 0 (wA (VC E cI cC M))) (F0 m 4 ls []) := by
    intro k1
    induction k1 with
    | zero => intro Mx count tab ls H locs hl hP hD hS i1 i3 jC jQ hE; exfalso; omega
    | succ k1 ih1 =>
      intro Mx count tab ls H locs hl hP hD hS i1 i3 jC jQ hE
      rw [fX8_rightTables_L1] at hE
      refine lv_iload_n hx hb dX8_rightTables_4 rfl (lv_at hl 2 rfl) ?_
      refine z_iconst hx hb dX8_rightTables_5 ?_
      refine z_icmp_ge hx hb dX8_rightTables_6 (tgt := 29) rfl (by omega) (by omega) (fun b1 => ?_) (fun b1 => ?_)
      · rw [if_pos b1] at hE
        refine lv_iload_n hx hb dX8_rightTables_29 rfl (lv_at hl 1 rfl) ?_
        obtain ⟨e1, e2⟩ := Prod.mk.inj hE
        subst e2
        exact ci_i hx hb hr hlocks e1 rfl hS hP dX8_rightTables_30
      · rw [if_neg b1] at hE
        refine lv_aload_n hx hb dX8_rightTables_9 rfl (lv_at hl 0 rfl) ?_
        refine lv_iload_n hx hb dX8_rightTables_10 rfl (lv_at hl 2 rfl) ?_
        refine ct_Vr (VC_fix E cI cC) hZo hZb hZ S0 (kX8_heard l D E cI cC Z hZo hZb Mx tab (by omega) jC (fX8_heard Mx tab) rfl) (cwV 1 hts gX8_rightTables_X8_heard rfl rfl rfl (by decide +kernel) ⟨(Nat.le_of_ble_eq_true rfl), (Nat.le_of_ble_eq_true rfl)⟩) hK hP hD hS rfl rfl VC_0 rfl hl.1 rfl (Nat.le_of_ble_eq_true rfl) dX8_rightTables_11 ⟨Nat.zero_le _, Nat.zero_le _⟩ (fun H locs hP hD hS => ?_)
        refine ct_Vi (VC_fix E cI cC) hZo hZb hZ S0 (kX4_isWhole l D E cI cC Z hZo hZb (fX8_heard Mx tab) (SI_heard jC jQ tab) (fX4_isWhole (fX8_heard Mx tab)) rfl) (cwV 0 hts gX8_rightTables_X4_isWhole rfl rfl rfl (by decide +kernel) ⟨(Nat.le_of_ble_eq_true rfl), (Nat.le_of_ble_eq_true rfl)⟩) hK hP hD hS rfl rfl VC_4 rfl hl.1 rfl (Nat.le_of_ble_eq_true rfl) dX8_rightTables_14 ⟨Nat.zero_le _, Nat.zero_le _⟩ (fun H locs hP hD hS => ?_)
        have q2 := bX4_isWhole (fX8_heard Mx tab)
        refine z_if_eq hx hb dX8_rightTables_17 (tgt := 23) rfl (by omega) (fun b3 => ?_) (fun b3 => ?_)
        · rw [if_pos b3] at hE
          refine z_iinc hx hb dX8_rightTables_23 hl (k := 2) rfl (Nat.le_of_ble_eq_true rfl) (lv' := [(2, .int (iI (tab + 1))), (0, .ref (E 0)), (1, .int (iI count))]) rfl (fun ls hl => ?_)
          refine lv_goto hx hb dX8_rightTables_26 (tgt := 4) rfl ?_
          exact ih1 (fX8_heard Mx tab) count (tab + 1) ls _ _ (lv_sub hl [1, 2, 0] rfl) hP hD hS (by omega) (by omega) (CI_of0 (fr_fX8_heard _ rfl rfl rfl rfl rfl) jC) (SI_heard jC jQ _) hE
        · rw [if_neg b3] at hE
          refine z_iinc hx hb dX8_rightTables_20 hl (k := 1) rfl (Nat.le_of_ble_eq_true rfl) (lv' := [(1, .int (iI (count + 1))), (0, .ref (E 0)), (2, .int (iI tab))]) rfl (fun ls hl => ?_)
          refine z_iinc hx hb dX8_rightTables_23 hl (k := 2) rfl (Nat.le_of_ble_eq_true rfl) (lv' := [(2, .int (iI (tab + 1))), (1, .int (iI (count + 1))), (0, .ref (E 0))]) rfl (fun ls hl => ?_)
          refine lv_goto hx hb dX8_rightTables_26 (tgt := 4) rfl ?_
          exact ih1 (fX8_heard Mx tab) (count + 1) (tab + 1) ls _ _ (lv_sub hl [2, 1, 0] rfl) hP hD hS (by omega) (by omega) (CI_of0 (fr_fX8_heard _ rfl rfl rfl rfl rfl) jC) (SI_heard jC jQ _) hE
  exact L1 4 M (0) (0) ls _ _ (lv_sub hl [2, 1, 0] rfl) hP hD hS (by omega) (by omega) hC hQ hE

theorem fr_fX8_rightTables_L1 (M : Mem) {r : Nat} (h1 : Nat.beq r 1 = false) (h2 : Nat.beq r 2 = false) (h3 : Nat.beq r 3 = false) (h4 : Nat.beq r 4 = false) (h7 : Nat.beq r 7 = false) : ∀ (k : Nat) (Mx : Mem) (count tab : Int), (fX8_rightTables_L1 M k Mx count tab).2 r = Mx r := by
  intro k
  induction k with
  | zero => intros; rfl
  | succ k ih =>
    intro Mx count tab
    rw [fX8_rightTables_L1]
    (repeat' with_reducible refine frite_w (fun _ => ?_) (fun _ => ?_)) <;> first | with_reducible rfl | simp only [ih, mst_o, msf_o, mcp_o, fr_fX8_heard, h1, h2, h3, h4, h7]
theorem fr_fX8_rightTables {M : Mem} {r : Nat} (h1 : Nat.beq r 1 = false) (h2 : Nat.beq r 2 = false) (h3 : Nat.beq r 3 = false) (h4 : Nat.beq r 4 = false) (h7 : Nat.beq r 7 = false) : (fX8_rightTables M).2 r = M r := by
  unfold fX8_rightTables
  (repeat' with_reducible refine frite_w (fun _ => ?_) (fun _ => ?_)) <;> first | with_reducible rfl | simp only [mst_o, msf_o, mcp_o, fr_fX8_heard, h1, h2, h3, h4, h7, fr_fX8_rightTables_L1]

def fX8_isTableAhead (M : Mem) (one other : Int) : Int × Mem := if ((fX4_phraseCount (fX8_heard M one)) = (fX4_phraseCount (fX8_heard (fX8_heard M one) other))) then if ((fX4_doubtByNapkins (fX8_heard (fX8_heard (fX8_heard M one) other) one)) = (fX4_doubtByNapkins (fX8_heard (fX8_heard (fX8_heard (fX8_heard M one) other) one) other))) then if (other ≤ one) then ((0), (fX8_heard (fX8_heard (fX8_heard (fX8_heard M one) other) one) other)) else ((1), (fX8_heard (fX8_heard (fX8_heard (fX8_heard M one) other) one) other)) else if ((fX4_doubtByNapkins (fX8_heard (fX8_heard (fX8_heard (fX8_heard M one) other) one) other)) ≤ (fX4_doubtByNapkins (fX8_heard (fX8_heard (fX8_heard M one) other) one))) then ((0), (fX8_heard (fX8_heard (fX8_heard (fX8_heard M one) other) one) other)) else ((1), (fX8_heard (fX8_heard (fX8_heard (fX8_heard M one) other) one) other)) else if ((fX4_phraseCount (fX8_heard M one)) ≤ (fX4_phraseCount (fX8_heard (fX8_heard M one) other))) then ((0), (fX8_heard (fX8_heard M one) other)) else ((1), (fX8_heard (fX8_heard M one) other))
set_option maxRecDepth 100000 in
set_option maxHeartbeats 4000000 in
theorem kX8_isTableAhead (l : Launch) (D : va_G) (E : Nat → Nat) (cI cC : ClassId) (Z : State → Prop) (hZo : ∀ M : Mem, ZOk (VC E cI cC M) Z) (hZb : ZBl Z) (M : Mem) (one other : Int) (h1 : -2147483648 ≤ one ∧ one < 2147483648) (h2 : -2147483648 ≤ other ∧ other < 2147483648) (hC : CI M) (hQ : SI M) (r : Int) (M' : Mem) (hE : fX8_isTableAhead M one other = (r, M')) : Ci l yX8_isTableAhead wsX8_isTableAhead 4 88 [.ref (E 0), .int (iI one), .int (iI other)] D (TY cI cC) (VC E cI cC) Z M r M' := by
  refine Ci.of (cc := cX8_isTableAhead) (maxL := 7) (ret := (some .boolean)) (by decide +kernel) rfl (Nat.le_of_ble_eq_true rfl) ?_
  intro p e s m args below meth c ls hx hb hml hr hown hts hlocks hP hK hD hZ hS hl
  have hl : lv_has ls 7 [(0, .ref (E 0)), (1, .int (iI one)), (2, .int (iI other))] := hl
  have S0 : CallFix p m c cX8_isTableAhead 7 s args wsX8_isTableAhead RX8 := ⟨hx, hb, hml, hown, hts⟩
  rw [fX8_isTableAhead] at hE
  refine lv_aload_n hx hb dX8_isTableAhead_0 rfl (lv_at hl 0 rfl) ?_
  refine lv_iload_n hx hb dX8_isTableAhead_1 rfl (lv_at hl 1 rfl) ?_
  refine ct_Vr (VC_fix E cI cC) hZo hZb hZ S0 (kX8_heard l D E cI cC Z hZo hZb M one (by omega) hC (fX8_heard M one) rfl) (cwV 1 hts gX8_isTableAhead_X8_heard rfl rfl rfl (by decide +kernel) ⟨(Nat.le_of_ble_eq_true rfl), (Nat.le_of_ble_eq_true rfl)⟩) hK hP hD hS rfl rfl VC_0 rfl hl.1 rfl (Nat.le_of_ble_eq_true rfl) dX8_isTableAhead_2 ⟨Nat.zero_le _, Nat.zero_le _⟩ (fun H locs hP hD hS => ?_)
  refine ct_Vi (VC_fix E cI cC) hZo hZb hZ S0 (kX4_phraseCount l D E cI cC Z hZo hZb (fX8_heard M one) (SI_heard hC hQ one) (fX4_phraseCount (fX8_heard M one)) rfl) (cwV 0 hts gX8_isTableAhead_X4_phraseCount rfl rfl rfl (by decide +kernel) ⟨(Nat.le_of_ble_eq_true rfl), (Nat.le_of_ble_eq_true rfl)⟩) hK hP hD hS rfl rfl VC_4 rfl hl.1 rfl (Nat.le_of_ble_eq_true rfl) dX8_isTableAhead_5 ⟨Nat.zero_le _, Nat.zero_le _⟩ (fun H locs hP hD hS => ?_)
  have q1 := rg_X4_phraseCount (SI_heard hC hQ one)
  refine lv_istore_n hx hb dX8_isTableAhead_8 rfl hl (Nat.le_of_ble_eq_true rfl) (lv' := [(3, .int (iI (fX4_phraseCount (fX8_heard M one)))), (0, .ref (E 0)), (1, .int (iI one)), (2, .int (iI other))]) rfl (fun ls hl => ?_)
  refine lv_aload_n hx hb dX8_isTableAhead_9 rfl (lv_at hl 1 rfl) ?_
  refine lv_iload_n hx hb dX8_isTableAhead_10 rfl (lv_at hl 3 rfl) ?_
  refine ct_Vr (VC_fix E cI cC) hZo hZb hZ S0 (kX8_heard l D E cI cC Z hZo hZb (fX8_heard M one) other (by omega) (CI_of0 (fr_fX8_heard one rfl rfl rfl rfl rfl) hC) (fX8_heard (fX8_heard M one) other) rfl) (cwV 1 hts gX8_isTableAhead_X8_heard rfl rfl rfl (by decide +kernel) ⟨(Nat.le_of_ble_eq_true rfl), (Nat.le_of_ble_eq_true rfl)⟩) hK hP hD hS rfl rfl VC_0 rfl hl.1 rfl (Nat.le_of_ble_eq_true rfl) dX8_isTableAhead_11 ⟨Nat.zero_le _, Nat.zero_le _⟩ (fun H locs hP hD hS => ?_)
  refine ct_Vi (VC_fix E cI cC) hZo hZb hZ S0 (kX4_phraseCount l D E cI cC Z hZo hZb (fX8_heard (fX8_heard M one) other) (SI_heard (CI_of0 (fr_fX8_heard one rfl rfl rfl rfl rfl) hC) (SI_heard hC hQ one) other) (fX4_phraseCount (fX8_heard (fX8_heard M one) other)) rfl) (cwV 0 hts gX8_isTableAhead_X4_phraseCount rfl rfl rfl (by decide +kernel) ⟨(Nat.le_of_ble_eq_true rfl), (Nat.le_of_ble_eq_true rfl)⟩) hK hP hD hS rfl rfl VC_4 rfl hl.1 rfl (Nat.le_of_ble_eq_true rfl) dX8_isTableAhead_14 ⟨Nat.zero_le _, Nat.zero_le _⟩ (fun H locs hP hD hS => ?_)
  have q2 := rg_X4_phraseCount (SI_heard (CI_of0 (fr_fX8_heard one rfl rfl rfl rfl rfl) hC) (SI_heard hC hQ one) other)
  refine lv_istore hx hb dX8_isTableAhead_17 hl (Nat.le_of_ble_eq_true rfl) (lv' := [(4, .int (iI (fX4_phraseCount (fX8_heard (fX8_heard M one) other)))), (3, .int (iI (fX4_phraseCount (fX8_heard M one)))), (0, .ref (E 0)), (1, .int (iI one)), (2, .int (iI other))]) rfl (fun ls hl => ?_)
  refine lv_iload_n hx hb dX8_isTableAhead_19 rfl (lv_at hl 1 rfl) ?_
  refine lv_iload hx hb dX8_isTableAhead_20 (lv_at hl 0 rfl) ?_
  refine z_icmp_eq hx hb dX8_isTableAhead_22 (tgt := 37) rfl (by omega) (by omega) (fun b3 => ?_) (fun b3 => ?_)
  · rw [if_pos b3] at hE
    refine lv_aload_n hx hb dX8_isTableAhead_37 rfl (lv_at hl 2 rfl) ?_
    refine lv_iload_n hx hb dX8_isTableAhead_38 rfl (lv_at hl 3 rfl) ?_
    refine ct_Vr (VC_fix E cI cC) hZo hZb hZ S0 (kX8_heard l D E cI cC Z hZo hZb (fX8_heard (fX8_heard M one) other) one (by omega) (CI_of0 (fr_fX8_heard other rfl rfl rfl rfl rfl) (CI_of0 (fr_fX8_heard one rfl rfl rfl rfl rfl) hC)) (fX8_heard (fX8_heard (fX8_heard M one) other) one) rfl) (cwV 1 hts gX8_isTableAhead_X8_heard rfl rfl rfl (by decide +kernel) ⟨(Nat.le_of_ble_eq_true rfl), (Nat.le_of_ble_eq_true rfl)⟩) hK hP hD hS rfl rfl VC_0 rfl hl.1 rfl (Nat.le_of_ble_eq_true rfl) dX8_isTableAhead_39 ⟨Nat.zero_le _, Nat.zero_le _⟩ (fun H locs hP hD hS => ?_)
    refine ct_Vi (VC_fix E cI cC) hZo hZb hZ S0 (kX4_doubtByNapkins l D E cI cC Z hZo hZb (fX8_heard (fX8_heard (fX8_heard M one) other) one) (SI_heard (CI_of0 (fr_fX8_heard other rfl rfl rfl rfl rfl) (CI_of0 (fr_fX8_heard one rfl rfl rfl rfl rfl) hC)) (SI_heard (CI_of0 (fr_fX8_heard one rfl rfl rfl rfl rfl) hC) (SI_heard hC hQ one) other) one) (fX4_doubtByNapkins (fX8_heard (fX8_heard (fX8_heard M one) other) one)) rfl) (cwV 0 hts gX8_isTableAhead_X4_doubtByNapkins rfl rfl rfl (by decide +kernel) ⟨(Nat.le_of_ble_eq_true rfl), (Nat.le_of_ble_eq_true rfl)⟩) hK hP hD hS rfl rfl VC_4 rfl hl.1 rfl (Nat.le_of_ble_eq_true rfl) dX8_isTableAhead_42 ⟨Nat.zero_le _, Nat.zero_le _⟩ (fun H locs hP hD hS => ?_)
    have q4 := rg_X4_doubtByNapkins (SI_heard (CI_of0 (fr_fX8_heard other rfl rfl rfl rfl rfl) (CI_of0 (fr_fX8_heard one rfl rfl rfl rfl rfl) hC)) (SI_heard (CI_of0 (fr_fX8_heard one rfl rfl rfl rfl rfl) hC) (SI_heard hC hQ one) other) one)
    refine lv_istore hx hb dX8_isTableAhead_45 hl (Nat.le_of_ble_eq_true rfl) (lv' := [(5, .int (iI (fX4_doubtByNapkins (fX8_heard (fX8_heard (fX8_heard M one) other) one)))), (4, .int (iI (fX4_phraseCount (fX8_heard (fX8_heard M one) other)))), (3, .int (iI (fX4_phraseCount (fX8_heard M one)))), (0, .ref (E 0)), (1, .int (iI one)), (2, .int (iI other))]) rfl (fun ls hl => ?_)
    refine lv_aload_n hx hb dX8_isTableAhead_47 rfl (lv_at hl 3 rfl) ?_
    refine lv_iload_n hx hb dX8_isTableAhead_48 rfl (lv_at hl 5 rfl) ?_
    refine ct_Vr (VC_fix E cI cC) hZo hZb hZ S0 (kX8_heard l D E cI cC Z hZo hZb (fX8_heard (fX8_heard (fX8_heard M one) other) one) other (by omega) (CI_of0 (fr_fX8_heard one rfl rfl rfl rfl rfl) (CI_of0 (fr_fX8_heard other rfl rfl rfl rfl rfl) (CI_of0 (fr_fX8_heard one rfl rfl rfl rfl rfl) hC))) (fX8_heard (fX8_heard (fX8_heard (fX8_heard M one) other) one) other) rfl) (cwV 1 hts gX8_isTableAhead_X8_heard rfl rfl rfl (by decide +kernel) ⟨(Nat.le_of_ble_eq_true rfl), (Nat.le_of_ble_eq_true rfl)⟩) hK hP hD hS rfl rfl VC_0 rfl hl.1 rfl (Nat.le_of_ble_eq_true rfl) dX8_isTableAhead_49 ⟨Nat.zero_le _, Nat.zero_le _⟩ (fun H locs hP hD hS => ?_)
    refine ct_Vi (VC_fix E cI cC) hZo hZb hZ S0 (kX4_doubtByNapkins l D E cI cC Z hZo hZb (fX8_heard (fX8_heard (fX8_heard (fX8_heard M one) other) one) other) (SI_heard (CI_of0 (fr_fX8_heard one rfl rfl rfl rfl rfl) (CI_of0 (fr_fX8_heard other rfl rfl rfl rfl rfl) (CI_of0 (fr_fX8_heard one rfl rfl rfl rfl rfl) hC))) (SI_heard (CI_of0 (fr_fX8_heard other rfl rfl rfl rfl rfl) (CI_of0 (fr_fX8_heard one rfl rfl rfl rfl rfl) hC)) (SI_heard (CI_of0 (fr_fX8_heard one rfl rfl rfl rfl rfl) hC) (SI_heard hC hQ one) other) one) other) (fX4_doubtByNapkins (fX8_heard (fX8_heard (fX8_heard (fX8_heard M one) other) one) other)) rfl) (cwV 0 hts gX8_isTableAhead_X4_doubtByNapkins rfl rfl rfl (by decide +kernel) ⟨(Nat.le_of_ble_eq_true rfl), (Nat.le_of_ble_eq_true rfl)⟩) hK hP hD hS rfl rfl VC_4 rfl hl.1 rfl (Nat.le_of_ble_eq_true rfl) dX8_isTableAhead_52 ⟨Nat.zero_le _, Nat.zero_le _⟩ (fun H locs hP hD hS => ?_)
    have q5 := rg_X4_doubtByNapkins (SI_heard (CI_of0 (fr_fX8_heard one rfl rfl rfl rfl rfl) (CI_of0 (fr_fX8_heard other rfl rfl rfl rfl rfl) (CI_of0 (fr_fX8_heard one rfl rfl rfl rfl rfl) hC))) (SI_heard (CI_of0 (fr_fX8_heard other rfl rfl rfl rfl rfl) (CI_of0 (fr_fX8_heard one rfl rfl rfl rfl rfl) hC)) (SI_heard (CI_of0 (fr_fX8_heard one rfl rfl rfl rfl rfl) hC) (SI_heard hC hQ one) other) one) other)
    refine lv_istore hx hb dX8_isTableAhead_55 hl (Nat.le_of_ble_eq_true rfl) (lv' := [(6, .int (iI (fX4_doubtByNapkins (fX8_heard (fX8_heard (fX8_heard (fX8_heard M one) other) one) other)))), (5, .int (iI (fX4_doubtByNapkins (fX8_heard (fX8_heard (fX8_heard M one) other) one)))), (4, .int (iI (fX4_phraseCount (fX8_heard (fX8_heard M one) other)))), (3, .int (iI (fX4_phraseCount (fX8_heard M one)))), (0, .ref (E 0)), (1, .int (iI one)), (2, .int (iI other))]) rfl (fun ls hl => ?_)
    refine lv_iload hx hb dX8_isTableAhead_57 (lv_at hl 1 rfl) ?_
    refine lv_iload hx hb dX8_isTableAhead_59 (lv_at hl 0 rfl) ?_
    refine z_icmp_eq hx hb dX8_isTableAhead_61 (tgt := 77) rfl (by omega) (by omega) (fun b6 => ?_) (fun b6 => ?_)
    · rw [if_pos b6] at hE
      refine lv_iload_n hx hb dX8_isTableAhead_77 rfl (lv_at hl 5 rfl) ?_
      refine lv_iload_n hx hb dX8_isTableAhead_78 rfl (lv_at hl 6 rfl) ?_
      refine z_icmp_ge hx hb dX8_isTableAhead_79 (tgt := 86) rfl (by omega) (by omega) (fun b7 => ?_) (fun b7 => ?_)
      · rw [if_pos b7] at hE
        refine z_iconst hx hb dX8_isTableAhead_86 ?_
        obtain ⟨e1, e2⟩ := Prod.mk.inj hE
        subst e2
        exact ci_i hx hb hr hlocks e1 nr_b0 hS hP dX8_isTableAhead_87
      · rw [if_neg b7] at hE
        refine z_iconst hx hb dX8_isTableAhead_82 ?_
        refine lv_goto hx hb dX8_isTableAhead_83 (tgt := 87) rfl ?_
        obtain ⟨e1, e2⟩ := Prod.mk.inj hE
        subst e2
        exact ci_i hx hb hr hlocks e1 nr_b1 hS hP dX8_isTableAhead_87
    · rw [if_neg b6] at hE
      refine lv_iload hx hb dX8_isTableAhead_64 (lv_at hl 1 rfl) ?_
      refine lv_iload hx hb dX8_isTableAhead_66 (lv_at hl 0 rfl) ?_
      refine z_icmp_ge hx hb dX8_isTableAhead_68 (tgt := 75) rfl (by omega) (by omega) (fun b8 => ?_) (fun b8 => ?_)
      · rw [if_pos b8] at hE
        refine z_iconst hx hb dX8_isTableAhead_75 ?_
        obtain ⟨e1, e2⟩ := Prod.mk.inj hE
        subst e2
        exact ci_i hx hb hr hlocks e1 nr_b0 hS hP dX8_isTableAhead_76
      · rw [if_neg b8] at hE
        refine z_iconst hx hb dX8_isTableAhead_71 ?_
        refine lv_goto hx hb dX8_isTableAhead_72 (tgt := 76) rfl ?_
        obtain ⟨e1, e2⟩ := Prod.mk.inj hE
        subst e2
        exact ci_i hx hb hr hlocks e1 nr_b1 hS hP dX8_isTableAhead_76
  · rw [if_neg b3] at hE
    refine lv_iload_n hx hb dX8_isTableAhead_25 rfl (lv_at hl 1 rfl) ?_
    refine lv_iload hx hb dX8_isTableAhead_26 (lv_at hl 0 rfl) ?_
    refine z_icmp_le hx hb dX8_isTableAhead_28 (tgt := 35) rfl (by omega) (by omega) (fun b9 => ?_) (fun b9 => ?_)
    · rw [if_pos b9] at hE
      refine z_iconst hx hb dX8_isTableAhead_35 ?_
      obtain ⟨e1, e2⟩ := Prod.mk.inj hE
      subst e2
      exact ci_i hx hb hr hlocks e1 nr_b0 hS hP dX8_isTableAhead_36
    · rw [if_neg b9] at hE
      refine z_iconst hx hb dX8_isTableAhead_31 ?_
      refine lv_goto hx hb dX8_isTableAhead_32 (tgt := 36) rfl ?_
      obtain ⟨e1, e2⟩ := Prod.mk.inj hE
      subst e2
      exact ci_i hx hb hr hlocks e1 nr_b1 hS hP dX8_isTableAhead_36

theorem fr_fX8_isTableAhead {M : Mem} (one other : Int) {r : Nat} (h1 : Nat.beq r 1 = false) (h2 : Nat.beq r 2 = false) (h3 : Nat.beq r 3 = false) (h4 : Nat.beq r 4 = false) (h7 : Nat.beq r 7 = false) : (fX8_isTableAhead M one other).2 r = M r := by
  unfold fX8_isTableAhead
  (repeat' with_reducible refine frite_w (fun _ => ?_) (fun _ => ?_)) <;> first | with_reducible rfl | simp only [mst_o, msf_o, mcp_o, fr_fX8_heard, h1, h2, h3, h4, h7]


theorem bX8_isTableAhead (M : Mem) (o t : Int) : 0 ≤ (fX8_isTableAhead M o t).1 ∧ (fX8_isTableAhead M o t).1 ≤ 1 := by unfold fX8_isTableAhead; (repeat' split) <;> first | exact ⟨(by decide : (0 : Int) ≤ 1), (by decide : (1 : Int) ≤ 1)⟩ | exact ⟨(by decide : (0 : Int) ≤ 0), (by decide : (0 : Int) ≤ 1)⟩
theorem SI_isTableAhead {M : Mem} (hC : CI M) (hQ : SI M) (o t : Int) : SI (fX8_isTableAhead M o t).2 := by
  have C1 : ∀ {N : Mem} (x : Int), CI N → CI (fX8_heard N x) := fun x h => CI_of0 (fr_fX8_heard _ rfl rfl rfl rfl rfl) h
  have key : (fX8_isTableAhead M o t).2 = fX8_heard (fX8_heard M o) t ∨ (fX8_isTableAhead M o t).2 = fX8_heard (fX8_heard (fX8_heard (fX8_heard M o) t) o) t := by
    unfold fX8_isTableAhead
    (repeat' split) <;> first | (left; with_reducible rfl) | (right; with_reducible rfl)
  rcases key with h | h <;> rw [h]
  · exact SI_heard (C1 _ hC) (SI_heard hC hQ _) _
  · exact SI_heard (C1 _ (C1 _ (C1 _ hC))) (SI_heard (C1 _ (C1 _ hC)) (SI_heard (C1 _ hC) (SI_heard hC hQ _) _) _) _

def fX8_tablesAheadOf_L1 (M : Mem) (table : Int) : Nat → Mem → Int → Int → (Int × Mem)
  | 0, Mx, _, _ => (0, Mx)
  | k1 + 1, Mx, count, tab => if ((3) ≤ tab) then (count, Mx) else if ((fX8_isTableAhead Mx tab table).1 = 0) then fX8_tablesAheadOf_L1 M table k1 (fX8_isTableAhead Mx tab table).2 count (tab + 1) else fX8_tablesAheadOf_L1 M table k1 (fX8_isTableAhead Mx tab table).2 (count + 1) (tab + 1)
def fX8_tablesAheadOf (M : Mem) (table : Int) : Int × Mem := fX8_tablesAheadOf_L1 M table 4 M (0) (0)
set_option maxRecDepth 100000 in
set_option maxHeartbeats 4000000 in
theorem kX8_tablesAheadOf (l : Launch) (D : va_G) (E : Nat → Nat) (cI cC : ClassId) (Z : State → Prop) (hZo : ∀ M : Mem, ZOk (VC E cI cC M) Z) (hZb : ZBl Z) (M : Mem) (table : Int) (h1 : -2147483648 ≤ table ∧ table < 2147483648) (hC : CI M) (hQ : SI M) (r : Int) (M' : Mem) (hE : fX8_tablesAheadOf M table = (r, M')) : Ci l yX8_tablesAheadOf wsX8_tablesAheadOf 5 114 [.ref (E 0), .int (iI table)] D (TY cI cC) (VC E cI cC) Z M r M' := by
  refine Ci.of (cc := cX8_tablesAheadOf) (maxL := 4) (ret := (some .int)) (by decide +kernel) rfl (Nat.le_of_ble_eq_true rfl) ?_
  intro p e s m args below meth c ls hx hb hml hr hown hts hlocks hP hK hD hZ hS hl
  have hl : lv_has ls 4 [(0, .ref (E 0)), (1, .int (iI table))] := hl
  have S0 : CallFix p m c cX8_tablesAheadOf 4 s args wsX8_tablesAheadOf RX8 := ⟨hx, hb, hml, hown, hts⟩
  rw [fX8_tablesAheadOf] at hE
  refine z_iconst hx hb dX8_tablesAheadOf_0 ?_
  refine lv_istore_n hx hb dX8_tablesAheadOf_1 rfl hl (Nat.le_of_ble_eq_true rfl) (lv' := [(2, .int (iI (0))), (0, .ref (E 0)), (1, .int (iI table))]) rfl (fun ls hl => ?_)
  refine z_iconst hx hb dX8_tablesAheadOf_2 ?_
  refine lv_istore_n hx hb dX8_tablesAheadOf_3 rfl hl (Nat.le_of_ble_eq_true rfl) (lv' := [(3, .int (iI (0))), (2, .int (iI (0))), (0, .ref (E 0)), (1, .int (iI table))]) rfl (fun ls hl => ?_)
  have L1 : ∀ (k1 : Nat) (Mx : Mem) (count tab : Int) (ls : Array Slot) (H : Heap) (locs : List Loc), lv_has ls 4 [(0, .ref (E 0)), (1, .int (iI table)), (2, .int (iI count)), (3, .int (iI tab))] → va_P D vwCl (VC E cI cC Mx) H → va_D (wA (VC E cI cC M)) (VC E cI cC Mx) → va_S (wA (VC E cI cC M)) s.heap H locs → (0 ≤ tab ∧ tab ≤ 3) → (3 - tab < (k1 : Int)) → (CI Mx) → (SI Mx) → fX8_tablesAheadOf_L1 M table k1 Mx count tab = (r, M') → W p l e (zRm 5 114) s m args below meth c H locs 0 0 (MQ below (ciQ D (VC E cI cC) M r M') args s 0 0 (wA (VC E cI cC M))) (F0 m 4 ls []) := by
    intro k1
    induction k1 with
    | zero => intro Mx count tab ls H locs hl hP hD hS i1 i3 jC jQ hE; exfalso; omega
    | succ k1 ih1 =>
      intro Mx count tab ls H locs hl hP hD hS i1 i3 jC jQ hE
      rw [fX8_tablesAheadOf_L1] at hE
      refine lv_iload_n hx hb dX8_tablesAheadOf_4 rfl (lv_at hl 3 rfl) ?_
      refine z_iconst hx hb dX8_tablesAheadOf_5 ?_
      refine z_icmp_ge hx hb dX8_tablesAheadOf_6 (tgt := 27) rfl (by omega) (by omega) (fun b1 => ?_) (fun b1 => ?_)
      · rw [if_pos b1] at hE
        refine lv_iload_n hx hb dX8_tablesAheadOf_27 rfl (lv_at hl 2 rfl) ?_
        obtain ⟨e1, e2⟩ := Prod.mk.inj hE
        subst e2
        exact ci_i hx hb hr hlocks e1 rfl hS hP dX8_tablesAheadOf_28
      · rw [if_neg b1] at hE
        refine lv_aload_n hx hb dX8_tablesAheadOf_9 rfl (lv_at hl 0 rfl) ?_
        refine lv_iload_n hx hb dX8_tablesAheadOf_10 rfl (lv_at hl 3 rfl) ?_
        refine lv_iload_n hx hb dX8_tablesAheadOf_11 rfl (lv_at hl 1 rfl) ?_
        refine ct_Vi (VC_fix E cI cC) hZo hZb hZ S0 (kX8_isTableAhead l D E cI cC Z hZo hZb Mx tab table (by omega) (by omega) jC jQ (fX8_isTableAhead Mx tab table).1 (fX8_isTableAhead Mx tab table).2 (Prod.ext rfl rfl)) (cwV 2 hts gX8_tablesAheadOf_X8_isTableAhead rfl rfl rfl (by decide +kernel) ⟨(Nat.le_of_ble_eq_true rfl), (Nat.le_of_ble_eq_true rfl)⟩) hK hP hD hS rfl rfl VC_0 rfl hl.1 rfl (Nat.le_of_ble_eq_true rfl) dX8_tablesAheadOf_12 ⟨Nat.zero_le _, Nat.zero_le _⟩ (fun H locs hP hD hS => ?_)
        have q2 := bX8_isTableAhead Mx tab table
        refine z_if_eq hx hb dX8_tablesAheadOf_15 (tgt := 21) rfl (by omega) (fun b3 => ?_) (fun b3 => ?_)
        · rw [if_pos b3] at hE
          refine z_iinc hx hb dX8_tablesAheadOf_21 hl (k := 3) rfl (Nat.le_of_ble_eq_true rfl) (lv' := [(3, .int (iI (tab + 1))), (0, .ref (E 0)), (1, .int (iI table)), (2, .int (iI count))]) rfl (fun ls hl => ?_)
          refine lv_goto hx hb dX8_tablesAheadOf_24 (tgt := 4) rfl ?_
          exact ih1 (fX8_isTableAhead Mx tab table).2 count (tab + 1) ls _ _ (lv_sub hl [1, 2, 3, 0] rfl) hP hD hS (by omega) (by omega) (CI_of0 (fr_fX8_isTableAhead _ _ rfl rfl rfl rfl rfl) jC) (SI_isTableAhead jC jQ _ _) hE
        · rw [if_neg b3] at hE
          refine z_iinc hx hb dX8_tablesAheadOf_18 hl (k := 2) rfl (Nat.le_of_ble_eq_true rfl) (lv' := [(2, .int (iI (count + 1))), (0, .ref (E 0)), (1, .int (iI table)), (3, .int (iI tab))]) rfl (fun ls hl => ?_)
          refine z_iinc hx hb dX8_tablesAheadOf_21 hl (k := 3) rfl (Nat.le_of_ble_eq_true rfl) (lv' := [(3, .int (iI (tab + 1))), (2, .int (iI (count + 1))), (0, .ref (E 0)), (1, .int (iI table))]) rfl (fun ls hl => ?_)
          refine lv_goto hx hb dX8_tablesAheadOf_24 (tgt := 4) rfl ?_
          exact ih1 (fX8_isTableAhead Mx tab table).2 (count + 1) (tab + 1) ls _ _ (lv_sub hl [2, 3, 1, 0] rfl) hP hD hS (by omega) (by omega) (CI_of0 (fr_fX8_isTableAhead _ _ rfl rfl rfl rfl rfl) jC) (SI_isTableAhead jC jQ _ _) hE
  exact L1 4 M (0) (0) ls _ _ (lv_sub hl [2, 3, 1, 0] rfl) hP hD hS (by omega) (by omega) hC hQ hE

theorem fr_fX8_tablesAheadOf_L1 (M : Mem) (table : Int) {r : Nat} (h1 : Nat.beq r 1 = false) (h2 : Nat.beq r 2 = false) (h3 : Nat.beq r 3 = false) (h4 : Nat.beq r 4 = false) (h7 : Nat.beq r 7 = false) : ∀ (k : Nat) (Mx : Mem) (count tab : Int), (fX8_tablesAheadOf_L1 M table k Mx count tab).2 r = Mx r := by
  intro k
  induction k with
  | zero => intros; rfl
  | succ k ih =>
    intro Mx count tab
    rw [fX8_tablesAheadOf_L1]
    (repeat' with_reducible refine frite_w (fun _ => ?_) (fun _ => ?_)) <;> first | with_reducible rfl | simp only [ih, mst_o, msf_o, mcp_o, fr_fX8_isTableAhead, h1, h2, h3, h4, h7]
theorem fr_fX8_tablesAheadOf {M : Mem} (table : Int) {r : Nat} (h1 : Nat.beq r 1 = false) (h2 : Nat.beq r 2 = false) (h3 : Nat.beq r 3 = false) (h4 : Nat.beq r 4 = false) (h7 : Nat.beq r 7 = false) : (fX8_tablesAheadOf M table).2 r = M r := by
  unfold fX8_tablesAheadOf
  (repeat' with_reducible refine frite_w (fun _ => ?_) (fun _ => ?_)) <;> first | with_reducible rfl | simp only [mst_o, msf_o, mcp_o, fr_fX8_isTableAhead, h1, h2, h3, h4, h7, fr_fX8_tablesAheadOf_L1]


theorem rg_X8_tablesAheadOf_L {M : Mem} (t : Int) : ∀ (k : Nat) (Mx : Mem) (c n : Int), 0 ≤ n → 0 ≤ c → c ≤ n → n ≤ 3 → 0 ≤ (fX8_tablesAheadOf_L1 M t k Mx c n).1 ∧ (fX8_tablesAheadOf_L1 M t k Mx c n).1 ≤ 3 := by
  intro k
  induction k with
  | zero => intro Mx c n _ _ _ _; exact ⟨(by decide : (0 : Int) ≤ 0), (by decide : (0 : Int) ≤ 3)⟩
  | succ k ih =>
    intro Mx c n h1 h2 h3 h4
    rw [fX8_tablesAheadOf_L1]
    split
    · exact ⟨h2, (by omega : c ≤ 3)⟩
    · split
      · exact ih _ _ _ (by omega) (by omega) (by omega) (by omega)
      · exact ih _ _ _ (by omega) (by omega) (by omega) (by omega)
theorem rg_X8_tablesAheadOf (M : Mem) (t : Int) : 0 ≤ (fX8_tablesAheadOf M t).1 ∧ (fX8_tablesAheadOf M t).1 ≤ 3 := rg_X8_tablesAheadOf_L t 4 M 0 0 (by decide) (by decide) (by decide) (by decide)
theorem SI_tablesAheadOf_L {M : Mem} (t : Int) : ∀ (k : Nat) (Mx : Mem) (c n : Int), CI Mx → SI Mx → SI (fX8_tablesAheadOf_L1 M t k Mx c n).2 := by
  intro k
  induction k with
  | zero => intro Mx c n _ h; exact h
  | succ k ih =>
    intro Mx c n hC h
    rw [fX8_tablesAheadOf_L1]
    split
    · exact h
    · split
      · exact ih _ _ _ (CI_of0 (fr_fX8_isTableAhead _ _ rfl rfl rfl rfl rfl) hC) (SI_isTableAhead hC h _ _)
      · exact ih _ _ _ (CI_of0 (fr_fX8_isTableAhead _ _ rfl rfl rfl rfl rfl) hC) (SI_isTableAhead hC h _ _)
theorem SI_tablesAheadOf {M : Mem} (hC : CI M) (hQ : SI M) (t : Int) : SI (fX8_tablesAheadOf M t).2 := SI_tablesAheadOf_L t 4 M 0 0 hC hQ

def fX8_clearest_L1 (M : Mem) (place : Int) : Nat → Mem → Int → (Int × Int × Mem)
  | 0, Mx, _ => ((0), (0), Mx)
  | k1 + 1, Mx, tab => if ((3) ≤ tab) then ((4), (0), Mx) else if ((fX8_tablesAheadOf Mx tab).1 = place) then ((0), tab, (fX8_tablesAheadOf Mx tab).2) else fX8_clearest_L1 M place k1 (fX8_tablesAheadOf Mx tab).2 (tab + 1)
def fX8_clearest (M : Mem) (place : Int) : Int × Int × Mem := fX8_clearest_L1 M place 4 M (0)
set_option maxRecDepth 100000 in
set_option maxHeartbeats 4000000 in
theorem kX8_clearest (l : Launch) (hst : l.stackTraces = false) (D : va_G) (E : Nat → Nat) (cI cC : ClassId) (T : Nat → Nat) (M : Mem) (place : Int) (h1 : -2147483648 ≤ place ∧ place < 2147483648) (hC : CI M) (hQ : SI M) (kx r : Int) (M' : Mem) (hE : fX8_clearest M place = (kx, r, M')) : Cx l yX8_clearest wsX8_clearest 6 137 1 [.ref (E 0), .int (iI place)] D (TY cI cC) (VC E cI cC) (ZC E cI cC T) M kx (some (.int (iI r))) M' := by
  refine Cx.of (cc := cX8_clearest) (maxL := 3) (ret := (some .int)) (by decide +kernel) rfl (Nat.le_of_ble_eq_true rfl) ?_
  intro p e s m args below meth c ls hx hb hml hr hown hts hlocks hP hK hD hZ hS hout hl
  have hl : lv_has ls 3 [(0, .ref (E 0)), (1, .int (iI place))] := hl
  have S0 : CallFix p m c cX8_clearest 3 s args wsX8_clearest RX8 := ⟨hx, hb, hml, hown, hts⟩
  rw [fX8_clearest] at hE
  refine z_iconst hx hb dX8_clearest_0 ?_
  refine lv_istore_n hx hb dX8_clearest_1 rfl hl (Nat.le_of_ble_eq_true rfl) (lv' := [(2, .int (iI (0))), (0, .ref (E 0)), (1, .int (iI place))]) rfl (fun ls hl => ?_)
  have L1 : ∀ (k1 : Nat) (Mx : Mem) (tab : Int) (ls : Array Slot) (H : Heap) (locs : List Loc), lv_has ls 3 [(0, .ref (E 0)), (1, .int (iI place)), (2, .int (iI tab))] → va_P D vwCl (VC E cI cC Mx) H → va_D (wA (VC E cI cC M)) (VC E cI cC Mx) → va_S (wA (VC E cI cC M)) s.heap H locs → (0 ≤ tab ∧ tab ≤ 3) → (3 - tab < (k1 : Int)) → (CI Mx) → (SI Mx) → fX8_clearest_L1 M place k1 Mx tab = (kx, r, M') → W p l e (zRmx 6 137 1) s m args below meth c H locs 0 0 (cxE below D (VC E cI cC) M kx (some (.int (iI r))) M' args s 1) (F0 m 2 ls []) := by
    intro k1
    induction k1 with
    | zero => intro Mx tab ls H locs hl hP hD hS i1 i3 jC jQ hE; exfalso; omega
    | succ k1 ih1 =>
      intro Mx tab ls H locs hl hP hD hS i1 i3 jC jQ hE
      rw [fX8_clearest_L1] at hE
      refine lv_iload_n hx hb dX8_clearest_2 rfl (lv_at hl 2 rfl) ?_
      refine z_iconst hx hb dX8_clearest_3 ?_
      refine z_icmp_ge hx hb dX8_clearest_4 (tgt := 24) rfl (by omega) (by omega) (fun b1 => ?_) (fun b1 => ?_)
      · rw [if_pos b1] at hE
        obtain ⟨e0, e1⟩ := Prod.mk.inj hE
        obtain ⟨-, e2⟩ := Prod.mk.inj e1
        subst e2
        exact cx_throwN (k := 4) rfl hx hb hst hts hown (by decide +kernel) (by decide +kernel) (ZC_t178 hZ) (fun w h => List.mem_cons_of_mem _ (List.mem_append_left _ (List.mem_append_right _ h))) xb_4 xg_4 (ZC_d1 hZ) (ZC_d2 hZ) (ZC_d3 hZ) (ZC_x4 hZ) (ZC_us hZ M) (ZC_ss hZ M) hS hP (hl.1.trans hml.symm) dX8_clearest_24 dX8_clearest_27 dX8_clearest_28 dX8_clearest_30 dX8_clearest_33 hout (Nat.le_of_ble_eq_true rfl) (Nat.le_of_ble_eq_true rfl) (Nat.le_of_ble_eq_true rfl) (Nat.le_of_ble_eq_true rfl) hlocks (by decide) e0 (Nat.le_of_ble_eq_true rfl) (Nat.le_of_ble_eq_true rfl)
      · rw [if_neg b1] at hE
        refine lv_aload_n hx hb dX8_clearest_7 rfl (lv_at hl 0 rfl) ?_
        refine lv_iload_n hx hb dX8_clearest_8 rfl (lv_at hl 2 rfl) ?_
        refine ct_Vi (VC_fix E cI cC) (ZC_ok E cI cC T) (ZC_bl E cI cC T) hZ S0 (kX8_tablesAheadOf l D E cI cC (ZC E cI cC T) (ZC_ok E cI cC T) (ZC_bl E cI cC T) Mx tab (by omega) jC jQ (fX8_tablesAheadOf Mx tab).1 (fX8_tablesAheadOf Mx tab).2 (Prod.ext rfl rfl)) (cwV 1 hts gX8_clearest_X8_tablesAheadOf rfl rfl rfl (by decide +kernel) ⟨(Nat.le_of_ble_eq_true rfl), (Nat.le_of_ble_eq_true rfl)⟩) hK hP hD hS rfl rfl VC_0 rfl hl.1 rfl (Nat.le_of_ble_eq_true rfl) dX8_clearest_9 ⟨(Nat.le_of_ble_eq_true rfl), (Nat.le_of_ble_eq_true rfl)⟩ (fun H locs hP hD hS => ?_)
        have q2 := rg_X8_tablesAheadOf Mx tab
        refine lv_iload_n hx hb dX8_clearest_12 rfl (lv_at hl 1 rfl) ?_
        refine z_icmp_ne hx hb dX8_clearest_13 (tgt := 18) rfl (by omega) (by omega) (fun b3 => ?_) (fun b3 => ?_)
        · rw [if_neg b3] at hE
          refine z_iinc hx hb dX8_clearest_18 hl (k := 2) rfl (Nat.le_of_ble_eq_true rfl) (lv' := [(2, .int (iI (tab + 1))), (0, .ref (E 0)), (1, .int (iI place))]) rfl (fun ls hl => ?_)
          refine lv_goto hx hb dX8_clearest_21 (tgt := 2) rfl ?_
          exact ih1 (fX8_tablesAheadOf Mx tab).2 (tab + 1) ls _ _ (lv_sub hl [1, 2, 0] rfl) hP hD hS (by omega) (by omega) (CI_of0 (fr_fX8_tablesAheadOf _ rfl rfl rfl rfl rfl) jC) (SI_tablesAheadOf jC jQ _) hE
        · rw [if_pos b3] at hE
          refine lv_iload_n hx hb dX8_clearest_16 rfl (lv_at hl 2 rfl) ?_
          obtain ⟨e0, e9⟩ := Prod.mk.inj hE
          obtain ⟨e1, e2⟩ := Prod.mk.inj e9
          subst e2
          exact cx_i hx hb hr hlocks e0 e1 rfl hS hP (Nat.le_of_ble_eq_true rfl) (Nat.le_of_ble_eq_true rfl) dX8_clearest_17
  exact L1 4 M (0) ls _ _ (lv_sub hl [1, 2, 0] rfl) hP hD hS (by omega) (by omega) hC hQ hE

theorem fr_fX8_clearest_L1 (M : Mem) (place : Int) {r : Nat} (h1 : Nat.beq r 1 = false) (h2 : Nat.beq r 2 = false) (h3 : Nat.beq r 3 = false) (h4 : Nat.beq r 4 = false) (h7 : Nat.beq r 7 = false) : ∀ (k : Nat) (Mx : Mem) (tab : Int), (fX8_clearest_L1 M place k Mx tab).2.2 r = Mx r := by
  intro k
  induction k with
  | zero => intros; rfl
  | succ k ih =>
    intro Mx tab
    rw [fX8_clearest_L1]
    (repeat' with_reducible refine frite_x (fun _ => ?_) (fun _ => ?_)) <;> first | with_reducible rfl | simp only [ih, mst_o, msf_o, mcp_o, fr_fX8_tablesAheadOf, h1, h2, h3, h4, h7]
theorem fr_fX8_clearest {M : Mem} (place : Int) {r : Nat} (h1 : Nat.beq r 1 = false) (h2 : Nat.beq r 2 = false) (h3 : Nat.beq r 3 = false) (h4 : Nat.beq r 4 = false) (h7 : Nat.beq r 7 = false) : (fX8_clearest M place).2.2 r = M r := by
  unfold fX8_clearest
  (repeat' with_reducible refine frite_x (fun _ => ?_) (fun _ => ?_)) <;> first | with_reducible rfl | simp only [mst_o, msf_o, mcp_o, fr_fX8_tablesAheadOf, h1, h2, h3, h4, h7, fr_fX8_clearest_L1]

def fX8_isNapkinAhead (M : Mem) (one other : Int) : Int := if ((fX6_creasesOf M one) = (fX6_creasesOf M other)) then if ((fX6_stainsOf M one) = (fX6_stainsOf M other)) then if (other ≤ one) then (0) else (1) else if ((fX6_stainsOf M one) ≤ (fX6_stainsOf M other)) then (0) else (1) else if ((fX6_creasesOf M one) ≤ (fX6_creasesOf M other)) then (0) else (1)
set_option maxRecDepth 100000 in
set_option maxHeartbeats 4000000 in
theorem kX8_isNapkinAhead (l : Launch) (D : va_G) (E : Nat → Nat) (cI cC : ClassId) (Z : State → Prop) (hZo : ∀ M : Mem, ZOk (VC E cI cC M) Z) (hZb : ZBl Z) (M : Mem) (one other : Int) (h1 : -2147483648 ≤ one ∧ one < 2147483648) (h2 : -2147483648 ≤ other ∧ other < 2147483648) (hC : CI M) (r : Int) (hE : fX8_isNapkinAhead M one other = r) : Ci l yX8_isNapkinAhead wsX8_isNapkinAhead 2 43 [.ref (E 0), .int (iI one), .int (iI other)] D (TY cI cC) (VC E cI cC) Z M r M := by
  refine Ci.of (cc := cX8_isNapkinAhead) (maxL := 3) (ret := (some .boolean)) (by decide +kernel) rfl (Nat.le_of_ble_eq_true rfl) ?_
  intro p e s m args below meth c ls hx hb hml hr hown hts hlocks hP hK hD hZ hS hl
  have hl : lv_has ls 3 [(0, .ref (E 0)), (1, .int (iI one)), (2, .int (iI other))] := hl
  have S0 : CallFix p m c cX8_isNapkinAhead 3 s args wsX8_isNapkinAhead RX8 := ⟨hx, hb, hml, hown, hts⟩
  have hinX8 : ∀ w ∈ u_ws RX8 TX8 12, w ∈ wsX8_isNapkinAhead := by decide +kernel
  rw [fX8_isNapkinAhead] at hE
  refine lv_aload_n hx hb dX8_isNapkinAhead_0 rfl (lv_at hl 0 rfl) ?_
  refine va_get (own := RX8) (ref := "NapkinSyntax") (C := RX8) (T := TX8) (N := 12) hx hb hts hinX8 hown hK hP 0 VC_0 rfl 1 (Nat.le_of_ble_eq_true rfl) (hts (.fieldLink RX8 20 "NapkinSyntax" "now" "LNapkinSyntax$State;") (by decide +kernel)) (fun _ h => h) (v := .ref (E 2)) rfl dX8_isNapkinAhead_1 ?_
  refine lv_iload_n hx hb dX8_isNapkinAhead_4 rfl (lv_at hl 1 rfl) ?_
  refine ct_Vi (VC_fix E cI cC) hZo hZb hZ S0 (kX6_creasesOf l D E cI cC Z hZo hZb M one (by omega) (fX6_creasesOf M one) rfl) (cwV 1 hts gX8_isNapkinAhead_X6_creasesOf rfl rfl rfl (by decide +kernel) ⟨(Nat.le_of_ble_eq_true rfl), (Nat.le_of_ble_eq_true rfl)⟩) hK hP hD hS rfl rfl VC_2 rfl hl.1 rfl (Nat.le_of_ble_eq_true rfl) dX8_isNapkinAhead_5 ⟨Nat.zero_le _, Nat.zero_le _⟩ (fun H locs hP hD hS => ?_)
  have q1 := rg_X6_creasesOf hC one
  refine lv_aload_n hx hb dX8_isNapkinAhead_8 rfl (lv_at hl 0 rfl) ?_
  refine va_get (own := RX8) (ref := "NapkinSyntax") (C := RX8) (T := TX8) (N := 12) hx hb hts hinX8 hown hK hP 0 VC_0 rfl 1 (Nat.le_of_ble_eq_true rfl) (hts (.fieldLink RX8 20 "NapkinSyntax" "now" "LNapkinSyntax$State;") (by decide +kernel)) (fun _ h => h) (v := .ref (E 2)) rfl dX8_isNapkinAhead_9 ?_
  refine lv_iload_n hx hb dX8_isNapkinAhead_12 rfl (lv_at hl 2 rfl) ?_
  refine ct_Vi (VC_fix E cI cC) hZo hZb hZ S0 (kX6_creasesOf l D E cI cC Z hZo hZb M other (by omega) (fX6_creasesOf M other) rfl) (cwV 1 hts gX8_isNapkinAhead_X6_creasesOf rfl rfl rfl (by decide +kernel) ⟨(Nat.le_of_ble_eq_true rfl), (Nat.le_of_ble_eq_true rfl)⟩) hK hP hD hS rfl rfl VC_2 rfl hl.1 rfl (Nat.le_of_ble_eq_true rfl) dX8_isNapkinAhead_13 ⟨Nat.zero_le _, Nat.zero_le _⟩ (fun H locs hP hD hS => ?_)
  have q2 := rg_X6_creasesOf hC other
  refine z_icmp_eq hx hb dX8_isNapkinAhead_16 (tgt := 44) rfl (by omega) (by omega) (fun b3 => ?_) (fun b3 => ?_)
  · rw [if_pos b3] at hE
    refine lv_aload_n hx hb dX8_isNapkinAhead_44 rfl (lv_at hl 0 rfl) ?_
    refine va_get (own := RX8) (ref := "NapkinSyntax") (C := RX8) (T := TX8) (N := 12) hx hb hts hinX8 hown hK hP 0 VC_0 rfl 1 (Nat.le_of_ble_eq_true rfl) (hts (.fieldLink RX8 20 "NapkinSyntax" "now" "LNapkinSyntax$State;") (by decide +kernel)) (fun _ h => h) (v := .ref (E 2)) rfl dX8_isNapkinAhead_45 ?_
    refine lv_iload_n hx hb dX8_isNapkinAhead_48 rfl (lv_at hl 1 rfl) ?_
    refine ct_Vi (VC_fix E cI cC) hZo hZb hZ S0 (kX6_stainsOf l D E cI cC Z hZo hZb M one (by omega) (fX6_stainsOf M one) rfl) (cwV 1 hts gX8_isNapkinAhead_X6_stainsOf rfl rfl rfl (by decide +kernel) ⟨(Nat.le_of_ble_eq_true rfl), (Nat.le_of_ble_eq_true rfl)⟩) hK hP hD hS rfl rfl VC_2 rfl hl.1 rfl (Nat.le_of_ble_eq_true rfl) dX8_isNapkinAhead_49 ⟨Nat.zero_le _, Nat.zero_le _⟩ (fun H locs hP hD hS => ?_)
    have q4 := rg_X6_stainsOf hC one
    refine lv_aload_n hx hb dX8_isNapkinAhead_52 rfl (lv_at hl 0 rfl) ?_
    refine va_get (own := RX8) (ref := "NapkinSyntax") (C := RX8) (T := TX8) (N := 12) hx hb hts hinX8 hown hK hP 0 VC_0 rfl 1 (Nat.le_of_ble_eq_true rfl) (hts (.fieldLink RX8 20 "NapkinSyntax" "now" "LNapkinSyntax$State;") (by decide +kernel)) (fun _ h => h) (v := .ref (E 2)) rfl dX8_isNapkinAhead_53 ?_
    refine lv_iload_n hx hb dX8_isNapkinAhead_56 rfl (lv_at hl 2 rfl) ?_
    refine ct_Vi (VC_fix E cI cC) hZo hZb hZ S0 (kX6_stainsOf l D E cI cC Z hZo hZb M other (by omega) (fX6_stainsOf M other) rfl) (cwV 1 hts gX8_isNapkinAhead_X6_stainsOf rfl rfl rfl (by decide +kernel) ⟨(Nat.le_of_ble_eq_true rfl), (Nat.le_of_ble_eq_true rfl)⟩) hK hP hD hS rfl rfl VC_2 rfl hl.1 rfl (Nat.le_of_ble_eq_true rfl) dX8_isNapkinAhead_57 ⟨Nat.zero_le _, Nat.zero_le _⟩ (fun H locs hP hD hS => ?_)
    have q5 := rg_X6_stainsOf hC other
    refine z_icmp_eq hx hb dX8_isNapkinAhead_60 (tgt := 88) rfl (by omega) (by omega) (fun b6 => ?_) (fun b6 => ?_)
    · rw [if_pos b6] at hE
      refine lv_iload_n hx hb dX8_isNapkinAhead_88 rfl (lv_at hl 1 rfl) ?_
      refine lv_iload_n hx hb dX8_isNapkinAhead_89 rfl (lv_at hl 2 rfl) ?_
      refine z_icmp_ge hx hb dX8_isNapkinAhead_90 (tgt := 97) rfl (by omega) (by omega) (fun b7 => ?_) (fun b7 => ?_)
      · rw [if_pos b7] at hE
        refine z_iconst hx hb dX8_isNapkinAhead_97 ?_
        exact ci_i hx hb hr hlocks hE nr_b0 hS hP dX8_isNapkinAhead_98
      · rw [if_neg b7] at hE
        refine z_iconst hx hb dX8_isNapkinAhead_93 ?_
        refine lv_goto hx hb dX8_isNapkinAhead_94 (tgt := 98) rfl ?_
        exact ci_i hx hb hr hlocks hE nr_b1 hS hP dX8_isNapkinAhead_98
    · rw [if_neg b6] at hE
      refine lv_aload_n hx hb dX8_isNapkinAhead_63 rfl (lv_at hl 0 rfl) ?_
      refine va_get (own := RX8) (ref := "NapkinSyntax") (C := RX8) (T := TX8) (N := 12) hx hb hts hinX8 hown hK hP 0 VC_0 rfl 1 (Nat.le_of_ble_eq_true rfl) (hts (.fieldLink RX8 20 "NapkinSyntax" "now" "LNapkinSyntax$State;") (by decide +kernel)) (fun _ h => h) (v := .ref (E 2)) rfl dX8_isNapkinAhead_64 ?_
      refine lv_iload_n hx hb dX8_isNapkinAhead_67 rfl (lv_at hl 1 rfl) ?_
      refine ct_Vi (VC_fix E cI cC) hZo hZb hZ S0 (kX6_stainsOf l D E cI cC Z hZo hZb M one (by omega) (fX6_stainsOf M one) rfl) (cwV 1 hts gX8_isNapkinAhead_X6_stainsOf rfl rfl rfl (by decide +kernel) ⟨(Nat.le_of_ble_eq_true rfl), (Nat.le_of_ble_eq_true rfl)⟩) hK hP hD hS rfl rfl VC_2 rfl hl.1 rfl (Nat.le_of_ble_eq_true rfl) dX8_isNapkinAhead_68 ⟨Nat.zero_le _, Nat.zero_le _⟩ (fun H locs hP hD hS => ?_)
      have q8 := rg_X6_stainsOf hC one
      refine lv_aload_n hx hb dX8_isNapkinAhead_71 rfl (lv_at hl 0 rfl) ?_
      refine va_get (own := RX8) (ref := "NapkinSyntax") (C := RX8) (T := TX8) (N := 12) hx hb hts hinX8 hown hK hP 0 VC_0 rfl 1 (Nat.le_of_ble_eq_true rfl) (hts (.fieldLink RX8 20 "NapkinSyntax" "now" "LNapkinSyntax$State;") (by decide +kernel)) (fun _ h => h) (v := .ref (E 2)) rfl dX8_isNapkinAhead_72 ?_
      refine lv_iload_n hx hb dX8_isNapkinAhead_75 rfl (lv_at hl 2 rfl) ?_
      refine ct_Vi (VC_fix E cI cC) hZo hZb hZ S0 (kX6_stainsOf l D E cI cC Z hZo hZb M other (by omega) (fX6_stainsOf M other) rfl) (cwV 1 hts gX8_isNapkinAhead_X6_stainsOf rfl rfl rfl (by decide +kernel) ⟨(Nat.le_of_ble_eq_true rfl), (Nat.le_of_ble_eq_true rfl)⟩) hK hP hD hS rfl rfl VC_2 rfl hl.1 rfl (Nat.le_of_ble_eq_true rfl) dX8_isNapkinAhead_76 ⟨Nat.zero_le _, Nat.zero_le _⟩ (fun H locs hP hD hS => ?_)
      have q9 := rg_X6_stainsOf hC other
      refine z_icmp_le hx hb dX8_isNapkinAhead_79 (tgt := 86) rfl (by omega) (by omega) (fun b10 => ?_) (fun b10 => ?_)
      · rw [if_pos b10] at hE
        refine z_iconst hx hb dX8_isNapkinAhead_86 ?_
        exact ci_i hx hb hr hlocks hE nr_b0 hS hP dX8_isNapkinAhead_87
      · rw [if_neg b10] at hE
        refine z_iconst hx hb dX8_isNapkinAhead_82 ?_
        refine lv_goto hx hb dX8_isNapkinAhead_83 (tgt := 87) rfl ?_
        exact ci_i hx hb hr hlocks hE nr_b1 hS hP dX8_isNapkinAhead_87
  · rw [if_neg b3] at hE
    refine lv_aload_n hx hb dX8_isNapkinAhead_19 rfl (lv_at hl 0 rfl) ?_
    refine va_get (own := RX8) (ref := "NapkinSyntax") (C := RX8) (T := TX8) (N := 12) hx hb hts hinX8 hown hK hP 0 VC_0 rfl 1 (Nat.le_of_ble_eq_true rfl) (hts (.fieldLink RX8 20 "NapkinSyntax" "now" "LNapkinSyntax$State;") (by decide +kernel)) (fun _ h => h) (v := .ref (E 2)) rfl dX8_isNapkinAhead_20 ?_
    refine lv_iload_n hx hb dX8_isNapkinAhead_23 rfl (lv_at hl 1 rfl) ?_
    refine ct_Vi (VC_fix E cI cC) hZo hZb hZ S0 (kX6_creasesOf l D E cI cC Z hZo hZb M one (by omega) (fX6_creasesOf M one) rfl) (cwV 1 hts gX8_isNapkinAhead_X6_creasesOf rfl rfl rfl (by decide +kernel) ⟨(Nat.le_of_ble_eq_true rfl), (Nat.le_of_ble_eq_true rfl)⟩) hK hP hD hS rfl rfl VC_2 rfl hl.1 rfl (Nat.le_of_ble_eq_true rfl) dX8_isNapkinAhead_24 ⟨Nat.zero_le _, Nat.zero_le _⟩ (fun H locs hP hD hS => ?_)
    have q11 := rg_X6_creasesOf hC one
    refine lv_aload_n hx hb dX8_isNapkinAhead_27 rfl (lv_at hl 0 rfl) ?_
    refine va_get (own := RX8) (ref := "NapkinSyntax") (C := RX8) (T := TX8) (N := 12) hx hb hts hinX8 hown hK hP 0 VC_0 rfl 1 (Nat.le_of_ble_eq_true rfl) (hts (.fieldLink RX8 20 "NapkinSyntax" "now" "LNapkinSyntax$State;") (by decide +kernel)) (fun _ h => h) (v := .ref (E 2)) rfl dX8_isNapkinAhead_28 ?_
    refine lv_iload_n hx hb dX8_isNapkinAhead_31 rfl (lv_at hl 2 rfl) ?_
    refine ct_Vi (VC_fix E cI cC) hZo hZb hZ S0 (kX6_creasesOf l D E cI cC Z hZo hZb M other (by omega) (fX6_creasesOf M other) rfl) (cwV 1 hts gX8_isNapkinAhead_X6_creasesOf rfl rfl rfl (by decide +kernel) ⟨(Nat.le_of_ble_eq_true rfl), (Nat.le_of_ble_eq_true rfl)⟩) hK hP hD hS rfl rfl VC_2 rfl hl.1 rfl (Nat.le_of_ble_eq_true rfl) dX8_isNapkinAhead_32 ⟨Nat.zero_le _, Nat.zero_le _⟩ (fun H locs hP hD hS => ?_)
    have q12 := rg_X6_creasesOf hC other
    refine z_icmp_le hx hb dX8_isNapkinAhead_35 (tgt := 42) rfl (by omega) (by omega) (fun b13 => ?_) (fun b13 => ?_)
    · rw [if_pos b13] at hE
      refine z_iconst hx hb dX8_isNapkinAhead_42 ?_
      exact ci_i hx hb hr hlocks hE nr_b0 hS hP dX8_isNapkinAhead_43
    · rw [if_neg b13] at hE
      refine z_iconst hx hb dX8_isNapkinAhead_38 ?_
      refine lv_goto hx hb dX8_isNapkinAhead_39 (tgt := 43) rfl ?_
      exact ci_i hx hb hr hlocks hE nr_b1 hS hP dX8_isNapkinAhead_43


theorem bX8_isNapkinAhead (M : Mem) (o t : Int) : 0 ≤ fX8_isNapkinAhead M o t ∧ fX8_isNapkinAhead M o t ≤ 1 := by unfold fX8_isNapkinAhead; (repeat' split) <;> omega

def fX8_napkinsAheadOf_L1 (M : Mem) (napkin : Int) : Nat → Int → Int → (Int)
  | 0, _, _ => 0
  | k1 + 1, count, nap => if ((fX6_napkins M) ≤ nap) then count else if ((fX8_isNapkinAhead M nap napkin) = 0) then fX8_napkinsAheadOf_L1 M napkin k1 count (nap + 1) else fX8_napkinsAheadOf_L1 M napkin k1 (count + 1) (nap + 1)
def fX8_napkinsAheadOf (M : Mem) (napkin : Int) : Int := fX8_napkinsAheadOf_L1 M napkin 12 (0) (0)
set_option maxRecDepth 100000 in
set_option maxHeartbeats 4000000 in
theorem kX8_napkinsAheadOf (l : Launch) (D : va_G) (E : Nat → Nat) (cI cC : ClassId) (Z : State → Prop) (hZo : ∀ M : Mem, ZOk (VC E cI cC M) Z) (hZb : ZBl Z) (M : Mem) (napkin : Int) (h1 : -2147483648 ≤ napkin ∧ napkin < 2147483648) (hC : CI M) (r : Int) (hE : fX8_napkinsAheadOf M napkin = r) : Ci l yX8_napkinsAheadOf wsX8_napkinsAheadOf 3 65 [.ref (E 0), .int (iI napkin)] D (TY cI cC) (VC E cI cC) Z M r M := by
  refine Ci.of (cc := cX8_napkinsAheadOf) (maxL := 4) (ret := (some .int)) (by decide +kernel) rfl (Nat.le_of_ble_eq_true rfl) ?_
  intro p e s m args below meth c ls hx hb hml hr hown hts hlocks hP hK hD hZ hS hl
  have hl : lv_has ls 4 [(0, .ref (E 0)), (1, .int (iI napkin))] := hl
  have S0 : CallFix p m c cX8_napkinsAheadOf 4 s args wsX8_napkinsAheadOf RX8 := ⟨hx, hb, hml, hown, hts⟩
  have hinX8 : ∀ w ∈ u_ws RX8 TX8 12, w ∈ wsX8_napkinsAheadOf := by decide +kernel
  rw [fX8_napkinsAheadOf] at hE
  refine z_iconst hx hb dX8_napkinsAheadOf_0 ?_
  refine lv_istore_n hx hb dX8_napkinsAheadOf_1 rfl hl (Nat.le_of_ble_eq_true rfl) (lv' := [(2, .int (iI (0))), (0, .ref (E 0)), (1, .int (iI napkin))]) rfl (fun ls hl => ?_)
  refine z_iconst hx hb dX8_napkinsAheadOf_2 ?_
  refine lv_istore_n hx hb dX8_napkinsAheadOf_3 rfl hl (Nat.le_of_ble_eq_true rfl) (lv' := [(3, .int (iI (0))), (2, .int (iI (0))), (0, .ref (E 0)), (1, .int (iI napkin))]) rfl (fun ls hl => ?_)
  have L1 : ∀ (k1 : Nat) (count nap : Int) (ls : Array Slot) (H : Heap) (locs : List Loc), lv_has ls 4 [(0, .ref (E 0)), (1, .int (iI napkin)), (2, .int (iI count)), (3, .int (iI nap))] → va_P D vwCl (VC E cI cC M) H → va_D (wA (VC E cI cC M)) (VC E cI cC M) → va_S (wA (VC E cI cC M)) s.heap H locs → (0 ≤ nap ∧ nap ≤ fX6_napkins M) → (fX6_napkins M - nap < (k1 : Int)) → fX8_napkinsAheadOf_L1 M napkin k1 count nap = r → W p l e (zRm 3 65) s m args below meth c H locs 0 0 (MQ below (ciQ D (VC E cI cC) M r M) args s 0 0 (wA (VC E cI cC M))) (F0 m 4 ls []) := by
    intro k1
    induction k1 with
    | zero => intro count nap ls H locs hl hP hD hS i1 i3 hE; exfalso; omega
    | succ k1 ih1 =>
      intro count nap ls H locs hl hP hD hS i1 i3 hE
      have q97 := rg_X6_napkins hC
      rw [fX8_napkinsAheadOf_L1] at hE
      refine lv_iload_n hx hb dX8_napkinsAheadOf_4 rfl (lv_at hl 3 rfl) ?_
      refine lv_aload_n hx hb dX8_napkinsAheadOf_5 rfl (lv_at hl 0 rfl) ?_
      refine va_get (own := RX8) (ref := "NapkinSyntax") (C := RX8) (T := TX8) (N := 12) hx hb hts hinX8 hown hK hP 0 VC_0 rfl 1 (Nat.le_of_ble_eq_true rfl) (hts (.fieldLink RX8 20 "NapkinSyntax" "now" "LNapkinSyntax$State;") (by decide +kernel)) (fun _ h => h) (v := .ref (E 2)) rfl dX8_napkinsAheadOf_6 ?_
      refine ct_Vi (VC_fix E cI cC) hZo hZb hZ S0 (kX6_napkins l D E cI cC Z hZo hZb M  (fX6_napkins M) rfl) (cwV 0 hts gX8_napkinsAheadOf_X6_napkins rfl rfl rfl (by decide +kernel) ⟨(Nat.le_of_ble_eq_true rfl), (Nat.le_of_ble_eq_true rfl)⟩) hK hP hD hS rfl rfl VC_2 rfl hl.1 rfl (Nat.le_of_ble_eq_true rfl) dX8_napkinsAheadOf_9 ⟨Nat.zero_le _, Nat.zero_le _⟩ (fun H locs hP hD hS => ?_)
      have q1 := rg_X6_napkins hC
      refine z_icmp_ge hx hb dX8_napkinsAheadOf_12 (tgt := 33) rfl (by omega) (by omega) (fun b2 => ?_) (fun b2 => ?_)
      · rw [if_pos b2] at hE
        refine lv_iload_n hx hb dX8_napkinsAheadOf_33 rfl (lv_at hl 2 rfl) ?_
        exact ci_i hx hb hr hlocks hE rfl hS hP dX8_napkinsAheadOf_34
      · rw [if_neg b2] at hE
        refine lv_aload_n hx hb dX8_napkinsAheadOf_15 rfl (lv_at hl 0 rfl) ?_
        refine lv_iload_n hx hb dX8_napkinsAheadOf_16 rfl (lv_at hl 3 rfl) ?_
        refine lv_iload_n hx hb dX8_napkinsAheadOf_17 rfl (lv_at hl 1 rfl) ?_
        refine ct_Vi (VC_fix E cI cC) hZo hZb hZ S0 (kX8_isNapkinAhead l D E cI cC Z hZo hZb M nap napkin (by omega) (by omega) hC (fX8_isNapkinAhead M nap napkin) rfl) (cwV 2 hts gX8_napkinsAheadOf_X8_isNapkinAhead rfl rfl rfl (by decide +kernel) ⟨(Nat.le_of_ble_eq_true rfl), (Nat.le_of_ble_eq_true rfl)⟩) hK hP hD hS rfl rfl VC_0 rfl hl.1 rfl (Nat.le_of_ble_eq_true rfl) dX8_napkinsAheadOf_18 ⟨Nat.zero_le _, Nat.zero_le _⟩ (fun H locs hP hD hS => ?_)
        have q3 := bX8_isNapkinAhead M nap napkin
        refine z_if_eq hx hb dX8_napkinsAheadOf_21 (tgt := 27) rfl (by omega) (fun b4 => ?_) (fun b4 => ?_)
        · rw [if_pos b4] at hE
          refine z_iinc hx hb dX8_napkinsAheadOf_27 hl (k := 3) rfl (Nat.le_of_ble_eq_true rfl) (lv' := [(3, .int (iI (nap + 1))), (0, .ref (E 0)), (1, .int (iI napkin)), (2, .int (iI count))]) rfl (fun ls hl => ?_)
          refine lv_goto hx hb dX8_napkinsAheadOf_30 (tgt := 4) rfl ?_
          exact ih1 count (nap + 1) ls _ _ (lv_sub hl [1, 2, 3, 0] rfl) hP hD hS (by omega) (by omega) hE
        · rw [if_neg b4] at hE
          refine z_iinc hx hb dX8_napkinsAheadOf_24 hl (k := 2) rfl (Nat.le_of_ble_eq_true rfl) (lv' := [(2, .int (iI (count + 1))), (0, .ref (E 0)), (1, .int (iI napkin)), (3, .int (iI nap))]) rfl (fun ls hl => ?_)
          refine z_iinc hx hb dX8_napkinsAheadOf_27 hl (k := 3) rfl (Nat.le_of_ble_eq_true rfl) (lv' := [(3, .int (iI (nap + 1))), (2, .int (iI (count + 1))), (0, .ref (E 0)), (1, .int (iI napkin))]) rfl (fun ls hl => ?_)
          refine lv_goto hx hb dX8_napkinsAheadOf_30 (tgt := 4) rfl ?_
          exact ih1 (count + 1) (nap + 1) ls _ _ (lv_sub hl [2, 3, 1, 0] rfl) hP hD hS (by omega) (by omega) hE
  exact L1 12 (0) (0) ls _ _ (lv_sub hl [2, 3, 1, 0] rfl) hP hD hS (by have := rg_X6_napkins hC; omega) (by have := rg_X6_napkins hC; omega) hE


theorem rg_X8_napkinsAheadOf_L {M : Mem} (h : CI M) (t : Int) : ∀ (k : Nat) (c n : Int), 0 ≤ n → 0 ≤ c → c ≤ n → n ≤ 10 → 0 ≤ fX8_napkinsAheadOf_L1 M t k c n ∧ fX8_napkinsAheadOf_L1 M t k c n ≤ 10 := by
  have hz := rg_X6_napkins h
  intro k
  induction k with
  | zero => intro c n _ _ _ _; exact ⟨(by decide : (0 : Int) ≤ 0), (by decide : (0 : Int) ≤ 10)⟩
  | succ k ih =>
    intro c n h1 h2 h3 h4
    rw [fX8_napkinsAheadOf_L1]
    (repeat' split) <;> first | omega | exact ih _ _ (by omega) (by omega) (by omega) (by omega)
theorem rg_X8_napkinsAheadOf {M : Mem} (h : CI M) (t : Int) : 0 ≤ fX8_napkinsAheadOf M t ∧ fX8_napkinsAheadOf M t ≤ 10 := rg_X8_napkinsAheadOf_L h t 12 0 0 (by decide) (by decide) (by decide) (by decide)

def fX8_worn_L1 (M : Mem) (place : Int) : Nat → Int → (Int × Int)
  | 0, _ => ((0), (0))
  | k1 + 1, nap => if ((fX6_napkins M) ≤ nap) then ((4), (0)) else if ((fX8_napkinsAheadOf M nap) = place) then ((0), nap) else fX8_worn_L1 M place k1 (nap + 1)
def fX8_worn (M : Mem) (place : Int) : Int × Int := fX8_worn_L1 M place 12 (0)
set_option maxRecDepth 100000 in
set_option maxHeartbeats 4000000 in
theorem kX8_worn (l : Launch) (hst : l.stackTraces = false) (D : va_G) (E : Nat → Nat) (cI cC : ClassId) (T : Nat → Nat) (M : Mem) (place : Int) (h1 : -2147483648 ≤ place ∧ place < 2147483648) (hC : CI M) (kx r : Int) (hE : fX8_worn M place = (kx, r)) : Cx l yX8_worn wsX8_worn 6 88 1 [.ref (E 0), .int (iI place)] D (TY cI cC) (VC E cI cC) (ZC E cI cC T) M kx (some (.int (iI r))) M := by
  refine Cx.of (cc := cX8_worn) (maxL := 3) (ret := (some .int)) (by decide +kernel) rfl (Nat.le_of_ble_eq_true rfl) ?_
  intro p e s m args below meth c ls hx hb hml hr hown hts hlocks hP hK hD hZ hS hout hl
  have hl : lv_has ls 3 [(0, .ref (E 0)), (1, .int (iI place))] := hl
  have S0 : CallFix p m c cX8_worn 3 s args wsX8_worn RX8 := ⟨hx, hb, hml, hown, hts⟩
  have hinX8 : ∀ w ∈ u_ws RX8 TX8 12, w ∈ wsX8_worn := by decide +kernel
  rw [fX8_worn] at hE
  refine z_iconst hx hb dX8_worn_0 ?_
  refine lv_istore_n hx hb dX8_worn_1 rfl hl (Nat.le_of_ble_eq_true rfl) (lv' := [(2, .int (iI (0))), (0, .ref (E 0)), (1, .int (iI place))]) rfl (fun ls hl => ?_)
  have L1 : ∀ (k1 : Nat) (nap : Int) (ls : Array Slot) (H : Heap) (locs : List Loc), lv_has ls 3 [(0, .ref (E 0)), (1, .int (iI place)), (2, .int (iI nap))] → va_P D vwCl (VC E cI cC M) H → va_D (wA (VC E cI cC M)) (VC E cI cC M) → va_S (wA (VC E cI cC M)) s.heap H locs → (0 ≤ nap ∧ nap ≤ fX6_napkins M) → (fX6_napkins M - nap < (k1 : Int)) → fX8_worn_L1 M place k1 nap = (kx, r) → W p l e (zRmx 6 88 1) s m args below meth c H locs 0 0 (cxE below D (VC E cI cC) M kx (some (.int (iI r))) M args s 1) (F0 m 2 ls []) := by
    intro k1
    induction k1 with
    | zero => intro nap ls H locs hl hP hD hS i1 i3 hE; exfalso; omega
    | succ k1 ih1 =>
      intro nap ls H locs hl hP hD hS i1 i3 hE
      have q97 := rg_X6_napkins hC
      rw [fX8_worn_L1] at hE
      refine lv_iload_n hx hb dX8_worn_2 rfl (lv_at hl 2 rfl) ?_
      refine lv_aload_n hx hb dX8_worn_3 rfl (lv_at hl 0 rfl) ?_
      refine va_get (own := RX8) (ref := "NapkinSyntax") (C := RX8) (T := TX8) (N := 12) hx hb hts hinX8 hown hK hP 0 VC_0 rfl 1 (Nat.le_of_ble_eq_true rfl) (hts (.fieldLink RX8 20 "NapkinSyntax" "now" "LNapkinSyntax$State;") (by decide +kernel)) (fun _ h => h) (v := .ref (E 2)) rfl dX8_worn_4 ?_
      refine ct_Vi (VC_fix E cI cC) (ZC_ok E cI cC T) (ZC_bl E cI cC T) hZ S0 (kX6_napkins l D E cI cC (ZC E cI cC T) (ZC_ok E cI cC T) (ZC_bl E cI cC T) M  (fX6_napkins M) rfl) (cwV 0 hts gX8_worn_X6_napkins rfl rfl rfl (by decide +kernel) ⟨(Nat.le_of_ble_eq_true rfl), (Nat.le_of_ble_eq_true rfl)⟩) hK hP hD hS rfl rfl VC_2 rfl hl.1 rfl (Nat.le_of_ble_eq_true rfl) dX8_worn_7 ⟨(Nat.le_of_ble_eq_true rfl), (Nat.le_of_ble_eq_true rfl)⟩ (fun H locs hP hD hS => ?_)
      have q1 := rg_X6_napkins hC
      refine z_icmp_ge hx hb dX8_worn_10 (tgt := 30) rfl (by omega) (by omega) (fun b2 => ?_) (fun b2 => ?_)
      · rw [if_pos b2] at hE
        obtain ⟨e0, e1⟩ := Prod.mk.inj hE
        exact cx_throwN (k := 4) rfl hx hb hst hts hown (by decide +kernel) (by decide +kernel) (ZC_t178 hZ) (fun w h => List.mem_cons_of_mem _ (List.mem_append_left _ (List.mem_append_right _ h))) xb_4 xg_4 (ZC_d1 hZ) (ZC_d2 hZ) (ZC_d3 hZ) (ZC_x4 hZ) (ZC_us hZ M) (ZC_ss hZ M) hS hP (hl.1.trans hml.symm) dX8_worn_30 dX8_worn_33 dX8_worn_34 dX8_worn_36 dX8_worn_39 hout (Nat.le_of_ble_eq_true rfl) (Nat.le_of_ble_eq_true rfl) (Nat.le_of_ble_eq_true rfl) (Nat.le_of_ble_eq_true rfl) hlocks (by decide) e0 (Nat.le_of_ble_eq_true rfl) (Nat.le_of_ble_eq_true rfl)
      · rw [if_neg b2] at hE
        refine lv_aload_n hx hb dX8_worn_13 rfl (lv_at hl 0 rfl) ?_
        refine lv_iload_n hx hb dX8_worn_14 rfl (lv_at hl 2 rfl) ?_
        refine ct_Vi (VC_fix E cI cC) (ZC_ok E cI cC T) (ZC_bl E cI cC T) hZ S0 (kX8_napkinsAheadOf l D E cI cC (ZC E cI cC T) (ZC_ok E cI cC T) (ZC_bl E cI cC T) M nap (by omega) hC (fX8_napkinsAheadOf M nap) rfl) (cwV 1 hts gX8_worn_X8_napkinsAheadOf rfl rfl rfl (by decide +kernel) ⟨(Nat.le_of_ble_eq_true rfl), (Nat.le_of_ble_eq_true rfl)⟩) hK hP hD hS rfl rfl VC_0 rfl hl.1 rfl (Nat.le_of_ble_eq_true rfl) dX8_worn_15 ⟨(Nat.le_of_ble_eq_true rfl), (Nat.le_of_ble_eq_true rfl)⟩ (fun H locs hP hD hS => ?_)
        have q3 := rg_X8_napkinsAheadOf hC nap
        refine lv_iload_n hx hb dX8_worn_18 rfl (lv_at hl 1 rfl) ?_
        refine z_icmp_ne hx hb dX8_worn_19 (tgt := 24) rfl (by omega) (by omega) (fun b4 => ?_) (fun b4 => ?_)
        · rw [if_neg b4] at hE
          refine z_iinc hx hb dX8_worn_24 hl (k := 2) rfl (Nat.le_of_ble_eq_true rfl) (lv' := [(2, .int (iI (nap + 1))), (0, .ref (E 0)), (1, .int (iI place))]) rfl (fun ls hl => ?_)
          refine lv_goto hx hb dX8_worn_27 (tgt := 2) rfl ?_
          exact ih1 (nap + 1) ls _ _ (lv_sub hl [1, 2, 0] rfl) hP hD hS (by omega) (by omega) hE
        · rw [if_pos b4] at hE
          refine lv_iload_n hx hb dX8_worn_22 rfl (lv_at hl 2 rfl) ?_
          obtain ⟨e0, e1⟩ := Prod.mk.inj hE
          exact cx_i hx hb hr hlocks e0 e1 rfl hS hP (Nat.le_of_ble_eq_true rfl) (Nat.le_of_ble_eq_true rfl) dX8_worn_23
  exact L1 12 (0) ls _ _ (lv_sub hl [1, 2, 0] rfl) hP hD hS (by have := rg_X6_napkins hC; omega) (by have := rg_X6_napkins hC; omega) hE

def fX8_type (M : Mem) (character : Int) : Int × Int × Mem := if ((fX7_isFull M) = 0) then ((0), (fX7_length (fX7_append M character)), (fX7_append M character)) else ((5), (0), M)
set_option maxRecDepth 100000 in
set_option maxHeartbeats 4000000 in
theorem kX8_type (l : Launch) (hst : l.stackTraces = false) (D : va_G) (E : Nat → Nat) (cI cC : ClassId) (T : Nat → Nat) (M : Mem) (character : Int) (h1 : 0 ≤ character ∧ character < 65536) (hT : TI M) (kx r : Int) (M' : Mem) (hE : fX8_type M character = (kx, r, M')) : Cx l yX8_type wsX8_type 6 82 1 [.ref (E 0), .int (iI character)] D (TY cI cC) (VC E cI cC) (ZC E cI cC T) M kx (some (.int (iI r))) M' := by
  refine Cx.of (cc := cX8_type) (maxL := 2) (ret := (some .int)) (by decide +kernel) rfl (Nat.le_of_ble_eq_true rfl) ?_
  intro p e s m args below meth c ls hx hb hml hr hown hts hlocks hP hK hD hZ hS hout hl
  have hl : lv_has ls 2 [(0, .ref (E 0)), (1, .int (iI character))] := hl
  have S0 : CallFix p m c cX8_type 2 s args wsX8_type RX8 := ⟨hx, hb, hml, hown, hts⟩
  have hinX8 : ∀ w ∈ u_ws RX8 TX8 12, w ∈ wsX8_type := by decide +kernel
  rw [fX8_type] at hE
  refine lv_aload_n hx hb dX8_type_0 rfl (lv_at hl 0 rfl) ?_
  refine va_get (own := RX8) (ref := "NapkinSyntax") (C := RX8) (T := TX8) (N := 12) hx hb hts hinX8 hown hK hP 0 VC_0 rfl 4 (Nat.le_of_ble_eq_true rfl) (hts (.fieldLink RX8 38 "NapkinSyntax" "text" "LNapkinSyntax$Text;") (by decide +kernel)) (fun _ h => h) (v := .ref (E 13)) rfl dX8_type_1 ?_
  refine ct_Vi (VC_fix E cI cC) (ZC_ok E cI cC T) (ZC_bl E cI cC T) hZ S0 (kX7_isFull l D E cI cC (ZC E cI cC T) (ZC_ok E cI cC T) (ZC_bl E cI cC T) M hT (fX7_isFull M) rfl) (cwV 0 hts gX8_type_X7_isFull rfl rfl rfl (by decide +kernel) ⟨(Nat.le_of_ble_eq_true rfl), (Nat.le_of_ble_eq_true rfl)⟩) hK hP hD hS rfl rfl VC_13 rfl hl.1 rfl (Nat.le_of_ble_eq_true rfl) dX8_type_4 ⟨(Nat.le_of_ble_eq_true rfl), (Nat.le_of_ble_eq_true rfl)⟩ (fun H locs hP hD hS => ?_)
  have q1 := bX7_isFull M
  refine z_if_eq hx hb dX8_type_7 (tgt := 21) rfl (by omega) (fun b2 => ?_) (fun b2 => ?_)
  · rw [if_pos b2] at hE
    refine lv_aload_n hx hb dX8_type_21 rfl (lv_at hl 0 rfl) ?_
    refine va_get (own := RX8) (ref := "NapkinSyntax") (C := RX8) (T := TX8) (N := 12) hx hb hts hinX8 hown hK hP 0 VC_0 rfl 4 (Nat.le_of_ble_eq_true rfl) (hts (.fieldLink RX8 38 "NapkinSyntax" "text" "LNapkinSyntax$Text;") (by decide +kernel)) (fun _ h => h) (v := .ref (E 13)) rfl dX8_type_22 ?_
    refine lv_iload_n hx hb dX8_type_25 rfl (lv_at hl 1 rfl) ?_
    refine ct_Vv (VC_fix E cI cC) (ZC_ok E cI cC T) (ZC_bl E cI cC T) hZ S0 (kX7_append l D E cI cC (ZC E cI cC T) (ZC_ok E cI cC T) (ZC_bl E cI cC T) M character (by omega) hT (fX7_append M character) rfl) (cwV 1 hts gX8_type_X7_append rfl rfl rfl (by decide +kernel) ⟨(Nat.le_of_ble_eq_true rfl), (Nat.le_of_ble_eq_true rfl)⟩) hK hP hD hS rfl rfl VC_13 rfl hl.1 rfl (Nat.le_of_ble_eq_true rfl) dX8_type_26 ⟨(Nat.le_of_ble_eq_true rfl), (Nat.le_of_ble_eq_true rfl)⟩ (fun H locs hP hD hS => ?_)
    refine lv_aload_n hx hb dX8_type_29 rfl (lv_at hl 0 rfl) ?_
    refine va_get (own := RX8) (ref := "NapkinSyntax") (C := RX8) (T := TX8) (N := 12) hx hb hts hinX8 hown hK hP 0 VC_0 rfl 4 (Nat.le_of_ble_eq_true rfl) (hts (.fieldLink RX8 38 "NapkinSyntax" "text" "LNapkinSyntax$Text;") (by decide +kernel)) (fun _ h => h) (v := .ref (E 13)) rfl dX8_type_30 ?_
    refine ct_Vi (VC_fix E cI cC) (ZC_ok E cI cC T) (ZC_bl E cI cC T) hZ S0 (kX7_length l D E cI cC (ZC E cI cC T) (ZC_ok E cI cC T) (ZC_bl E cI cC T) (fX7_append M character) (TI_append hT character (by omega)) (fX7_length (fX7_append M character)) rfl) (cwV 0 hts gX8_type_X7_length rfl rfl rfl (by decide +kernel) ⟨(Nat.le_of_ble_eq_true rfl), (Nat.le_of_ble_eq_true rfl)⟩) hK hP hD hS rfl rfl VC_13 rfl hl.1 rfl (Nat.le_of_ble_eq_true rfl) dX8_type_33 ⟨(Nat.le_of_ble_eq_true rfl), (Nat.le_of_ble_eq_true rfl)⟩ (fun H locs hP hD hS => ?_)
    have q3 := rg_X7_length (TI_append hT character (by omega))
    obtain ⟨e0, e9⟩ := Prod.mk.inj hE
    obtain ⟨e1, e2⟩ := Prod.mk.inj e9
    subst e2
    exact cx_i hx hb hr hlocks e0 e1 rfl hS hP (Nat.le_of_ble_eq_true rfl) (Nat.le_of_ble_eq_true rfl) dX8_type_36
  · rw [if_neg b2] at hE
    obtain ⟨e0, e1⟩ := Prod.mk.inj hE
    obtain ⟨-, e2⟩ := Prod.mk.inj e1
    subst e2
    exact cx_throwW (k := 5) rfl hx hb hst hts hown (by decide +kernel) xn_fit (by decide +kernel) (by decide +kernel) (ZC_t263 hZ) (fun w h => List.mem_cons_of_mem _ (List.mem_append_left _ (List.mem_append_right _ h))) xb_5 xg_5 (ZC_d1 hZ) (ZC_d2 hZ) (ZC_d3 hZ) (ZC_x5 hZ) (ZC_us hZ M) (ZC_ss hZ M) hS hP (hl.1.trans hml.symm) dX8_type_10 dX8_type_13 dX8_type_14 dX8_type_17 dX8_type_20 hout (Nat.le_of_ble_eq_true rfl) (Nat.le_of_ble_eq_true rfl) (Nat.le_of_ble_eq_true rfl) (Nat.le_of_ble_eq_true rfl) hlocks (by decide) e0 (Nat.le_of_ble_eq_true rfl) (Nat.le_of_ble_eq_true rfl)

theorem fr_fX8_type {M : Mem} (character : Int) {r : Nat} (h10 : Nat.beq r 10 = false) (h11 : Nat.beq r 11 = false) : (fX8_type M character).2.2 r = M r := by
  unfold fX8_type
  (repeat' with_reducible refine frite_x (fun _ => ?_) (fun _ => ?_)) <;> first | with_reducible rfl | simp only [mst_o, msf_o, mcp_o, fr_fX7_append, h10, h11]

def fX8_errorPosition (M : Mem) : Int × Int := if ((M 17 0) = (-1)) then ((4), (0)) else ((0), (M 17 0))
set_option maxRecDepth 100000 in
set_option maxHeartbeats 4000000 in
theorem kX8_errorPosition (l : Launch) (hst : l.stackTraces = false) (D : va_G) (E : Nat → Nat) (cI cC : ClassId) (T : Nat → Nat) (M : Mem) (h1 : -1 ≤ M 17 0 ∧ M 17 0 ≤ 1000) (kx r : Int) (hE : fX8_errorPosition M = (kx, r)) : Cx l yX8_errorPosition wsX8_errorPosition 6 82 1 [.ref (E 0)] D (TY cI cC) (VC E cI cC) (ZC E cI cC T) M kx (some (.int (iI r))) M := by
  refine Cx.of (cc := cX8_errorPosition) (maxL := 1) (ret := (some .int)) (by decide +kernel) rfl (Nat.le_of_ble_eq_true rfl) ?_
  intro p e s m args below meth c ls hx hb hml hr hown hts hlocks hP hK hD hZ hS hout hl
  have hl : lv_has ls 1 [(0, .ref (E 0))] := hl
  have S0 : CallFix p m c cX8_errorPosition 1 s args wsX8_errorPosition RX8 := ⟨hx, hb, hml, hown, hts⟩
  have hinX8 : ∀ w ∈ u_ws RX8 TX8 12, w ∈ wsX8_errorPosition := by decide +kernel
  rw [fX8_errorPosition] at hE
  refine lv_aload_n hx hb dX8_errorPosition_0 rfl (lv_at hl 0 rfl) ?_
  refine va_get (own := RX8) (ref := "NapkinSyntax") (C := RX8) (T := TX8) (N := 12) hx hb hts hinX8 hown hK hP 0 VC_0 rfl 9 (Nat.le_of_ble_eq_true rfl) (hts (.fieldLink RX8 62 "NapkinSyntax" "malformedAt" "I") (by decide +kernel)) (fun _ h => h) (v := .int (iI (M 17 0))) rfl dX8_errorPosition_1 ?_
  refine z_iconst hx hb dX8_errorPosition_4 ?_
  refine z_icmp_ne hx hb dX8_errorPosition_5 (tgt := 19) rfl (by omega) (by omega) (fun b1 => ?_) (fun b1 => ?_)
  · rw [if_neg b1] at hE
    refine lv_aload_n hx hb dX8_errorPosition_19 rfl (lv_at hl 0 rfl) ?_
    refine va_get (own := RX8) (ref := "NapkinSyntax") (C := RX8) (T := TX8) (N := 12) hx hb hts hinX8 hown hK hP 0 VC_0 rfl 9 (Nat.le_of_ble_eq_true rfl) (hts (.fieldLink RX8 62 "NapkinSyntax" "malformedAt" "I") (by decide +kernel)) (fun _ h => h) (v := .int (iI (M 17 0))) rfl dX8_errorPosition_20 ?_
    obtain ⟨e0, e1⟩ := Prod.mk.inj hE
    exact cx_i hx hb hr hlocks e0 e1 rfl hS hP (Nat.le_of_ble_eq_true rfl) (Nat.le_of_ble_eq_true rfl) dX8_errorPosition_23
  · rw [if_pos b1] at hE
    obtain ⟨e0, e1⟩ := Prod.mk.inj hE
    exact cx_throwNW (k := 4) rfl hx hb hst hts hown (by decide +kernel) (by decide +kernel) (ZC_t323 hZ) (fun w h => List.mem_cons_of_mem _ (List.mem_append_right _ h)) xb_4 xg_4 (ZC_d1 hZ) (ZC_d2 hZ) (ZC_d3 hZ) (ZC_x4 hZ) (ZC_us hZ M) (ZC_ss hZ M) hS hP (hl.1.trans hml.symm) dX8_errorPosition_8 dX8_errorPosition_11 dX8_errorPosition_12 dX8_errorPosition_15 dX8_errorPosition_18 hout (Nat.le_of_ble_eq_true rfl) (Nat.le_of_ble_eq_true rfl) (Nat.le_of_ble_eq_true rfl) (Nat.le_of_ble_eq_true rfl) hlocks (by decide) e0 (Nat.le_of_ble_eq_true rfl) (Nat.le_of_ble_eq_true rfl)

def fX8_refusal (M : Mem) (isCause isDetail : Int) : Int × Int := if (isCause = 0) then if ((M 18 0) = 0) then ((4), (0)) else if (isDetail = 0) then ((0), ((M 18 0) / (16))) else ((0), ((M 18 0) % (16))) else if ((M 19 0) = 0) then ((4), (0)) else if (isDetail = 0) then ((0), ((M 19 0) / (16))) else ((0), ((M 19 0) % (16)))
set_option maxRecDepth 100000 in
set_option maxHeartbeats 4000000 in
theorem kX8_refusal (l : Launch) (hst : l.stackTraces = false) (D : va_G) (E : Nat → Nat) (cI cC : ClassId) (T : Nat → Nat) (M : Mem) (isCause isDetail : Int) (h1 : 0 ≤ isCause ∧ isCause ≤ 1) (h2 : 0 ≤ isDetail ∧ isDetail ≤ 1) (h3 : 0 ≤ M 18 0 ∧ M 18 0 ≤ 1000) (h4 : 0 ≤ M 19 0 ∧ M 19 0 ≤ 1000) (kx r : Int) (hE : fX8_refusal M isCause isDetail = (kx, r)) : Cx l yX8_refusal wsX8_refusal 6 82 1 [.ref (E 0), .int (iI isCause), .int (iI isDetail)] D (TY cI cC) (VC E cI cC) (ZC E cI cC T) M kx (some (.int (iI r))) M := by
  refine Cx.of (cc := cX8_refusal) (maxL := 4) (ret := (some .int)) (by decide +kernel) rfl (Nat.le_of_ble_eq_true rfl) ?_
  intro p e s m args below meth c ls hx hb hml hr hown hts hlocks hP hK hD hZ hS hout hl
  have hl : lv_has ls 4 [(0, .ref (E 0)), (1, .int (iI isCause)), (2, .int (iI isDetail))] := hl
  have S0 : CallFix p m c cX8_refusal 4 s args wsX8_refusal RX8 := ⟨hx, hb, hml, hown, hts⟩
  have hinX8 : ∀ w ∈ u_ws RX8 TX8 12, w ∈ wsX8_refusal := by decide +kernel
  rw [fX8_refusal] at hE
  refine lv_iload_n hx hb dX8_refusal_0 rfl (lv_at hl 1 rfl) ?_
  refine z_if_eq hx hb dX8_refusal_1 (tgt := 11) rfl (by omega) (fun b1 => ?_) (fun b1 => ?_)
  · rw [if_pos b1] at hE
    refine lv_aload_n hx hb dX8_refusal_11 rfl (lv_at hl 0 rfl) ?_
    refine va_get (own := RX8) (ref := "NapkinSyntax") (C := RX8) (T := TX8) (N := 12) hx hb hts hinX8 hown hK hP 0 VC_0 rfl 10 (Nat.le_of_ble_eq_true rfl) (hts (.fieldLink RX8 66 "NapkinSyntax" "refused" "I") (by decide +kernel)) (fun _ h => h) (v := .int (iI (M 18 0))) rfl dX8_refusal_12 ?_
    refine lv_istore_n hx hb dX8_refusal_15 rfl hl (Nat.le_of_ble_eq_true rfl) (lv' := [(3, .int (iI (M 18 0))), (0, .ref (E 0)), (1, .int (iI isCause)), (2, .int (iI isDetail))]) rfl (fun ls hl => ?_)
    refine lv_iload_n hx hb dX8_refusal_16 rfl (lv_at hl 0 rfl) ?_
    refine z_if_ne hx hb dX8_refusal_17 (tgt := 31) rfl (by omega) (fun b2 => ?_) (fun b2 => ?_)
    · rw [if_neg b2] at hE
      refine lv_iload_n hx hb dX8_refusal_31 rfl (lv_at hl 3 rfl) ?_
      refine z_if_eq hx hb dX8_refusal_32 (tgt := 42) rfl (by omega) (fun b3 => ?_) (fun b3 => ?_)
      · rw [if_pos b3] at hE
        refine lv_iload_n hx hb dX8_refusal_42 rfl (lv_at hl 0 rfl) ?_
        refine z_bipush hx hb dX8_refusal_43 (by decide +kernel) ?_
        refine z_idiv hx hb dX8_refusal_45 (by omega) (by omega) (by omega) (by omega) ?_
        obtain ⟨e0, e1⟩ := Prod.mk.inj hE
        exact cx_i hx hb hr hlocks e0 e1 rfl hS hP (Nat.le_of_ble_eq_true rfl) (Nat.le_of_ble_eq_true rfl) dX8_refusal_46
      · rw [if_neg b3] at hE
        refine lv_iload_n hx hb dX8_refusal_35 rfl (lv_at hl 0 rfl) ?_
        refine z_bipush hx hb dX8_refusal_36 (by decide +kernel) ?_
        refine z_irem hx hb dX8_refusal_38 (by omega) (by omega) (by omega) (by omega) ?_
        refine lv_goto hx hb dX8_refusal_39 (tgt := 46) rfl ?_
        obtain ⟨e0, e1⟩ := Prod.mk.inj hE
        exact cx_i hx hb hr hlocks e0 e1 rfl hS hP (Nat.le_of_ble_eq_true rfl) (Nat.le_of_ble_eq_true rfl) dX8_refusal_46
    · rw [if_pos b2] at hE
      obtain ⟨e0, e1⟩ := Prod.mk.inj hE
      exact cx_throwNW (k := 4) rfl hx hb hst hts hown (by decide +kernel) (by decide +kernel) (ZC_t325 hZ) (fun w h => List.mem_cons_of_mem _ (List.mem_append_right _ h)) xb_4 xg_4 (ZC_d1 hZ) (ZC_d2 hZ) (ZC_d3 hZ) (ZC_x4 hZ) (ZC_us hZ M) (ZC_ss hZ M) hS hP (hl.1.trans hml.symm) dX8_refusal_20 dX8_refusal_23 dX8_refusal_24 dX8_refusal_27 dX8_refusal_30 hout (Nat.le_of_ble_eq_true rfl) (Nat.le_of_ble_eq_true rfl) (Nat.le_of_ble_eq_true rfl) (Nat.le_of_ble_eq_true rfl) hlocks (by decide) e0 (Nat.le_of_ble_eq_true rfl) (Nat.le_of_ble_eq_true rfl)
  · rw [if_neg b1] at hE
    refine lv_aload_n hx hb dX8_refusal_4 rfl (lv_at hl 0 rfl) ?_
    refine va_get (own := RX8) (ref := "NapkinSyntax") (C := RX8) (T := TX8) (N := 12) hx hb hts hinX8 hown hK hP 0 VC_0 rfl 11 (Nat.le_of_ble_eq_true rfl) (hts (.fieldLink RX8 69 "NapkinSyntax" "cause" "I") (by decide +kernel)) (fun _ h => h) (v := .int (iI (M 19 0))) rfl dX8_refusal_5 ?_
    refine lv_goto hx hb dX8_refusal_8 (tgt := 15) rfl ?_
    refine lv_istore_n hx hb dX8_refusal_15 rfl hl (Nat.le_of_ble_eq_true rfl) (lv' := [(3, .int (iI (M 19 0))), (0, .ref (E 0)), (1, .int (iI isCause)), (2, .int (iI isDetail))]) rfl (fun ls hl => ?_)
    refine lv_iload_n hx hb dX8_refusal_16 rfl (lv_at hl 0 rfl) ?_
    refine z_if_ne hx hb dX8_refusal_17 (tgt := 31) rfl (by omega) (fun b4 => ?_) (fun b4 => ?_)
    · rw [if_neg b4] at hE
      refine lv_iload_n hx hb dX8_refusal_31 rfl (lv_at hl 3 rfl) ?_
      refine z_if_eq hx hb dX8_refusal_32 (tgt := 42) rfl (by omega) (fun b5 => ?_) (fun b5 => ?_)
      · rw [if_pos b5] at hE
        refine lv_iload_n hx hb dX8_refusal_42 rfl (lv_at hl 0 rfl) ?_
        refine z_bipush hx hb dX8_refusal_43 (by decide +kernel) ?_
        refine z_idiv hx hb dX8_refusal_45 (by omega) (by omega) (by omega) (by omega) ?_
        obtain ⟨e0, e1⟩ := Prod.mk.inj hE
        exact cx_i hx hb hr hlocks e0 e1 rfl hS hP (Nat.le_of_ble_eq_true rfl) (Nat.le_of_ble_eq_true rfl) dX8_refusal_46
      · rw [if_neg b5] at hE
        refine lv_iload_n hx hb dX8_refusal_35 rfl (lv_at hl 0 rfl) ?_
        refine z_bipush hx hb dX8_refusal_36 (by decide +kernel) ?_
        refine z_irem hx hb dX8_refusal_38 (by omega) (by omega) (by omega) (by omega) ?_
        refine lv_goto hx hb dX8_refusal_39 (tgt := 46) rfl ?_
        obtain ⟨e0, e1⟩ := Prod.mk.inj hE
        exact cx_i hx hb hr hlocks e0 e1 rfl hS hP (Nat.le_of_ble_eq_true rfl) (Nat.le_of_ble_eq_true rfl) dX8_refusal_46
    · rw [if_pos b4] at hE
      obtain ⟨e0, e1⟩ := Prod.mk.inj hE
      exact cx_throwNW (k := 4) rfl hx hb hst hts hown (by decide +kernel) (by decide +kernel) (ZC_t325 hZ) (fun w h => List.mem_cons_of_mem _ (List.mem_append_right _ h)) xb_4 xg_4 (ZC_d1 hZ) (ZC_d2 hZ) (ZC_d3 hZ) (ZC_x4 hZ) (ZC_us hZ M) (ZC_ss hZ M) hS hP (hl.1.trans hml.symm) dX8_refusal_20 dX8_refusal_23 dX8_refusal_24 dX8_refusal_27 dX8_refusal_30 hout (Nat.le_of_ble_eq_true rfl) (Nat.le_of_ble_eq_true rfl) (Nat.le_of_ble_eq_true rfl) (Nat.le_of_ble_eq_true rfl) hlocks (by decide) e0 (Nat.le_of_ble_eq_true rfl) (Nat.le_of_ble_eq_true rfl)

def fX8_written (M : Mem) (index : Int) : Int × Int := if (index < 0) then ((4), (0)) else if (index < (fX3_length M)) then ((0), (fX3_at M index)) else ((4), (0))
set_option maxRecDepth 100000 in
set_option maxHeartbeats 4000000 in
theorem kX8_written (l : Launch) (hst : l.stackTraces = false) (D : va_G) (E : Nat → Nat) (cI cC : ClassId) (T : Nat → Nat) (M : Mem) (index : Int) (h1 : -2147483648 ≤ index ∧ index < 2147483648) (hL : LN M) (kx r : Int) (hE : fX8_written M index = (kx, r)) : Cx l yX8_written wsX8_written 6 82 1 [.ref (E 0), .int (iI index)] D (TY cI cC) (VC E cI cC) (ZC E cI cC T) M kx (some (.int (iI r))) M := by
  refine Cx.of (cc := cX8_written) (maxL := 2) (ret := (some .char)) (by decide +kernel) rfl (Nat.le_of_ble_eq_true rfl) ?_
  intro p e s m args below meth c ls hx hb hml hr hown hts hlocks hP hK hD hZ hS hout hl
  have hl : lv_has ls 2 [(0, .ref (E 0)), (1, .int (iI index))] := hl
  have S0 : CallFix p m c cX8_written 2 s args wsX8_written RX8 := ⟨hx, hb, hml, hown, hts⟩
  have hinX8 : ∀ w ∈ u_ws RX8 TX8 12, w ∈ wsX8_written := by decide +kernel
  rw [fX8_written] at hE
  refine lv_iload_n hx hb dX8_written_0 rfl (lv_at hl 1 rfl) ?_
  refine z_if_lt hx hb dX8_written_1 (tgt := 15) rfl (by omega) (fun b1 => ?_) (fun b1 => ?_)
  · rw [if_pos b1] at hE
    obtain ⟨e0, e1⟩ := Prod.mk.inj hE
    exact cx_throwNW (k := 4) rfl hx hb hst hts hown (by decide +kernel) (by decide +kernel) (ZC_t346 hZ) (fun w h => List.mem_cons_of_mem _ (List.mem_append_left _ (List.mem_append_right _ h))) xb_4 xg_4 (ZC_d1 hZ) (ZC_d2 hZ) (ZC_d3 hZ) (ZC_x4 hZ) (ZC_us hZ M) (ZC_ss hZ M) hS hP (hl.1.trans hml.symm) dX8_written_15 dX8_written_18 dX8_written_19 dX8_written_22 dX8_written_25 hout (Nat.le_of_ble_eq_true rfl) (Nat.le_of_ble_eq_true rfl) (Nat.le_of_ble_eq_true rfl) (Nat.le_of_ble_eq_true rfl) hlocks (by decide) e0 (Nat.le_of_ble_eq_true rfl) (Nat.le_of_ble_eq_true rfl)
  · rw [if_neg b1] at hE
    refine lv_iload_n hx hb dX8_written_4 rfl (lv_at hl 1 rfl) ?_
    refine lv_aload_n hx hb dX8_written_5 rfl (lv_at hl 0 rfl) ?_
    refine va_get (own := RX8) (ref := "NapkinSyntax") (C := RX8) (T := TX8) (N := 12) hx hb hts hinX8 hown hK hP 0 VC_0 rfl 5 (Nat.le_of_ble_eq_true rfl) (hts (.fieldLink RX8 45 "NapkinSyntax" "line" "LNapkinSyntax$Line;") (by decide +kernel)) (fun _ h => h) (v := .ref (E 15)) rfl dX8_written_6 ?_
    refine ct_Vi (VC_fix E cI cC) (ZC_ok E cI cC T) (ZC_bl E cI cC T) hZ S0 (kX3_length l D E cI cC (ZC E cI cC T) (ZC_ok E cI cC T) (ZC_bl E cI cC T) M  (fX3_length M) rfl) (cwV 0 hts gX8_written_X3_length rfl rfl rfl (by decide +kernel) ⟨(Nat.le_of_ble_eq_true rfl), (Nat.le_of_ble_eq_true rfl)⟩) hK hP hD hS rfl rfl VC_15 rfl hl.1 rfl (Nat.le_of_ble_eq_true rfl) dX8_written_9 ⟨(Nat.le_of_ble_eq_true rfl), (Nat.le_of_ble_eq_true rfl)⟩ (fun H locs hP hD hS => ?_)
    have q2 := rg_X3_length hL
    refine z_icmp_lt hx hb dX8_written_12 (tgt := 26) rfl (by omega) (by omega) (fun b3 => ?_) (fun b3 => ?_)
    · rw [if_pos b3] at hE
      refine lv_aload_n hx hb dX8_written_26 rfl (lv_at hl 0 rfl) ?_
      refine va_get (own := RX8) (ref := "NapkinSyntax") (C := RX8) (T := TX8) (N := 12) hx hb hts hinX8 hown hK hP 0 VC_0 rfl 5 (Nat.le_of_ble_eq_true rfl) (hts (.fieldLink RX8 45 "NapkinSyntax" "line" "LNapkinSyntax$Line;") (by decide +kernel)) (fun _ h => h) (v := .ref (E 15)) rfl dX8_written_27 ?_
      refine lv_iload_n hx hb dX8_written_30 rfl (lv_at hl 1 rfl) ?_
      refine ct_Vi (VC_fix E cI cC) (ZC_ok E cI cC T) (ZC_bl E cI cC T) hZ S0 (kX3_at l D E cI cC (ZC E cI cC T) (ZC_ok E cI cC T) (ZC_bl E cI cC T) M index (by omega) (LN_i hL) (LN_c hL) (fX3_at M index) rfl) (cwV 1 hts gX8_written_X3_at rfl rfl rfl (by decide +kernel) ⟨(Nat.le_of_ble_eq_true rfl), (Nat.le_of_ble_eq_true rfl)⟩) hK hP hD hS rfl rfl VC_15 rfl hl.1 rfl (Nat.le_of_ble_eq_true rfl) dX8_written_31 ⟨(Nat.le_of_ble_eq_true rfl), (Nat.le_of_ble_eq_true rfl)⟩ (fun H locs hP hD hS => ?_)
      have q4 := rg_X3_at hL index
      obtain ⟨e0, e1⟩ := Prod.mk.inj hE
      exact cx_i hx hb hr hlocks e0 e1 (nr_c (by omega) (by omega)) hS hP (Nat.le_of_ble_eq_true rfl) (Nat.le_of_ble_eq_true rfl) dX8_written_34
    · rw [if_neg b3] at hE
      obtain ⟨e0, e1⟩ := Prod.mk.inj hE
      exact cx_throwNW (k := 4) rfl hx hb hst hts hown (by decide +kernel) (by decide +kernel) (ZC_t346 hZ) (fun w h => List.mem_cons_of_mem _ (List.mem_append_left _ (List.mem_append_right _ h))) xb_4 xg_4 (ZC_d1 hZ) (ZC_d2 hZ) (ZC_d3 hZ) (ZC_x4 hZ) (ZC_us hZ M) (ZC_ss hZ M) hS hP (hl.1.trans hml.symm) dX8_written_15 dX8_written_18 dX8_written_19 dX8_written_22 dX8_written_25 hout (Nat.le_of_ble_eq_true rfl) (Nat.le_of_ble_eq_true rfl) (Nat.le_of_ble_eq_true rfl) (Nat.le_of_ble_eq_true rfl) hlocks (by decide) e0 (Nat.le_of_ble_eq_true rfl) (Nat.le_of_ble_eq_true rfl)

def fX8_account (M : Mem) (what : Int) : Int × Int × Mem := if (what = 0) then ((0), (fX6_napkins M), M) else if (what = 1) then ((0), (fX6_foldedCount M), M) else if (what = 2) then ((0), (fX6_laidCount M), M) else if (what = 3) then ((0), (fX6_creasesSum M), M) else if (what = 4) then ((0), (fX6_stainsSum M), M) else if (what = 5) then ((0), (fX8_rightTables M).1, (fX8_rightTables M).2) else if (what = 6) then ((0), (fX6_understood M), M) else if (what = 7) then ((0), (fX6_puzzlesSum M), M) else if (what = 8) then ((0), (fX6_foldingsSum M), M) else if (what = 9) then ((0), (fX6_washedAway M), M) else if (what = 10) then ((0), (fX7_length M), M) else if (what = 11) then ((0), (fX2_size M), M) else ((2), (0), M)
set_option maxRecDepth 100000 in
set_option maxHeartbeats 4000000 in
theorem kX8_account (l : Launch) (hst : l.stackTraces = false) (D : va_G) (E : Nat → Nat) (cI cC : ClassId) (T : Nat → Nat) (M : Mem) (what : Int) (h1 : -2147483648 ≤ what ∧ what < 2147483648) (hC : CI M) (hQ : SI M) (hT : TI M) (kx r : Int) (M' : Mem) (hE : fX8_account M what = (kx, r, M')) : Cx l yX8_account wsX8_account 6 110 1 [.ref (E 0), .int (iI what)] D (TY cI cC) (VC E cI cC) (ZC E cI cC T) M kx (some (.int (iI r))) M' := by
  refine Cx.of (cc := cX8_account) (maxL := 2) (ret := (some .int)) (by decide +kernel) rfl (Nat.le_of_ble_eq_true rfl) ?_
  intro p e s m args below meth c ls hx hb hml hr hown hts hlocks hP hK hD hZ hS hout hl
  have hl : lv_has ls 2 [(0, .ref (E 0)), (1, .int (iI what))] := hl
  have S0 : CallFix p m c cX8_account 2 s args wsX8_account RX8 := ⟨hx, hb, hml, hown, hts⟩
  have hinX8 : ∀ w ∈ u_ws RX8 TX8 12, w ∈ wsX8_account := by decide +kernel
  rw [fX8_account] at hE
  refine lv_iload_n hx hb dX8_account_0 rfl (lv_at hl 1 rfl) ?_
  by_cases b1 : (what = 0)
  · rw [if_pos b1] at hE
    refine z_table hx hb dX8_account_1 (k0 := 0) (tgt := 64) (by omega) b1 (by decide) (by decide) rfl rfl ?_
    refine lv_aload_n hx hb dX8_account_64 rfl (lv_at hl 0 rfl) ?_
    refine va_get (own := RX8) (ref := "NapkinSyntax") (C := RX8) (T := TX8) (N := 12) hx hb hts hinX8 hown hK hP 0 VC_0 rfl 1 (Nat.le_of_ble_eq_true rfl) (hts (.fieldLink RX8 20 "NapkinSyntax" "now" "LNapkinSyntax$State;") (by decide +kernel)) (fun _ h => h) (v := .ref (E 2)) rfl dX8_account_65 ?_
    refine ct_Vi (VC_fix E cI cC) (ZC_ok E cI cC T) (ZC_bl E cI cC T) hZ S0 (kX6_napkins l D E cI cC (ZC E cI cC T) (ZC_ok E cI cC T) (ZC_bl E cI cC T) M  (fX6_napkins M) rfl) (cwV 0 hts gX8_account_X6_napkins rfl rfl rfl (by decide +kernel) ⟨(Nat.le_of_ble_eq_true rfl), (Nat.le_of_ble_eq_true rfl)⟩) hK hP hD hS rfl rfl VC_2 rfl hl.1 rfl (Nat.le_of_ble_eq_true rfl) dX8_account_68 ⟨(Nat.le_of_ble_eq_true rfl), (Nat.le_of_ble_eq_true rfl)⟩ (fun H locs hP hD hS => ?_)
    have q2 := rg_X6_napkins hC
    obtain ⟨e0, e9⟩ := Prod.mk.inj hE
    obtain ⟨e1, e2⟩ := Prod.mk.inj e9
    subst e2
    exact cx_i hx hb hr hlocks e0 e1 rfl hS hP (Nat.le_of_ble_eq_true rfl) (Nat.le_of_ble_eq_true rfl) dX8_account_71
  · rw [if_neg b1] at hE
    by_cases b3 : (what = 1)
    · rw [if_pos b3] at hE
      refine z_table hx hb dX8_account_1 (k0 := 1) (tgt := 72) (by omega) b3 (by decide) (by decide) rfl rfl ?_
      refine lv_aload_n hx hb dX8_account_72 rfl (lv_at hl 0 rfl) ?_
      refine va_get (own := RX8) (ref := "NapkinSyntax") (C := RX8) (T := TX8) (N := 12) hx hb hts hinX8 hown hK hP 0 VC_0 rfl 1 (Nat.le_of_ble_eq_true rfl) (hts (.fieldLink RX8 20 "NapkinSyntax" "now" "LNapkinSyntax$State;") (by decide +kernel)) (fun _ h => h) (v := .ref (E 2)) rfl dX8_account_73 ?_
      refine ct_Vi (VC_fix E cI cC) (ZC_ok E cI cC T) (ZC_bl E cI cC T) hZ S0 (kX6_foldedCount l D E cI cC (ZC E cI cC T) (ZC_ok E cI cC T) (ZC_bl E cI cC T) M hC (fX6_foldedCount M) rfl) (cwV 0 hts gX8_account_X6_foldedCount rfl rfl rfl (by decide +kernel) ⟨(Nat.le_of_ble_eq_true rfl), (Nat.le_of_ble_eq_true rfl)⟩) hK hP hD hS rfl rfl VC_2 rfl hl.1 rfl (Nat.le_of_ble_eq_true rfl) dX8_account_76 ⟨(Nat.le_of_ble_eq_true rfl), (Nat.le_of_ble_eq_true rfl)⟩ (fun H locs hP hD hS => ?_)
      obtain ⟨e0, e9⟩ := Prod.mk.inj hE
      obtain ⟨e1, e2⟩ := Prod.mk.inj e9
      subst e2
      exact cx_i hx hb hr hlocks e0 e1 rfl hS hP (Nat.le_of_ble_eq_true rfl) (Nat.le_of_ble_eq_true rfl) dX8_account_79
    · rw [if_neg b3] at hE
      by_cases b4 : (what = 2)
      · rw [if_pos b4] at hE
        refine z_table hx hb dX8_account_1 (k0 := 2) (tgt := 80) (by omega) b4 (by decide) (by decide) rfl rfl ?_
        refine lv_aload_n hx hb dX8_account_80 rfl (lv_at hl 0 rfl) ?_
        refine va_get (own := RX8) (ref := "NapkinSyntax") (C := RX8) (T := TX8) (N := 12) hx hb hts hinX8 hown hK hP 0 VC_0 rfl 1 (Nat.le_of_ble_eq_true rfl) (hts (.fieldLink RX8 20 "NapkinSyntax" "now" "LNapkinSyntax$State;") (by decide +kernel)) (fun _ h => h) (v := .ref (E 2)) rfl dX8_account_81 ?_
        refine ct_Vi (VC_fix E cI cC) (ZC_ok E cI cC T) (ZC_bl E cI cC T) hZ S0 (kX6_laidCount l D E cI cC (ZC E cI cC T) (ZC_ok E cI cC T) (ZC_bl E cI cC T) M  (fX6_laidCount M) rfl) (cwV 0 hts gX8_account_X6_laidCount rfl rfl rfl (by decide +kernel) ⟨(Nat.le_of_ble_eq_true rfl), (Nat.le_of_ble_eq_true rfl)⟩) hK hP hD hS rfl rfl VC_2 rfl hl.1 rfl (Nat.le_of_ble_eq_true rfl) dX8_account_84 ⟨(Nat.le_of_ble_eq_true rfl), (Nat.le_of_ble_eq_true rfl)⟩ (fun H locs hP hD hS => ?_)
        obtain ⟨e0, e9⟩ := Prod.mk.inj hE
        obtain ⟨e1, e2⟩ := Prod.mk.inj e9
        subst e2
        exact cx_i hx hb hr hlocks e0 e1 rfl hS hP (Nat.le_of_ble_eq_true rfl) (Nat.le_of_ble_eq_true rfl) dX8_account_87
      · rw [if_neg b4] at hE
        by_cases b5 : (what = 3)
        · rw [if_pos b5] at hE
          refine z_table hx hb dX8_account_1 (k0 := 3) (tgt := 88) (by omega) b5 (by decide) (by decide) rfl rfl ?_
          refine lv_aload_n hx hb dX8_account_88 rfl (lv_at hl 0 rfl) ?_
          refine va_get (own := RX8) (ref := "NapkinSyntax") (C := RX8) (T := TX8) (N := 12) hx hb hts hinX8 hown hK hP 0 VC_0 rfl 1 (Nat.le_of_ble_eq_true rfl) (hts (.fieldLink RX8 20 "NapkinSyntax" "now" "LNapkinSyntax$State;") (by decide +kernel)) (fun _ h => h) (v := .ref (E 2)) rfl dX8_account_89 ?_
          refine ct_Vi (VC_fix E cI cC) (ZC_ok E cI cC T) (ZC_bl E cI cC T) hZ S0 (kX6_creasesSum l D E cI cC (ZC E cI cC T) (ZC_ok E cI cC T) (ZC_bl E cI cC T) M  (fX6_creasesSum M) rfl) (cwV 0 hts gX8_account_X6_creasesSum rfl rfl rfl (by decide +kernel) ⟨(Nat.le_of_ble_eq_true rfl), (Nat.le_of_ble_eq_true rfl)⟩) hK hP hD hS rfl rfl VC_2 rfl hl.1 rfl (Nat.le_of_ble_eq_true rfl) dX8_account_92 ⟨(Nat.le_of_ble_eq_true rfl), (Nat.le_of_ble_eq_true rfl)⟩ (fun H locs hP hD hS => ?_)
          obtain ⟨e0, e9⟩ := Prod.mk.inj hE
          obtain ⟨e1, e2⟩ := Prod.mk.inj e9
          subst e2
          exact cx_i hx hb hr hlocks e0 e1 rfl hS hP (Nat.le_of_ble_eq_true rfl) (Nat.le_of_ble_eq_true rfl) dX8_account_95
        · rw [if_neg b5] at hE
          by_cases b6 : (what = 4)
          · rw [if_pos b6] at hE
            refine z_table hx hb dX8_account_1 (k0 := 4) (tgt := 96) (by omega) b6 (by decide) (by decide) rfl rfl ?_
            refine lv_aload_n hx hb dX8_account_96 rfl (lv_at hl 0 rfl) ?_
            refine va_get (own := RX8) (ref := "NapkinSyntax") (C := RX8) (T := TX8) (N := 12) hx hb hts hinX8 hown hK hP 0 VC_0 rfl 1 (Nat.le_of_ble_eq_true rfl) (hts (.fieldLink RX8 20 "NapkinSyntax" "now" "LNapkinSyntax$State;") (by decide +kernel)) (fun _ h => h) (v := .ref (E 2)) rfl dX8_account_97 ?_
            refine ct_Vi (VC_fix E cI cC) (ZC_ok E cI cC T) (ZC_bl E cI cC T) hZ S0 (kX6_stainsSum l D E cI cC (ZC E cI cC T) (ZC_ok E cI cC T) (ZC_bl E cI cC T) M  (fX6_stainsSum M) rfl) (cwV 0 hts gX8_account_X6_stainsSum rfl rfl rfl (by decide +kernel) ⟨(Nat.le_of_ble_eq_true rfl), (Nat.le_of_ble_eq_true rfl)⟩) hK hP hD hS rfl rfl VC_2 rfl hl.1 rfl (Nat.le_of_ble_eq_true rfl) dX8_account_100 ⟨(Nat.le_of_ble_eq_true rfl), (Nat.le_of_ble_eq_true rfl)⟩ (fun H locs hP hD hS => ?_)
            obtain ⟨e0, e9⟩ := Prod.mk.inj hE
            obtain ⟨e1, e2⟩ := Prod.mk.inj e9
            subst e2
            exact cx_i hx hb hr hlocks e0 e1 rfl hS hP (Nat.le_of_ble_eq_true rfl) (Nat.le_of_ble_eq_true rfl) dX8_account_103
          · rw [if_neg b6] at hE
            by_cases b7 : (what = 5)
            · rw [if_pos b7] at hE
              refine z_table hx hb dX8_account_1 (k0 := 5) (tgt := 104) (by omega) b7 (by decide) (by decide) rfl rfl ?_
              refine lv_aload_n hx hb dX8_account_104 rfl (lv_at hl 0 rfl) ?_
              refine ct_Vi (VC_fix E cI cC) (ZC_ok E cI cC T) (ZC_bl E cI cC T) hZ S0 (kX8_rightTables l D E cI cC (ZC E cI cC T) (ZC_ok E cI cC T) (ZC_bl E cI cC T) M hC hQ (fX8_rightTables M).1 (fX8_rightTables M).2 (Prod.ext rfl rfl)) (cwV 0 hts gX8_account_X8_rightTables rfl rfl rfl (by decide +kernel) ⟨(Nat.le_of_ble_eq_true rfl), (Nat.le_of_ble_eq_true rfl)⟩) hK hP hD hS rfl rfl VC_0 rfl hl.1 rfl (Nat.le_of_ble_eq_true rfl) dX8_account_105 ⟨(Nat.le_of_ble_eq_true rfl), (Nat.le_of_ble_eq_true rfl)⟩ (fun H locs hP hD hS => ?_)
              obtain ⟨e0, e9⟩ := Prod.mk.inj hE
              obtain ⟨e1, e2⟩ := Prod.mk.inj e9
              subst e2
              exact cx_i hx hb hr hlocks e0 e1 rfl hS hP (Nat.le_of_ble_eq_true rfl) (Nat.le_of_ble_eq_true rfl) dX8_account_108
            · rw [if_neg b7] at hE
              by_cases b8 : (what = 6)
              · rw [if_pos b8] at hE
                refine z_table hx hb dX8_account_1 (k0 := 6) (tgt := 109) (by omega) b8 (by decide) (by decide) rfl rfl ?_
                refine lv_aload_n hx hb dX8_account_109 rfl (lv_at hl 0 rfl) ?_
                refine va_get (own := RX8) (ref := "NapkinSyntax") (C := RX8) (T := TX8) (N := 12) hx hb hts hinX8 hown hK hP 0 VC_0 rfl 1 (Nat.le_of_ble_eq_true rfl) (hts (.fieldLink RX8 20 "NapkinSyntax" "now" "LNapkinSyntax$State;") (by decide +kernel)) (fun _ h => h) (v := .ref (E 2)) rfl dX8_account_110 ?_
                refine ct_Vi (VC_fix E cI cC) (ZC_ok E cI cC T) (ZC_bl E cI cC T) hZ S0 (kX6_understood l D E cI cC (ZC E cI cC T) (ZC_ok E cI cC T) (ZC_bl E cI cC T) M  (fX6_understood M) rfl) (cwV 0 hts gX8_account_X6_understood rfl rfl rfl (by decide +kernel) ⟨(Nat.le_of_ble_eq_true rfl), (Nat.le_of_ble_eq_true rfl)⟩) hK hP hD hS rfl rfl VC_2 rfl hl.1 rfl (Nat.le_of_ble_eq_true rfl) dX8_account_113 ⟨(Nat.le_of_ble_eq_true rfl), (Nat.le_of_ble_eq_true rfl)⟩ (fun H locs hP hD hS => ?_)
                obtain ⟨e0, e9⟩ := Prod.mk.inj hE
                obtain ⟨e1, e2⟩ := Prod.mk.inj e9
                subst e2
                exact cx_i hx hb hr hlocks e0 e1 rfl hS hP (Nat.le_of_ble_eq_true rfl) (Nat.le_of_ble_eq_true rfl) dX8_account_116
              · rw [if_neg b8] at hE
                by_cases b9 : (what = 7)
                · rw [if_pos b9] at hE
                  refine z_table hx hb dX8_account_1 (k0 := 7) (tgt := 117) (by omega) b9 (by decide) (by decide) rfl rfl ?_
                  refine lv_aload_n hx hb dX8_account_117 rfl (lv_at hl 0 rfl) ?_
                  refine va_get (own := RX8) (ref := "NapkinSyntax") (C := RX8) (T := TX8) (N := 12) hx hb hts hinX8 hown hK hP 0 VC_0 rfl 1 (Nat.le_of_ble_eq_true rfl) (hts (.fieldLink RX8 20 "NapkinSyntax" "now" "LNapkinSyntax$State;") (by decide +kernel)) (fun _ h => h) (v := .ref (E 2)) rfl dX8_account_118 ?_
                  refine ct_Vi (VC_fix E cI cC) (ZC_ok E cI cC T) (ZC_bl E cI cC T) hZ S0 (kX6_puzzlesSum l D E cI cC (ZC E cI cC T) (ZC_ok E cI cC T) (ZC_bl E cI cC T) M  (fX6_puzzlesSum M) rfl) (cwV 0 hts gX8_account_X6_puzzlesSum rfl rfl rfl (by decide +kernel) ⟨(Nat.le_of_ble_eq_true rfl), (Nat.le_of_ble_eq_true rfl)⟩) hK hP hD hS rfl rfl VC_2 rfl hl.1 rfl (Nat.le_of_ble_eq_true rfl) dX8_account_121 ⟨(Nat.le_of_ble_eq_true rfl), (Nat.le_of_ble_eq_true rfl)⟩ (fun H locs hP hD hS => ?_)
                  obtain ⟨e0, e9⟩ := Prod.mk.inj hE
                  obtain ⟨e1, e2⟩ := Prod.mk.inj e9
                  subst e2
                  exact cx_i hx hb hr hlocks e0 e1 rfl hS hP (Nat.le_of_ble_eq_true rfl) (Nat.le_of_ble_eq_true rfl) dX8_account_124
                · rw [if_neg b9] at hE
                  by_cases b10 : (what = 8)
                  · rw [if_pos b10] at hE
                    refine z_table hx hb dX8_account_1 (k0 := 8) (tgt := 125) (by omega) b10 (by decide) (by decide) rfl rfl ?_
                    refine lv_aload_n hx hb dX8_account_125 rfl (lv_at hl 0 rfl) ?_
                    refine va_get (own := RX8) (ref := "NapkinSyntax") (C := RX8) (T := TX8) (N := 12) hx hb hts hinX8 hown hK hP 0 VC_0 rfl 1 (Nat.le_of_ble_eq_true rfl) (hts (.fieldLink RX8 20 "NapkinSyntax" "now" "LNapkinSyntax$State;") (by decide +kernel)) (fun _ h => h) (v := .ref (E 2)) rfl dX8_account_126 ?_
                    refine ct_Vi (VC_fix E cI cC) (ZC_ok E cI cC T) (ZC_bl E cI cC T) hZ S0 (kX6_foldingsSum l D E cI cC (ZC E cI cC T) (ZC_ok E cI cC T) (ZC_bl E cI cC T) M  (fX6_foldingsSum M) rfl) (cwV 0 hts gX8_account_X6_foldingsSum rfl rfl rfl (by decide +kernel) ⟨(Nat.le_of_ble_eq_true rfl), (Nat.le_of_ble_eq_true rfl)⟩) hK hP hD hS rfl rfl VC_2 rfl hl.1 rfl (Nat.le_of_ble_eq_true rfl) dX8_account_129 ⟨(Nat.le_of_ble_eq_true rfl), (Nat.le_of_ble_eq_true rfl)⟩ (fun H locs hP hD hS => ?_)
                    obtain ⟨e0, e9⟩ := Prod.mk.inj hE
                    obtain ⟨e1, e2⟩ := Prod.mk.inj e9
                    subst e2
                    exact cx_i hx hb hr hlocks e0 e1 rfl hS hP (Nat.le_of_ble_eq_true rfl) (Nat.le_of_ble_eq_true rfl) dX8_account_132
                  · rw [if_neg b10] at hE
                    by_cases b11 : (what = 9)
                    · rw [if_pos b11] at hE
                      refine z_table hx hb dX8_account_1 (k0 := 9) (tgt := 133) (by omega) b11 (by decide) (by decide) rfl rfl ?_
                      refine lv_aload_n hx hb dX8_account_133 rfl (lv_at hl 0 rfl) ?_
                      refine va_get (own := RX8) (ref := "NapkinSyntax") (C := RX8) (T := TX8) (N := 12) hx hb hts hinX8 hown hK hP 0 VC_0 rfl 1 (Nat.le_of_ble_eq_true rfl) (hts (.fieldLink RX8 20 "NapkinSyntax" "now" "LNapkinSyntax$State;") (by decide +kernel)) (fun _ h => h) (v := .ref (E 2)) rfl dX8_account_134 ?_
                      refine ct_Vi (VC_fix E cI cC) (ZC_ok E cI cC T) (ZC_bl E cI cC T) hZ S0 (kX6_washedAway l D E cI cC (ZC E cI cC T) (ZC_ok E cI cC T) (ZC_bl E cI cC T) M  (fX6_washedAway M) rfl) (cwV 0 hts gX8_account_X6_washedAway rfl rfl rfl (by decide +kernel) ⟨(Nat.le_of_ble_eq_true rfl), (Nat.le_of_ble_eq_true rfl)⟩) hK hP hD hS rfl rfl VC_2 rfl hl.1 rfl (Nat.le_of_ble_eq_true rfl) dX8_account_137 ⟨(Nat.le_of_ble_eq_true rfl), (Nat.le_of_ble_eq_true rfl)⟩ (fun H locs hP hD hS => ?_)
                      obtain ⟨e0, e9⟩ := Prod.mk.inj hE
                      obtain ⟨e1, e2⟩ := Prod.mk.inj e9
                      subst e2
                      exact cx_i hx hb hr hlocks e0 e1 rfl hS hP (Nat.le_of_ble_eq_true rfl) (Nat.le_of_ble_eq_true rfl) dX8_account_140
                    · rw [if_neg b11] at hE
                      by_cases b12 : (what = 10)
                      · rw [if_pos b12] at hE
                        refine z_table hx hb dX8_account_1 (k0 := 10) (tgt := 141) (by omega) b12 (by decide) (by decide) rfl rfl ?_
                        refine lv_aload_n hx hb dX8_account_141 rfl (lv_at hl 0 rfl) ?_
                        refine va_get (own := RX8) (ref := "NapkinSyntax") (C := RX8) (T := TX8) (N := 12) hx hb hts hinX8 hown hK hP 0 VC_0 rfl 4 (Nat.le_of_ble_eq_true rfl) (hts (.fieldLink RX8 38 "NapkinSyntax" "text" "LNapkinSyntax$Text;") (by decide +kernel)) (fun _ h => h) (v := .ref (E 13)) rfl dX8_account_142 ?_
                        refine ct_Vi (VC_fix E cI cC) (ZC_ok E cI cC T) (ZC_bl E cI cC T) hZ S0 (kX7_length l D E cI cC (ZC E cI cC T) (ZC_ok E cI cC T) (ZC_bl E cI cC T) M hT (fX7_length M) rfl) (cwV 0 hts gX8_account_X7_length rfl rfl rfl (by decide +kernel) ⟨(Nat.le_of_ble_eq_true rfl), (Nat.le_of_ble_eq_true rfl)⟩) hK hP hD hS rfl rfl VC_13 rfl hl.1 rfl (Nat.le_of_ble_eq_true rfl) dX8_account_145 ⟨(Nat.le_of_ble_eq_true rfl), (Nat.le_of_ble_eq_true rfl)⟩ (fun H locs hP hD hS => ?_)
                        have q13 := rg_X7_length hT
                        obtain ⟨e0, e9⟩ := Prod.mk.inj hE
                        obtain ⟨e1, e2⟩ := Prod.mk.inj e9
                        subst e2
                        exact cx_i hx hb hr hlocks e0 e1 rfl hS hP (Nat.le_of_ble_eq_true rfl) (Nat.le_of_ble_eq_true rfl) dX8_account_148
                      · rw [if_neg b12] at hE
                        by_cases b14 : (what = 11)
                        · rw [if_pos b14] at hE
                          refine z_table hx hb dX8_account_1 (k0 := 11) (tgt := 149) (by omega) b14 (by decide) (by decide) rfl rfl ?_
                          refine lv_aload_n hx hb dX8_account_149 rfl (lv_at hl 0 rfl) ?_
                          refine va_get (own := RX8) (ref := "NapkinSyntax") (C := RX8) (T := TX8) (N := 12) hx hb hts hinX8 hown hK hP 0 VC_0 rfl 3 (Nat.le_of_ble_eq_true rfl) (hts (.fieldLink RX8 31 "NapkinSyntax" "history" "LNapkinSyntax$History;") (by decide +kernel)) (fun _ h => h) (v := .ref (E 11)) rfl dX8_account_150 ?_
                          refine ct_Vi (VC_fix E cI cC) (ZC_ok E cI cC T) (ZC_bl E cI cC T) hZ S0 (kX2_size l D E cI cC (ZC E cI cC T) (ZC_ok E cI cC T) (ZC_bl E cI cC T) M  (fX2_size M) rfl) (cwV 0 hts gX8_account_X2_size rfl rfl rfl (by decide +kernel) ⟨(Nat.le_of_ble_eq_true rfl), (Nat.le_of_ble_eq_true rfl)⟩) hK hP hD hS rfl rfl VC_11 rfl hl.1 rfl (Nat.le_of_ble_eq_true rfl) dX8_account_153 ⟨(Nat.le_of_ble_eq_true rfl), (Nat.le_of_ble_eq_true rfl)⟩ (fun H locs hP hD hS => ?_)
                          obtain ⟨e0, e9⟩ := Prod.mk.inj hE
                          obtain ⟨e1, e2⟩ := Prod.mk.inj e9
                          subst e2
                          exact cx_i hx hb hr hlocks e0 e1 rfl hS hP (Nat.le_of_ble_eq_true rfl) (Nat.le_of_ble_eq_true rfl) dX8_account_156
                        · rw [if_neg b14] at hE
                          refine z_tableD hx hb dX8_account_1 (tgt := 157) (by omega) (by omega) rfl ?_
                          obtain ⟨e0, e1⟩ := Prod.mk.inj hE
                          obtain ⟨-, e2⟩ := Prod.mk.inj e1
                          subst e2
                          exact cx_throwW (k := 2) rfl hx hb hst hts hown (by decide +kernel) xn_fit (by decide +kernel) (by decide +kernel) (ZC_t380 hZ) (fun w h => List.mem_cons_of_mem _ (List.mem_append_left _ (List.mem_append_right _ h))) xb_2 xg_2 (ZC_d1 hZ) (ZC_d2 hZ) (ZC_d3 hZ) (ZC_x2 hZ) (ZC_us hZ M) (ZC_ss hZ M) hS hP (hl.1.trans hml.symm) dX8_account_157 dX8_account_160 dX8_account_161 dX8_account_164 dX8_account_167 hout (Nat.le_of_ble_eq_true rfl) (Nat.le_of_ble_eq_true rfl) (Nat.le_of_ble_eq_true rfl) (Nat.le_of_ble_eq_true rfl) hlocks (by decide) e0 (Nat.le_of_ble_eq_true rfl) (Nat.le_of_ble_eq_true rfl)

theorem fr_fX8_account {M : Mem} (what : Int) {r : Nat} (h1 : Nat.beq r 1 = false) (h2 : Nat.beq r 2 = false) (h3 : Nat.beq r 3 = false) (h4 : Nat.beq r 4 = false) (h7 : Nat.beq r 7 = false) : (fX8_account M what).2.2 r = M r := by
  unfold fX8_account
  (repeat' with_reducible refine frite_x (fun _ => ?_) (fun _ => ?_)) <;> first | with_reducible rfl | simp only [mst_o, msf_o, mcp_o, fr_fX8_rightTables, h1, h2, h3, h4, h7]

def fX8_undo (M : Mem) : Int × Int × Mem := if ((fX2_size M) = 0) then ((5), (0), M) else ((0), (fX2_size (fX6_copyFrom_b (fX2_pop M))), (fX6_copyFrom_b (fX2_pop M)))
set_option maxRecDepth 100000 in
set_option maxHeartbeats 4000000 in
theorem kX8_undo (l : Launch) (hst : l.stackTraces = false) (D : va_G) (E : Nat → Nat) (cI cC : ClassId) (T : Nat → Nat) (M : Mem) (hH : HN M) (kx r : Int) (M' : Mem) (hE : fX8_undo M = (kx, r, M')) : Cx l yX8_undo wsX8_undo 6 82 1 [.ref (E 0)] D (TY cI cC) (VC E cI cC) (ZC E cI cC T) M kx (some (.int (iI r))) M' := by
  refine Cx.of (cc := cX8_undo) (maxL := 1) (ret := (some .int)) (by decide +kernel) rfl (Nat.le_of_ble_eq_true rfl) ?_
  intro p e s m args below meth c ls hx hb hml hr hown hts hlocks hP hK hD hZ hS hout hl
  have hl : lv_has ls 1 [(0, .ref (E 0))] := hl
  have S0 : CallFix p m c cX8_undo 1 s args wsX8_undo RX8 := ⟨hx, hb, hml, hown, hts⟩
  have hinX8 : ∀ w ∈ u_ws RX8 TX8 12, w ∈ wsX8_undo := by decide +kernel
  rw [fX8_undo] at hE
  refine lv_aload_n hx hb dX8_undo_0 rfl (lv_at hl 0 rfl) ?_
  refine va_get (own := RX8) (ref := "NapkinSyntax") (C := RX8) (T := TX8) (N := 12) hx hb hts hinX8 hown hK hP 0 VC_0 rfl 3 (Nat.le_of_ble_eq_true rfl) (hts (.fieldLink RX8 31 "NapkinSyntax" "history" "LNapkinSyntax$History;") (by decide +kernel)) (fun _ h => h) (v := .ref (E 11)) rfl dX8_undo_1 ?_
  refine ct_Vi (VC_fix E cI cC) (ZC_ok E cI cC T) (ZC_bl E cI cC T) hZ S0 (kX2_size l D E cI cC (ZC E cI cC T) (ZC_ok E cI cC T) (ZC_bl E cI cC T) M  (fX2_size M) rfl) (cwV 0 hts gX8_undo_X2_size rfl rfl rfl (by decide +kernel) ⟨(Nat.le_of_ble_eq_true rfl), (Nat.le_of_ble_eq_true rfl)⟩) hK hP hD hS rfl rfl VC_11 rfl hl.1 rfl (Nat.le_of_ble_eq_true rfl) dX8_undo_4 ⟨(Nat.le_of_ble_eq_true rfl), (Nat.le_of_ble_eq_true rfl)⟩ (fun H locs hP hD hS => ?_)
  have q1 := rg_X2_size hH
  refine z_if_ne hx hb dX8_undo_7 (tgt := 21) rfl (by omega) (fun b2 => ?_) (fun b2 => ?_)
  · rw [if_neg b2] at hE
    refine lv_aload_n hx hb dX8_undo_21 rfl (lv_at hl 0 rfl) ?_
    refine va_get (own := RX8) (ref := "NapkinSyntax") (C := RX8) (T := TX8) (N := 12) hx hb hts hinX8 hown hK hP 0 VC_0 rfl 3 (Nat.le_of_ble_eq_true rfl) (hts (.fieldLink RX8 31 "NapkinSyntax" "history" "LNapkinSyntax$History;") (by decide +kernel)) (fun _ h => h) (v := .ref (E 11)) rfl dX8_undo_22 ?_
    refine lv_aload_n hx hb dX8_undo_25 rfl (lv_at hl 0 rfl) ?_
    refine va_get (own := RX8) (ref := "NapkinSyntax") (C := RX8) (T := TX8) (N := 12) hx hb hts hinX8 hown hK hP 0 VC_0 rfl 6 (Nat.le_of_ble_eq_true rfl) (hts (.fieldLink RX8 51 "NapkinSyntax" "before" "[I") (by decide +kernel)) (fun _ h => h) (v := .ref (E 17)) rfl dX8_undo_26 ?_
    refine ct_Vv (VC_fix E cI cC) (ZC_ok E cI cC T) (ZC_bl E cI cC T) hZ S0 (kX2_pop l D E cI cC (ZC E cI cC T) (ZC_ok E cI cC T) (ZC_bl E cI cC T) M hH (fX2_pop M) rfl) (cwV 1 hts gX8_undo_X2_pop rfl rfl rfl (by decide +kernel) ⟨(Nat.le_of_ble_eq_true rfl), (Nat.le_of_ble_eq_true rfl)⟩) hK hP hD hS rfl rfl VC_11 rfl hl.1 rfl (Nat.le_of_ble_eq_true rfl) dX8_undo_29 ⟨(Nat.le_of_ble_eq_true rfl), (Nat.le_of_ble_eq_true rfl)⟩ (fun H locs hP hD hS => ?_)
    refine lv_aload_n hx hb dX8_undo_32 rfl (lv_at hl 0 rfl) ?_
    refine va_get (own := RX8) (ref := "NapkinSyntax") (C := RX8) (T := TX8) (N := 12) hx hb hts hinX8 hown hK hP 0 VC_0 rfl 1 (Nat.le_of_ble_eq_true rfl) (hts (.fieldLink RX8 20 "NapkinSyntax" "now" "LNapkinSyntax$State;") (by decide +kernel)) (fun _ h => h) (v := .ref (E 2)) rfl dX8_undo_33 ?_
    refine lv_aload_n hx hb dX8_undo_36 rfl (lv_at hl 0 rfl) ?_
    refine va_get (own := RX8) (ref := "NapkinSyntax") (C := RX8) (T := TX8) (N := 12) hx hb hts hinX8 hown hK hP 0 VC_0 rfl 6 (Nat.le_of_ble_eq_true rfl) (hts (.fieldLink RX8 51 "NapkinSyntax" "before" "[I") (by decide +kernel)) (fun _ h => h) (v := .ref (E 17)) rfl dX8_undo_37 ?_
    refine ct_Vv (VC_fix E cI cC) (ZC_ok E cI cC T) (ZC_bl E cI cC T) hZ S0 (kX6_copyFrom_b l D E cI cC (ZC E cI cC T) (ZC_ok E cI cC T) (ZC_bl E cI cC T) (fX2_pop M)  (fX6_copyFrom_b (fX2_pop M)) rfl) (cwV 1 hts gX8_undo_X6_copyFrom rfl rfl rfl (by decide +kernel) ⟨(Nat.le_of_ble_eq_true rfl), (Nat.le_of_ble_eq_true rfl)⟩) hK hP hD hS rfl rfl VC_2 rfl hl.1 rfl (Nat.le_of_ble_eq_true rfl) dX8_undo_40 ⟨(Nat.le_of_ble_eq_true rfl), (Nat.le_of_ble_eq_true rfl)⟩ (fun H locs hP hD hS => ?_)
    refine lv_aload_n hx hb dX8_undo_43 rfl (lv_at hl 0 rfl) ?_
    refine va_get (own := RX8) (ref := "NapkinSyntax") (C := RX8) (T := TX8) (N := 12) hx hb hts hinX8 hown hK hP 0 VC_0 rfl 3 (Nat.le_of_ble_eq_true rfl) (hts (.fieldLink RX8 31 "NapkinSyntax" "history" "LNapkinSyntax$History;") (by decide +kernel)) (fun _ h => h) (v := .ref (E 11)) rfl dX8_undo_44 ?_
    refine ct_Vi (VC_fix E cI cC) (ZC_ok E cI cC T) (ZC_bl E cI cC T) hZ S0 (kX2_size l D E cI cC (ZC E cI cC T) (ZC_ok E cI cC T) (ZC_bl E cI cC T) (fX6_copyFrom_b (fX2_pop M))  (fX2_size (fX6_copyFrom_b (fX2_pop M))) rfl) (cwV 0 hts gX8_undo_X2_size rfl rfl rfl (by decide +kernel) ⟨(Nat.le_of_ble_eq_true rfl), (Nat.le_of_ble_eq_true rfl)⟩) hK hP hD hS rfl rfl VC_11 rfl hl.1 rfl (Nat.le_of_ble_eq_true rfl) dX8_undo_47 ⟨(Nat.le_of_ble_eq_true rfl), (Nat.le_of_ble_eq_true rfl)⟩ (fun H locs hP hD hS => ?_)
    have q3 := rg_X2_size (HN_of (fr_fX6_copyFrom_b  rfl) (HN_pop hH))
    obtain ⟨e0, e9⟩ := Prod.mk.inj hE
    obtain ⟨e1, e2⟩ := Prod.mk.inj e9
    subst e2
    exact cx_i hx hb hr hlocks e0 e1 rfl hS hP (Nat.le_of_ble_eq_true rfl) (Nat.le_of_ble_eq_true rfl) dX8_undo_50
  · rw [if_pos b2] at hE
    obtain ⟨e0, e1⟩ := Prod.mk.inj hE
    obtain ⟨-, e2⟩ := Prod.mk.inj e1
    subst e2
    exact cx_throwW (k := 5) rfl hx hb hst hts hown (by decide +kernel) xn_fit (by decide +kernel) (by decide +kernel) (ZC_t384 hZ) (fun w h => List.mem_cons_of_mem _ (List.mem_append_right _ h)) xb_5 xg_5 (ZC_d1 hZ) (ZC_d2 hZ) (ZC_d3 hZ) (ZC_x5 hZ) (ZC_us hZ M) (ZC_ss hZ M) hS hP (hl.1.trans hml.symm) dX8_undo_10 dX8_undo_13 dX8_undo_14 dX8_undo_17 dX8_undo_20 hout (Nat.le_of_ble_eq_true rfl) (Nat.le_of_ble_eq_true rfl) (Nat.le_of_ble_eq_true rfl) (Nat.le_of_ble_eq_true rfl) hlocks (by decide) e0 (Nat.le_of_ble_eq_true rfl) (Nat.le_of_ble_eq_true rfl)

theorem fr_fX8_undo {M : Mem} {r : Nat} (h0 : Nat.beq r 0 = false) (h9 : Nat.beq r 9 = false) (h14 : Nat.beq r 14 = false) : (fX8_undo M).2.2 r = M r := by
  unfold fX8_undo
  (repeat' with_reducible refine frite_x (fun _ => ?_) (fun _ => ?_)) <;> first | with_reducible rfl | simp only [mst_o, msf_o, mcp_o, fr_fX2_pop, fr_fX6_copyFrom_b, h0, h9, h14]

def fX8_save (M : Mem) : Int × Mem := ((fX6_napkins (fX6_copyTo_s M)), (msf (fX6_copyTo_s M) 16 (1)))
set_option maxRecDepth 100000 in
set_option maxHeartbeats 4000000 in
theorem kX8_save (l : Launch) (D : va_G) (E : Nat → Nat) (cI cC : ClassId) (Z : State → Prop) (hZo : ∀ M : Mem, ZOk (VC E cI cC M) Z) (hZb : ZBl Z) (M : Mem)  (r : Int) (M' : Mem) (hE : fX8_save M = (r, M')) : Ci l yX8_save wsX8_save 2 47 [.ref (E 0)] D (TY cI cC) (VC E cI cC) Z M r M' := by
  refine Ci.of (cc := cX8_save) (maxL := 1) (ret := (some .int)) (by decide +kernel) rfl (Nat.le_of_ble_eq_true rfl) ?_
  intro p e s m args below meth c ls hx hb hml hr hown hts hlocks hP hK hD hZ hS hl
  have hl : lv_has ls 1 [(0, .ref (E 0))] := hl
  have S0 : CallFix p m c cX8_save 1 s args wsX8_save RX8 := ⟨hx, hb, hml, hown, hts⟩
  have hinX8 : ∀ w ∈ u_ws RX8 TX8 12, w ∈ wsX8_save := by decide +kernel
  rw [fX8_save] at hE
  refine lv_aload_n hx hb dX8_save_0 rfl (lv_at hl 0 rfl) ?_
  refine va_get (own := RX8) (ref := "NapkinSyntax") (C := RX8) (T := TX8) (N := 12) hx hb hts hinX8 hown hK hP 0 VC_0 rfl 1 (Nat.le_of_ble_eq_true rfl) (hts (.fieldLink RX8 20 "NapkinSyntax" "now" "LNapkinSyntax$State;") (by decide +kernel)) (fun _ h => h) (v := .ref (E 2)) rfl dX8_save_1 ?_
  refine lv_aload_n hx hb dX8_save_4 rfl (lv_at hl 0 rfl) ?_
  refine va_get (own := RX8) (ref := "NapkinSyntax") (C := RX8) (T := TX8) (N := 12) hx hb hts hinX8 hown hK hP 0 VC_0 rfl 7 (Nat.le_of_ble_eq_true rfl) (hts (.fieldLink RX8 55 "NapkinSyntax" "snapshot" "[I") (by decide +kernel)) (fun _ h => h) (v := .ref (E 18)) rfl dX8_save_5 ?_
  refine ct_Vv (VC_fix E cI cC) hZo hZb hZ S0 (kX6_copyTo_s l D E cI cC Z hZo hZb M  (fX6_copyTo_s M) rfl) (cwV 1 hts gX8_save_X6_copyTo rfl rfl rfl (by decide +kernel) ⟨(Nat.le_of_ble_eq_true rfl), (Nat.le_of_ble_eq_true rfl)⟩) hK hP hD hS rfl rfl VC_2 rfl hl.1 rfl (Nat.le_of_ble_eq_true rfl) dX8_save_8 ⟨Nat.zero_le _, Nat.zero_le _⟩ (fun H locs hP hD hS => ?_)
  refine lv_aload_n hx hb dX8_save_11 rfl (lv_at hl 0 rfl) ?_
  refine z_iconst hx hb dX8_save_12 ?_
  refine va_put (own := RX8) (ref := "NapkinSyntax") (C := RX8) (T := TX8) (N := 12) hx hb hts hinX8 tyX8 tyX8_ok nmX8 hown hK hP hD hS 0 VC_0 rfl 8 (Nat.le_of_ble_eq_true rfl) (hts (.fieldLink RX8 58 "NapkinSyntax" "hasSnapshot" "Z") (by decide +kernel)) (fun _ h => h) rfl (ty := .boolean) (v := .int (iI (1))) (by decide +kernel) nr_b1 rfl (Nat.le_of_ble_eq_true rfl) dX8_save_13 (fun H locs hP hD hS => ?_)
  rw [VCf_16] at hP hD
  refine lv_aload_n hx hb dX8_save_16 rfl (lv_at hl 0 rfl) ?_
  refine va_get (own := RX8) (ref := "NapkinSyntax") (C := RX8) (T := TX8) (N := 12) hx hb hts hinX8 hown hK hP 0 VC_0 rfl 1 (Nat.le_of_ble_eq_true rfl) (hts (.fieldLink RX8 20 "NapkinSyntax" "now" "LNapkinSyntax$State;") (by decide +kernel)) (fun _ h => h) (v := .ref (E 2)) rfl dX8_save_17 ?_
  refine ct_Vi (VC_fix E cI cC) hZo hZb hZ S0 (kX6_napkins l D E cI cC Z hZo hZb (msf (fX6_copyTo_s M) 16 (1))  (fX6_napkins (fX6_copyTo_s M)) rfl) (cwV 0 hts gX8_save_X6_napkins rfl rfl rfl (by decide +kernel) ⟨(Nat.le_of_ble_eq_true rfl), (Nat.le_of_ble_eq_true rfl)⟩) hK hP hD hS rfl rfl VC_2 rfl hl.1 rfl (Nat.le_of_ble_eq_true rfl) dX8_save_20 ⟨Nat.zero_le _, Nat.zero_le _⟩ (fun H locs hP hD hS => ?_)
  obtain ⟨e1, e2⟩ := Prod.mk.inj hE
  subst e2
  exact ci_i hx hb hr hlocks e1 rfl hS hP dX8_save_23

theorem fr_fX8_save {M : Mem} {r : Nat} (h15 : Nat.beq r 15 = false) (h16 : Nat.beq r 16 = false) : (fX8_save M).2 r = M r := by
  unfold fX8_save
  (repeat' with_reducible refine frite_w (fun _ => ?_) (fun _ => ?_)) <;> first | with_reducible rfl | simp only [mst_o, msf_o, mcp_o, fr_fX6_copyTo_s, h15, h16]

def fX8_restore (M : Mem) : Int × Int × Mem := if ((M 16 0) = 0) then ((5), (0), M) else ((0), (fX6_napkins (fX2_empty (fX6_copyFrom_s M))), (fX2_empty (fX6_copyFrom_s M)))
set_option maxRecDepth 100000 in
set_option maxHeartbeats 4000000 in
theorem kX8_restore (l : Launch) (hst : l.stackTraces = false) (D : va_G) (E : Nat → Nat) (cI cC : ClassId) (T : Nat → Nat) (M : Mem) (h1 : 0 ≤ M 16 0 ∧ M 16 0 ≤ 1) (kx r : Int) (M' : Mem) (hE : fX8_restore M = (kx, r, M')) : Cx l yX8_restore wsX8_restore 6 82 1 [.ref (E 0)] D (TY cI cC) (VC E cI cC) (ZC E cI cC T) M kx (some (.int (iI r))) M' := by
  refine Cx.of (cc := cX8_restore) (maxL := 1) (ret := (some .int)) (by decide +kernel) rfl (Nat.le_of_ble_eq_true rfl) ?_
  intro p e s m args below meth c ls hx hb hml hr hown hts hlocks hP hK hD hZ hS hout hl
  have hl : lv_has ls 1 [(0, .ref (E 0))] := hl
  have S0 : CallFix p m c cX8_restore 1 s args wsX8_restore RX8 := ⟨hx, hb, hml, hown, hts⟩
  have hinX8 : ∀ w ∈ u_ws RX8 TX8 12, w ∈ wsX8_restore := by decide +kernel
  rw [fX8_restore] at hE
  refine lv_aload_n hx hb dX8_restore_0 rfl (lv_at hl 0 rfl) ?_
  refine va_get (own := RX8) (ref := "NapkinSyntax") (C := RX8) (T := TX8) (N := 12) hx hb hts hinX8 hown hK hP 0 VC_0 rfl 8 (Nat.le_of_ble_eq_true rfl) (hts (.fieldLink RX8 58 "NapkinSyntax" "hasSnapshot" "Z") (by decide +kernel)) (fun _ h => h) (v := .int (iI (M 16 0))) rfl dX8_restore_1 ?_
  refine z_if_ne hx hb dX8_restore_4 (tgt := 18) rfl (by omega) (fun b1 => ?_) (fun b1 => ?_)
  · rw [if_neg b1] at hE
    refine lv_aload_n hx hb dX8_restore_18 rfl (lv_at hl 0 rfl) ?_
    refine va_get (own := RX8) (ref := "NapkinSyntax") (C := RX8) (T := TX8) (N := 12) hx hb hts hinX8 hown hK hP 0 VC_0 rfl 1 (Nat.le_of_ble_eq_true rfl) (hts (.fieldLink RX8 20 "NapkinSyntax" "now" "LNapkinSyntax$State;") (by decide +kernel)) (fun _ h => h) (v := .ref (E 2)) rfl dX8_restore_19 ?_
    refine lv_aload_n hx hb dX8_restore_22 rfl (lv_at hl 0 rfl) ?_
    refine va_get (own := RX8) (ref := "NapkinSyntax") (C := RX8) (T := TX8) (N := 12) hx hb hts hinX8 hown hK hP 0 VC_0 rfl 7 (Nat.le_of_ble_eq_true rfl) (hts (.fieldLink RX8 55 "NapkinSyntax" "snapshot" "[I") (by decide +kernel)) (fun _ h => h) (v := .ref (E 18)) rfl dX8_restore_23 ?_
    refine ct_Vv (VC_fix E cI cC) (ZC_ok E cI cC T) (ZC_bl E cI cC T) hZ S0 (kX6_copyFrom_s l D E cI cC (ZC E cI cC T) (ZC_ok E cI cC T) (ZC_bl E cI cC T) M  (fX6_copyFrom_s M) rfl) (cwV 1 hts gX8_restore_X6_copyFrom rfl rfl rfl (by decide +kernel) ⟨(Nat.le_of_ble_eq_true rfl), (Nat.le_of_ble_eq_true rfl)⟩) hK hP hD hS rfl rfl VC_2 rfl hl.1 rfl (Nat.le_of_ble_eq_true rfl) dX8_restore_26 ⟨(Nat.le_of_ble_eq_true rfl), (Nat.le_of_ble_eq_true rfl)⟩ (fun H locs hP hD hS => ?_)
    refine lv_aload_n hx hb dX8_restore_29 rfl (lv_at hl 0 rfl) ?_
    refine va_get (own := RX8) (ref := "NapkinSyntax") (C := RX8) (T := TX8) (N := 12) hx hb hts hinX8 hown hK hP 0 VC_0 rfl 3 (Nat.le_of_ble_eq_true rfl) (hts (.fieldLink RX8 31 "NapkinSyntax" "history" "LNapkinSyntax$History;") (by decide +kernel)) (fun _ h => h) (v := .ref (E 11)) rfl dX8_restore_30 ?_
    refine ct_Vv (VC_fix E cI cC) (ZC_ok E cI cC T) (ZC_bl E cI cC T) hZ S0 (kX2_empty l D E cI cC (ZC E cI cC T) (ZC_ok E cI cC T) (ZC_bl E cI cC T) (fX6_copyFrom_s M)  (fX2_empty (fX6_copyFrom_s M)) rfl) (cwV 0 hts gX8_restore_X2_empty rfl rfl rfl (by decide +kernel) ⟨(Nat.le_of_ble_eq_true rfl), (Nat.le_of_ble_eq_true rfl)⟩) hK hP hD hS rfl rfl VC_11 rfl hl.1 rfl (Nat.le_of_ble_eq_true rfl) dX8_restore_33 ⟨(Nat.le_of_ble_eq_true rfl), (Nat.le_of_ble_eq_true rfl)⟩ (fun H locs hP hD hS => ?_)
    refine lv_aload_n hx hb dX8_restore_36 rfl (lv_at hl 0 rfl) ?_
    refine va_get (own := RX8) (ref := "NapkinSyntax") (C := RX8) (T := TX8) (N := 12) hx hb hts hinX8 hown hK hP 0 VC_0 rfl 1 (Nat.le_of_ble_eq_true rfl) (hts (.fieldLink RX8 20 "NapkinSyntax" "now" "LNapkinSyntax$State;") (by decide +kernel)) (fun _ h => h) (v := .ref (E 2)) rfl dX8_restore_37 ?_
    refine ct_Vi (VC_fix E cI cC) (ZC_ok E cI cC T) (ZC_bl E cI cC T) hZ S0 (kX6_napkins l D E cI cC (ZC E cI cC T) (ZC_ok E cI cC T) (ZC_bl E cI cC T) (fX2_empty (fX6_copyFrom_s M))  (fX6_napkins (fX2_empty (fX6_copyFrom_s M))) rfl) (cwV 0 hts gX8_restore_X6_napkins rfl rfl rfl (by decide +kernel) ⟨(Nat.le_of_ble_eq_true rfl), (Nat.le_of_ble_eq_true rfl)⟩) hK hP hD hS rfl rfl VC_2 rfl hl.1 rfl (Nat.le_of_ble_eq_true rfl) dX8_restore_40 ⟨(Nat.le_of_ble_eq_true rfl), (Nat.le_of_ble_eq_true rfl)⟩ (fun H locs hP hD hS => ?_)
    obtain ⟨e0, e9⟩ := Prod.mk.inj hE
    obtain ⟨e1, e2⟩ := Prod.mk.inj e9
    subst e2
    exact cx_i hx hb hr hlocks e0 e1 rfl hS hP (Nat.le_of_ble_eq_true rfl) (Nat.le_of_ble_eq_true rfl) dX8_restore_43
  · rw [if_pos b1] at hE
    obtain ⟨e0, e1⟩ := Prod.mk.inj hE
    obtain ⟨-, e2⟩ := Prod.mk.inj e1
    subst e2
    exact cx_throwW (k := 5) rfl hx hb hst hts hown (by decide +kernel) xn_fit (by decide +kernel) (by decide +kernel) (ZC_t389 hZ) (fun w h => List.mem_cons_of_mem _ (List.mem_append_left _ (List.mem_append_right _ h))) xb_5 xg_5 (ZC_d1 hZ) (ZC_d2 hZ) (ZC_d3 hZ) (ZC_x5 hZ) (ZC_us hZ M) (ZC_ss hZ M) hS hP (hl.1.trans hml.symm) dX8_restore_7 dX8_restore_10 dX8_restore_11 dX8_restore_14 dX8_restore_17 hout (Nat.le_of_ble_eq_true rfl) (Nat.le_of_ble_eq_true rfl) (Nat.le_of_ble_eq_true rfl) (Nat.le_of_ble_eq_true rfl) hlocks (by decide) e0 (Nat.le_of_ble_eq_true rfl) (Nat.le_of_ble_eq_true rfl)

theorem fr_fX8_restore {M : Mem} {r : Nat} (h0 : Nat.beq r 0 = false) (h9 : Nat.beq r 9 = false) : (fX8_restore M).2.2 r = M r := by
  unfold fX8_restore
  (repeat' with_reducible refine frite_x (fun _ => ?_) (fun _ => ?_)) <;> first | with_reducible rfl | simp only [mst_o, msf_o, mcp_o, fr_fX2_empty, fr_fX6_copyFrom_s, h0, h9]
