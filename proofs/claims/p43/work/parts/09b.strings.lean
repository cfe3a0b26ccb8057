/-! String.length and charAt of a frozen text. -/
theorem zand_d : ∀ v : Fin 256, zand (v.val : Int) 255 = (v.val : Int) := by decide +kernel
theorem zand_e {v : Int} (h0 : 0 ≤ v) (h1 : v < 256) : zand v 255 = v := by
  obtain ⟨k, rfl⟩ := Int.eq_ofNat_of_zero_le h0
  exact zand_d ⟨k, by omega⟩
set_option maxRecDepth 100000 in
set_option maxHeartbeats 4000000 in
theorem kS_coder (l : Launch) (D : va_G) (E : Nat → Nat) (cI cC : ClassId) (T : Nat → Nat) (M : Mem) (q t n : Nat) (g : Int → Int) : Ci l yJ0_coder_7d493 wsJ0_coder_7d493 0 0 [.ref q] D (TY cI cC) (VC E cI cC) (ZS E cI cC T q t n g) M 0 M := by
  refine Ci.of (cc := cJ0_coder_7d493) (maxL := 1) (ret := (some .byte)) (by decide +kernel) rfl (Nat.le_of_ble_eq_true rfl) ?_
  intro p e s m args below meth c ls hx hb hml hr hown hts hlocks hP hK hD hZ hS hl
  have hl : lv_has ls 1 [(0, .ref q)] := hl
  refine va_gets hx hb (ZC_cs hZ.1 M) hS hown (hts (.fieldLink RJ0 38 "java/lang/String" "COMPACT_STRINGS" "Z") (by decide +kernel)) (fun _ h => h) dJ0_coder_7d493_0 ?_
  refine z_if_eq hx hb dJ0_coder_7d493_3 (tgt := 13) rfl (by omega) (fun h => absurd h (by decide)) (fun h => ?_)
  refine lv_aload_n hx hb dJ0_coder_7d493_6 rfl (lv_at hl 0 rfl) ?_
  refine vk_getf hx hb (ZS_c hZ M) hS hown (hts (.fieldLink RJ0 15 "java/lang/String" "coder" "B") (by decide +kernel)) (fun _ h => h) dJ0_coder_7d493_7 ?_
  refine lv_goto hx hb dJ0_coder_7d493_10 (tgt := 14) rfl ?_
  exact ci_i hx hb hr hlocks rfl nr_y0 hS hP dJ0_coder_7d493_14
set_option maxRecDepth 100000 in
set_option maxHeartbeats 4000000 in
theorem kS_isLatin1 (l : Launch) (D : va_G) (E : Nat → Nat) (cI cC : ClassId) (T : Nat → Nat) (M : Mem) (q t n : Nat) (g : Int → Int) : Ci l yJ0_isLatin1_aae02 wsJ0_isLatin1_aae02 0 0 [.ref q] D (TY cI cC) (VC E cI cC) (ZS E cI cC T q t n g) M 1 M := by
  refine Ci.of (cc := cJ0_isLatin1_aae02) (maxL := 1) (ret := (some .boolean)) (by decide +kernel) rfl (Nat.le_of_ble_eq_true rfl) ?_
  intro p e s m args below meth c ls hx hb hml hr hown hts hlocks hP hK hD hZ hS hl
  have hl : lv_has ls 1 [(0, .ref q)] := hl
  refine va_gets hx hb (ZC_cs hZ.1 M) hS hown (hts (.fieldLink RJ0 38 "java/lang/String" "COMPACT_STRINGS" "Z") (by decide +kernel)) (fun _ h => h) dJ0_isLatin1_aae02_0 ?_
  refine z_if_eq hx hb dJ0_isLatin1_aae02_3 (tgt := 17) rfl (by omega) (fun h => absurd h (by decide)) (fun h => ?_)
  refine lv_aload_n hx hb dJ0_isLatin1_aae02_6 rfl (lv_at hl 0 rfl) ?_
  refine vk_getf hx hb (ZS_c hZ M) hS hown (hts (.fieldLink RJ0 15 "java/lang/String" "coder" "B") (by decide +kernel)) (fun _ h => h) dJ0_isLatin1_aae02_7 ?_
  refine z_if_ne hx hb dJ0_isLatin1_aae02_10 (tgt := 17) rfl (by omega) (fun h => absurd h (by decide)) (fun h => ?_)
  refine z_iconst hx hb dJ0_isLatin1_aae02_13 ?_
  refine lv_goto hx hb dJ0_isLatin1_aae02_14 (tgt := 18) rfl ?_
  exact ci_i hx hb hr hlocks rfl nr_b1 hS hP dJ0_isLatin1_aae02_18
set_option maxRecDepth 100000 in
set_option maxHeartbeats 4000000 in
theorem kS_length (l : Launch) (D : va_G) (E : Nat → Nat) (cI cC : ClassId) (T : Nat → Nat) (M : Mem) (q t n : Nat) (g : Int → Int) (hn : n < 65536) : Ci l yJ0_length_8abf5 wsJ0_length_8abf5 1 20 [.ref q] D (TY cI cC) (VC E cI cC) (ZS E cI cC T q t n g) M (n : Int) M := by
  refine Ci.of (cc := cJ0_length_8abf5) (maxL := 1) (ret := (some .int)) (by decide +kernel) rfl (Nat.le_of_ble_eq_true rfl) ?_
  intro p e s m args below meth c ls hx hb hml hr hown hts hlocks hP hK hD hZ hS hl
  have hl : lv_has ls 1 [(0, .ref q)] := hl
  have S0 : CallFix p m c cJ0_length_8abf5 1 s args wsJ0_length_8abf5 RJ0 := ⟨hx, hb, hml, hown, hts⟩
  refine lv_aload_n hx hb dJ0_length_8abf5_0 rfl (lv_at hl 0 rfl) ?_
  refine vk_getf hx hb (ZS_v hZ M) hS hown (hts (.fieldLink RJ0 9 "java/lang/String" "value" "[B") (by decide +kernel)) (fun _ h => h) dJ0_length_8abf5_1 ?_
  refine z_tlen hx hb (ZS_t hZ M) hS (v := (n : Int)) rfl dJ0_length_8abf5_4 ?_
  refine lv_aload_n hx hb dJ0_length_8abf5_5 rfl (lv_at hl 0 rfl) ?_
  refine ct_Oi (VC_fix E cI cC) (ZS_ok E cI cC T q t n g) (ZS_bl E cI cC T q t n g) hZ S0 (kS_coder l D E cI cC T M q t n g) (cwV 0 hts gJ0_length_8abf5_J0_coder_7d493 rfl rfl rfl (by decide +kernel) ⟨(Nat.le_of_ble_eq_true rfl), (Nat.le_of_ble_eq_true rfl)⟩) hK hP hD hS (va_Orecv (ZS_O hZ M) hS) rfl hl.1 rfl (Nat.le_of_ble_eq_true rfl) dJ0_length_8abf5_6 ⟨Nat.zero_le _, Nat.zero_le _⟩ (fun H locs hP hD hS => ?_)
  refine z_ishr hx hb dJ0_length_8abf5_9 ?_
  exact ci_i hx hb hr hlocks (zshr0 ⟨by omega, by omega⟩) rfl hS hP dJ0_length_8abf5_10
set_option maxRecDepth 100000 in
set_option maxHeartbeats 4000000 in
theorem kS_charAt1 (l : Launch) (D : va_G) (E : Nat → Nat) (cI cC : ClassId) (T : Nat → Nat) (M : Mem) (q t n : Nat) (g : Int → Int) (hn : n < 65536) (index : Int) (h0 : 0 ≤ index ∧ index < n) (hg : 0 ≤ g index ∧ g index < 256) : Ci l yJ1_charAt_3b067 wsJ1_charAt_3b067 2 43 [.ref t, .int (iI index)] D (TY cI cC) (VC E cI cC) (ZS E cI cC T q t n g) M (g index) M := by
  refine Ci.of (cc := cJ1_charAt_3b067) (maxL := 2) (ret := (some .char)) (by decide +kernel) rfl (Nat.le_of_ble_eq_true rfl) ?_
  intro p e s m args below meth c ls hx hb hml hr hown hts hlocks hP hK hD hZ hS hl
  have hl : lv_has ls 2 [(0, .ref t), (1, .int (iI index))] := hl
  have S0 : CallFix p m c cJ1_charAt_3b067 2 s args wsJ1_charAt_3b067 RJ1 := ⟨hx, hb, hml, hown, hts⟩
  refine lv_iload_n hx hb dJ1_charAt_3b067_0 rfl (lv_at hl 1 rfl) ?_
  refine lv_aload_n hx hb dJ1_charAt_3b067_1 rfl (lv_at hl 0 rfl) ?_
  refine z_tlen hx hb (ZS_t hZ M) hS (v := (n : Int)) rfl dJ1_charAt_3b067_2 ?_
  refine ct_Sv (VC_fix E cI cC) (ZC_ok E cI cC T) (ZC_bl E cI cC T) hZ.1 S0 (kJ0_checkIndex_df160 l D E cI cC T M index (n : Int) h0 (by omega) (fJ0_checkIndex_df160 M index (n : Int)) rfl) (va_cwS 2 hts gJ1_charAt_3b067_J0_checkIndex_df160 rfl rfl rfl (by decide +kernel) ⟨(Nat.le_of_ble_eq_true rfl), (Nat.le_of_ble_eq_true rfl)⟩) hK hP hD hS rfl hl.1 rfl (Nat.le_of_ble_eq_true rfl) dJ1_charAt_3b067_3 ⟨Nat.zero_le _, Nat.zero_le _⟩ (fun H locs hP hD hS => ?_)
  refine lv_aload_n hx hb dJ1_charAt_3b067_6 rfl (lv_at hl 0 rfl) ?_
  refine lv_iload_n hx hb dJ1_charAt_3b067_7 rfl (lv_at hl 1 rfl) ?_
  refine z_tb hx hb (ZS_t hZ M) hS (f := g) h0.1 h0.2 (by omega) dJ1_charAt_3b067_8 ?_
  refine z_sipush hx hb dJ1_charAt_3b067_9 (by decide +kernel) ?_
  refine z_iand hx hb dJ1_charAt_3b067_12 ?_
  rw [zand_e hg.1 hg.2]
  refine z_i2c hx hb dJ1_charAt_3b067_13 (by omega) (by omega) ?_
  exact ci_i hx hb hr hlocks rfl (nr_c (by omega) (by omega)) hS hP dJ1_charAt_3b067_14
set_option maxRecDepth 100000 in
set_option maxHeartbeats 4000000 in
theorem kS_charAt (l : Launch) (D : va_G) (E : Nat → Nat) (cI cC : ClassId) (T : Nat → Nat) (M : Mem) (q t n : Nat) (g : Int → Int) (hn : n < 65536) (index : Int) (h0 : 0 ≤ index ∧ index < n) (hg : 0 ≤ g index ∧ g index < 256) : Ci l yJ0_charAt_5068e wsJ0_charAt_5068e 3 64 [.ref q, .int (iI index)] D (TY cI cC) (VC E cI cC) (ZS E cI cC T q t n g) M (g index) M := by
  refine Ci.of (cc := cJ0_charAt_5068e) (maxL := 2) (ret := (some .char)) (by decide +kernel) rfl (Nat.le_of_ble_eq_true rfl) ?_
  intro p e s m args below meth c ls hx hb hml hr hown hts hlocks hP hK hD hZ hS hl
  have hl : lv_has ls 2 [(0, .ref q), (1, .int (iI index))] := hl
  have S0 : CallFix p m c cJ0_charAt_5068e 2 s args wsJ0_charAt_5068e RJ0 := ⟨hx, hb, hml, hown, hts⟩
  refine lv_aload_n hx hb dJ0_charAt_5068e_0 rfl (lv_at hl 0 rfl) ?_
  refine ct_Oi (VC_fix E cI cC) (ZS_ok E cI cC T q t n g) (ZS_bl E cI cC T q t n g) hZ S0 (kS_isLatin1 l D E cI cC T M q t n g) (cwV 0 hts gJ0_charAt_5068e_J0_isLatin1_aae02 rfl rfl rfl (by decide +kernel) ⟨(Nat.le_of_ble_eq_true rfl), (Nat.le_of_ble_eq_true rfl)⟩) hK hP hD hS (va_Orecv (ZS_O hZ M) hS) rfl hl.1 rfl (Nat.le_of_ble_eq_true rfl) dJ0_charAt_5068e_1 ⟨Nat.zero_le _, Nat.zero_le _⟩ (fun H locs hP hD hS => ?_)
  refine z_if_eq hx hb dJ0_charAt_5068e_4 (tgt := 16) rfl (by omega) (fun h => absurd h (by decide)) (fun h => ?_)
  refine lv_aload_n hx hb dJ0_charAt_5068e_7 rfl (lv_at hl 0 rfl) ?_
  refine vk_getf hx hb (ZS_v hZ M) hS hown (hts (.fieldLink RJ0 9 "java/lang/String" "value" "[B") (by decide +kernel)) (fun _ h => h) dJ0_charAt_5068e_8 ?_
  refine lv_iload_n hx hb dJ0_charAt_5068e_11 rfl (lv_at hl 1 rfl) ?_
  refine ct_Si (VC_fix E cI cC) (ZS_ok E cI cC T q t n g) (ZS_bl E cI cC T q t n g) hZ S0 (kS_charAt1 l D E cI cC T M q t n g hn index h0 hg) (va_cwS 2 hts gJ0_charAt_5068e_J1_charAt_3b067 rfl rfl rfl (by decide +kernel) ⟨(Nat.le_of_ble_eq_true rfl), (Nat.le_of_ble_eq_true rfl)⟩) hK hP hD hS rfl hl.1 rfl (Nat.le_of_ble_eq_true rfl) dJ0_charAt_5068e_12 ⟨Nat.zero_le _, Nat.zero_le _⟩ (fun H locs hP hD hS => ?_)
  exact ci_i hx hb hr hlocks rfl (nr_c (by omega) (by omega)) hS hP dJ0_charAt_5068e_15
