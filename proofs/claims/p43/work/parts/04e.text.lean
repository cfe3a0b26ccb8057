/-! the JDK's String, Command, History, Line, Text -/
def fJx29ce0_ordinal_8abf5 (co : Int) : Int := co
set_option maxRecDepth 100000 in
set_option maxHeartbeats 4000000 in
theorem kJx29ce0_ordinal_8abf5 (l : Launch) (D : va_G) (E : Nat → Nat) (cI cC : ClassId) (T : Nat → Nat) (M : Mem) (co : Int) (h0 : 0 ≤ co ∧ co < 9) (r : Int) (hE : fJx29ce0_ordinal_8abf5 co = r) : Ci l yJx29ce0_ordinal_8abf5 wsJx29ce0_ordinal_8abf5 0 0 [.ref (T (co).toNat)] D (TY cI cC) (VC E cI cC) (ZC E cI cC T) M r M := by
  refine Ci.of (cc := cJx29ce0_ordinal_8abf5) (maxL := 1) (ret := (some .int)) (by decide +kernel) rfl (Nat.le_of_ble_eq_true rfl) ?_
  intro p e s m args below meth c ls hx hb hml hr hown hts hlocks hP hK hD hZ hS hl
  have hl : lv_has ls 1 [(0, .ref (T (co).toNat))] := hl
  have S0 : CallFix p m c cJx29ce0_ordinal_8abf5 1 s args wsJx29ce0_ordinal_8abf5 RJx29ce0 := ⟨hx, hb, hml, hown, hts⟩
  rw [fJx29ce0_ordinal_8abf5] at hE
  refine lv_aload_n hx hb dJx29ce0_ordinal_8abf5_0 rfl (lv_at hl 0 rfl) ?_
  refine vk_getf hx hb (ZC_ord hZ M (co).toNat (by omega)) hS hown (hts (.fieldLink RJx29ce0 7 "java/lang/Enum" "ordinal" "I") (by decide +kernel)) (fun _ h => h) dJx29ce0_ordinal_8abf5_1 ?_
  rw [Int.toNat_of_nonneg (by omega : 0 ≤ co)]
  exact ci_i hx hb hr hlocks hE rfl hS hP dJx29ce0_ordinal_8abf5_4

def fJ0_coder_7d493 (co : Int) : Int := (0)
set_option maxRecDepth 100000 in
set_option maxHeartbeats 4000000 in
theorem kJ0_coder_7d493 (l : Launch) (D : va_G) (E : Nat → Nat) (cI cC : ClassId) (T : Nat → Nat) (M : Mem) (co : Int) (h0 : 0 ≤ co ∧ co < 9) (r : Int) (hE : fJ0_coder_7d493 co = r) : Ci l yJ0_coder_7d493 wsJ0_coder_7d493 0 0 [.ref (T (14 + (co).toNat))] D (TY cI cC) (VC E cI cC) (ZC E cI cC T) M r M := by
  refine Ci.of (cc := cJ0_coder_7d493) (maxL := 1) (ret := (some .byte)) (by decide +kernel) rfl (Nat.le_of_ble_eq_true rfl) ?_
  intro p e s m args below meth c ls hx hb hml hr hown hts hlocks hP hK hD hZ hS hl
  have hl : lv_has ls 1 [(0, .ref (T (14 + (co).toNat)))] := hl
  have S0 : CallFix p m c cJ0_coder_7d493 1 s args wsJ0_coder_7d493 RJ0 := ⟨hx, hb, hml, hown, hts⟩
  rw [fJ0_coder_7d493] at hE
  refine va_gets hx hb (ZC_cs hZ M) hS hown (hts (.fieldLink RJ0 38 "java/lang/String" "COMPACT_STRINGS" "Z") (by decide +kernel)) (fun _ h => h) dJ0_coder_7d493_0 ?_
  refine z_if_eq hx hb dJ0_coder_7d493_3 (tgt := 13) rfl (by omega) (fun h => absurd h (by decide)) (fun h => ?_)
  refine lv_aload_n hx hb dJ0_coder_7d493_6 rfl (lv_at hl 0 rfl) ?_
  refine vk_getf hx hb (ZC_stc hZ M (co).toNat (by omega)) hS hown (hts (.fieldLink RJ0 15 "java/lang/String" "coder" "B") (by decide +kernel)) (fun _ h => h) dJ0_coder_7d493_7 ?_
  refine lv_goto hx hb dJ0_coder_7d493_10 (tgt := 14) rfl ?_
  exact ci_i hx hb hr hlocks hE nr_y0 hS hP dJ0_coder_7d493_14

def fJ0_isLatin1_aae02 (co : Int) : Int := (1)
set_option maxRecDepth 100000 in
set_option maxHeartbeats 4000000 in
theorem kJ0_isLatin1_aae02 (l : Launch) (D : va_G) (E : Nat → Nat) (cI cC : ClassId) (T : Nat → Nat) (M : Mem) (co : Int) (h0 : 0 ≤ co ∧ co < 9) (r : Int) (hE : fJ0_isLatin1_aae02 co = r) : Ci l yJ0_isLatin1_aae02 wsJ0_isLatin1_aae02 0 0 [.ref (T (14 + (co).toNat))] D (TY cI cC) (VC E cI cC) (ZC E cI cC T) M r M := by
  refine Ci.of (cc := cJ0_isLatin1_aae02) (maxL := 1) (ret := (some .boolean)) (by decide +kernel) rfl (Nat.le_of_ble_eq_true rfl) ?_
  intro p e s m args below meth c ls hx hb hml hr hown hts hlocks hP hK hD hZ hS hl
  have hl : lv_has ls 1 [(0, .ref (T (14 + (co).toNat)))] := hl
  have S0 : CallFix p m c cJ0_isLatin1_aae02 1 s args wsJ0_isLatin1_aae02 RJ0 := ⟨hx, hb, hml, hown, hts⟩
  rw [fJ0_isLatin1_aae02] at hE
  refine va_gets hx hb (ZC_cs hZ M) hS hown (hts (.fieldLink RJ0 38 "java/lang/String" "COMPACT_STRINGS" "Z") (by decide +kernel)) (fun _ h => h) dJ0_isLatin1_aae02_0 ?_
  refine z_if_eq hx hb dJ0_isLatin1_aae02_3 (tgt := 17) rfl (by omega) (fun h => absurd h (by decide)) (fun h => ?_)
  refine lv_aload_n hx hb dJ0_isLatin1_aae02_6 rfl (lv_at hl 0 rfl) ?_
  refine vk_getf hx hb (ZC_stc hZ M (co).toNat (by omega)) hS hown (hts (.fieldLink RJ0 15 "java/lang/String" "coder" "B") (by decide +kernel)) (fun _ h => h) dJ0_isLatin1_aae02_7 ?_
  refine z_if_ne hx hb dJ0_isLatin1_aae02_10 (tgt := 17) rfl (by omega) (fun h => absurd h (by decide)) (fun h => ?_)
  refine z_iconst hx hb dJ0_isLatin1_aae02_13 ?_
  refine lv_goto hx hb dJ0_isLatin1_aae02_14 (tgt := 18) rfl ?_
  exact ci_i hx hb hr hlocks hE nr_b1 hS hP dJ0_isLatin1_aae02_18


theorem zshr0 {a : Int} (h : I32 a) : zshr a (0) = a := by
  unfold zshr
  rw [show (iI 0 &&& 31 : Int32) = 0 from by decide +kernel, show ∀ x : Int32, x >>> (0 : Int32) = x from fun x => sb_shr0 x]
  exact iI_ti h

def fJ0_length_8abf5 (co : Int) : Int := (zshr (fln co) (0))
set_option maxRecDepth 100000 in
set_option maxHeartbeats 4000000 in
theorem kJ0_length_8abf5 (l : Launch) (D : va_G) (E : Nat → Nat) (cI cC : ClassId) (T : Nat → Nat) (M : Mem) (co : Int) (h0 : 0 ≤ co ∧ co < 9) (r : Int) (hE : fJ0_length_8abf5 co = r) : Ci l yJ0_length_8abf5 wsJ0_length_8abf5 1 20 [.ref (T (14 + (co).toNat))] D (TY cI cC) (VC E cI cC) (ZC E cI cC T) M r M := by
  refine Ci.of (cc := cJ0_length_8abf5) (maxL := 1) (ret := (some .int)) (by decide +kernel) rfl (Nat.le_of_ble_eq_true rfl) ?_
  intro p e s m args below meth c ls hx hb hml hr hown hts hlocks hP hK hD hZ hS hl
  have hl : lv_has ls 1 [(0, .ref (T (14 + (co).toNat)))] := hl
  have S0 : CallFix p m c cJ0_length_8abf5 1 s args wsJ0_length_8abf5 RJ0 := ⟨hx, hb, hml, hown, hts⟩
  rw [fJ0_length_8abf5] at hE
  refine lv_aload_n hx hb dJ0_length_8abf5_0 rfl (lv_at hl 0 rfl) ?_
  refine vk_getf hx hb (ZC_stv hZ M (co).toNat (by omega)) hS hown (hts (.fieldLink RJ0 9 "java/lang/String" "value" "[B") (by decide +kernel)) (fun _ h => h) dJ0_length_8abf5_1 ?_
  obtain ⟨Ny1, ey1, xy1⟩ := ZC_stb hZ M (co).toNat (by omega)
  rw [Int.toNat_of_nonneg (by omega)] at ey1
  refine z_tlen hx hb xy1 hS ey1 dJ0_length_8abf5_4 ?_
  have qy1 := fln_r co
  refine lv_aload_n hx hb dJ0_length_8abf5_5 rfl (lv_at hl 0 rfl) ?_
  refine ct_Oi (VC_fix E cI cC) (ZC_ok E cI cC T) (ZC_bl E cI cC T) hZ S0 (kJ0_coder_7d493 l D E cI cC T M co (by omega) (0) rfl) (cwV 0 hts gJ0_length_8abf5_J0_coder_7d493 rfl rfl rfl (by decide +kernel) ⟨(Nat.le_of_ble_eq_true rfl), (Nat.le_of_ble_eq_true rfl)⟩) hK hP hD hS (va_Orecv (ZC_sto hZ M (co).toNat (by omega)) hS) rfl hl.1 rfl (Nat.le_of_ble_eq_true rfl) dJ0_length_8abf5_6 ⟨Nat.zero_le _, Nat.zero_le _⟩ (fun H locs hP hD hS => ?_)
  refine z_ishr hx hb dJ0_length_8abf5_9 ?_
  have q2 := zshr_I (fln co) (0)
  exact ci_i hx hb hr hlocks hE rfl hS hP dJ0_length_8abf5_10


theorem eX_len (co : Int) : fJ0_length_8abf5 co = fln co := by
  have := fln_r co
  exact zshr0 ⟨by omega, by omega⟩
theorem rg_J0_length (co : Int) : 0 ≤ fJ0_length_8abf5 co ∧ fJ0_length_8abf5 co ≤ 9 := by rw [eX_len]; exact fln_r co

def fJ3_checkIndex_8e157_n (index len : Int) : Int := index
set_option maxRecDepth 100000 in
set_option maxHeartbeats 4000000 in
theorem kJ3_checkIndex_8e157_n (l : Launch) (D : va_G) (E : Nat → Nat) (cI cC : ClassId) (T : Nat → Nat) (M : Mem) (index len : Int) (h1 : 0 ≤ index ∧ index < len) (h2 : len < 2147483648) (r : Int) (hE : fJ3_checkIndex_8e157_n index len = r) : Ci l yJ3_checkIndex_8e157 wsJ3_checkIndex_8e157 0 0 [.int (iI index), .int (iI len), .null] D (TY cI cC) (VC E cI cC) (ZC E cI cC T) M r M := by
  refine Ci.of (cc := cJ3_checkIndex_8e157) (maxL := 3) (ret := (some .int)) (by decide +kernel) rfl (Nat.le_of_ble_eq_true rfl) ?_
  intro p e s m args below meth c ls hx hb hml hr hown hts hlocks hP hK hD hZ hS hl
  have hl : lv_has ls 3 [(0, .int (iI index)), (1, .int (iI len)), (2, .null)] := hl
  have S0 : CallFix p m c cJ3_checkIndex_8e157 3 s args wsJ3_checkIndex_8e157 RJ3 := ⟨hx, hb, hml, hown, hts⟩
  rw [fJ3_checkIndex_8e157_n] at hE
  refine lv_iload_n hx hb dJ3_checkIndex_8e157_0 rfl (lv_at hl 0 rfl) ?_
  refine z_if_lt hx hb dJ3_checkIndex_8e157_1 (tgt := 9) rfl (by omega) (fun h => absurd h (by omega)) (fun h => ?_)
  refine lv_iload_n hx hb dJ3_checkIndex_8e157_4 rfl (lv_at hl 0 rfl) ?_
  refine lv_iload_n hx hb dJ3_checkIndex_8e157_5 rfl (lv_at hl 1 rfl) ?_
  refine z_icmp_lt hx hb dJ3_checkIndex_8e157_6 (tgt := 16) rfl (by omega) (by omega) (fun h => ?_) (fun h => absurd h (by omega))
  refine lv_iload_n hx hb dJ3_checkIndex_8e157_16 rfl (lv_at hl 0 rfl) ?_
  exact ci_i hx hb hr hlocks hE rfl hS hP dJ3_checkIndex_8e157_17

def fJ3_checkIndex_8e157_a (index len : Int) : Int := index
set_option maxRecDepth 100000 in
set_option maxHeartbeats 4000000 in
theorem kJ3_checkIndex_8e157_a (l : Launch) (D : va_G) (E : Nat → Nat) (cI cC : ClassId) (T : Nat → Nat) (M : Mem) (ta : Nat) (index len : Int) (h1 : 0 ≤ index ∧ index < len) (h2 : len < 2147483648) (r : Int) (hE : fJ3_checkIndex_8e157_a index len = r) : Ci l yJ3_checkIndex_8e157 wsJ3_checkIndex_8e157 0 0 [.int (iI index), .int (iI len), .ref ta] D (TY cI cC) (VC E cI cC) (ZC E cI cC T) M r M := by
  refine Ci.of (cc := cJ3_checkIndex_8e157) (maxL := 3) (ret := (some .int)) (by decide +kernel) rfl (Nat.le_of_ble_eq_true rfl) ?_
  intro p e s m args below meth c ls hx hb hml hr hown hts hlocks hP hK hD hZ hS hl
  have hl : lv_has ls 3 [(0, .int (iI index)), (1, .int (iI len)), (2, .ref ta)] := hl
  have S0 : CallFix p m c cJ3_checkIndex_8e157 3 s args wsJ3_checkIndex_8e157 RJ3 := ⟨hx, hb, hml, hown, hts⟩
  rw [fJ3_checkIndex_8e157_a] at hE
  refine lv_iload_n hx hb dJ3_checkIndex_8e157_0 rfl (lv_at hl 0 rfl) ?_
  refine z_if_lt hx hb dJ3_checkIndex_8e157_1 (tgt := 9) rfl (by omega) (fun h => absurd h (by omega)) (fun h => ?_)
  refine lv_iload_n hx hb dJ3_checkIndex_8e157_4 rfl (lv_at hl 0 rfl) ?_
  refine lv_iload_n hx hb dJ3_checkIndex_8e157_5 rfl (lv_at hl 1 rfl) ?_
  refine z_icmp_lt hx hb dJ3_checkIndex_8e157_6 (tgt := 16) rfl (by omega) (by omega) (fun h => ?_) (fun h => absurd h (by omega))
  refine lv_iload_n hx hb dJ3_checkIndex_8e157_16 rfl (lv_at hl 0 rfl) ?_
  exact ci_i hx hb hr hlocks hE rfl hS hP dJ3_checkIndex_8e157_17

def fJ0_checkIndex_df160 (M : Mem) (index len : Int) : Mem := M
set_option maxRecDepth 100000 in
set_option maxHeartbeats 4000000 in
theorem kJ0_checkIndex_df160 (l : Launch) (D : va_G) (E : Nat → Nat) (cI cC : ClassId) (T : Nat → Nat) (M : Mem) (index len : Int) (h1 : 0 ≤ index ∧ index < len) (h2 : len < 2147483648) (M' : Mem) (hE : fJ0_checkIndex_df160 M index len = M') : Cv l yJ0_checkIndex_df160 wsJ0_checkIndex_df160 1 22 [.int (iI index), .int (iI len)] D (TY cI cC) (VC E cI cC) (ZC E cI cC T) M M' := by
  refine Cv.of (cc := cJ0_checkIndex_df160) (maxL := 2) (ret := none) (by decide +kernel) rfl (Nat.le_of_ble_eq_true rfl) ?_
  intro p e s m args below meth c ls hx hb hml hr hown hts hlocks hP hK hD hZ hS hl
  have hl : lv_has ls 2 [(0, .int (iI index)), (1, .int (iI len))] := hl
  have S0 : CallFix p m c cJ0_checkIndex_df160 2 s args wsJ0_checkIndex_df160 RJ0 := ⟨hx, hb, hml, hown, hts⟩
  rw [fJ0_checkIndex_df160] at hE
  refine lv_iload_n hx hb dJ0_checkIndex_df160_0 rfl (lv_at hl 0 rfl) ?_
  refine lv_iload_n hx hb dJ0_checkIndex_df160_1 rfl (lv_at hl 1 rfl) ?_
  rcases ZC_fm hZ M with hfm | ⟨ta, hfm⟩
  · refine va_gets hx hb hfm hS hown (hts (.fieldLink RJ0 1053 "jdk/internal/util/Preconditions" "SIOOBE_FORMATTER" "Ljava/util/function/BiFunction;") (by decide +kernel)) (fun _ h => h) dJ0_checkIndex_df160_2 ?_
    refine ct_Si (VC_fix E cI cC) (ZC_ok E cI cC T) (ZC_bl E cI cC T) hZ S0 (kJ3_checkIndex_8e157_n l D E cI cC T M index len (by omega) (by omega) (fJ3_checkIndex_8e157_n index len) rfl) (va_cwS 3 hts gJ0_checkIndex_df160_J3_checkIndex_8e157 rfl rfl rfl (by decide +kernel) ⟨(Nat.le_of_ble_eq_true rfl), (Nat.le_of_ble_eq_true rfl)⟩) hK hP hD hS rfl hl.1 rfl (Nat.le_of_ble_eq_true rfl) dJ0_checkIndex_df160_5 ⟨Nat.zero_le _, Nat.zero_le _⟩ (fun H locs hP hD hS => ?_)
    refine lv_pop hx hb dJ0_checkIndex_df160_8 rfl ?_
    subst hE
    exact cv_v hx hb hr hlocks hS hP dJ0_checkIndex_df160_9
  · refine va_gets hx hb hfm hS hown (hts (.fieldLink RJ0 1053 "jdk/internal/util/Preconditions" "SIOOBE_FORMATTER" "Ljava/util/function/BiFunction;") (by decide +kernel)) (fun _ h => h) dJ0_checkIndex_df160_2 ?_
    refine ct_Si (VC_fix E cI cC) (ZC_ok E cI cC T) (ZC_bl E cI cC T) hZ S0 (kJ3_checkIndex_8e157_a l D E cI cC T M ta index len (by omega) (by omega) (fJ3_checkIndex_8e157_a index len) rfl) (va_cwS 3 hts gJ0_checkIndex_df160_J3_checkIndex_8e157 rfl rfl rfl (by decide +kernel) ⟨(Nat.le_of_ble_eq_true rfl), (Nat.le_of_ble_eq_true rfl)⟩) hK hP hD hS rfl hl.1 rfl (Nat.le_of_ble_eq_true rfl) dJ0_checkIndex_df160_5 ⟨Nat.zero_le _, Nat.zero_le _⟩ (fun H locs hP hD hS => ?_)
    refine lv_pop hx hb dJ0_checkIndex_df160_8 rfl ?_
    subst hE
    exact cv_v hx hb hr hlocks hS hP dJ0_checkIndex_df160_9

def fJ1_charAt_3b067 (co index : Int) : Int := (zand (fch co index) (255))
set_option maxRecDepth 100000 in
set_option maxHeartbeats 4000000 in
theorem kJ1_charAt_3b067 (l : Launch) (D : va_G) (E : Nat → Nat) (cI cC : ClassId) (T : Nat → Nat) (M : Mem) (co index : Int) (h0 : 0 ≤ co ∧ co < 9) (h1 : 0 ≤ index ∧ index < fln co) (r : Int) (hE : fJ1_charAt_3b067 co index = r) : Ci l yJ1_charAt_3b067 wsJ1_charAt_3b067 2 43 [.ref (T (23 + (co).toNat)), .int (iI index)] D (TY cI cC) (VC E cI cC) (ZC E cI cC T) M r M := by
  refine Ci.of (cc := cJ1_charAt_3b067) (maxL := 2) (ret := (some .char)) (by decide +kernel) rfl (Nat.le_of_ble_eq_true rfl) ?_
  intro p e s m args below meth c ls hx hb hml hr hown hts hlocks hP hK hD hZ hS hl
  have hl : lv_has ls 2 [(0, .ref (T (23 + (co).toNat))), (1, .int (iI index))] := hl
  have S0 : CallFix p m c cJ1_charAt_3b067 2 s args wsJ1_charAt_3b067 RJ1 := ⟨hx, hb, hml, hown, hts⟩
  rw [fJ1_charAt_3b067] at hE
  have q90 := fln_r co
  refine lv_iload_n hx hb dJ1_charAt_3b067_0 rfl (lv_at hl 1 rfl) ?_
  refine lv_aload_n hx hb dJ1_charAt_3b067_1 rfl (lv_at hl 0 rfl) ?_
  obtain ⟨Ny1, ey1, xy1⟩ := ZC_stb hZ M (co).toNat (by omega)
  rw [Int.toNat_of_nonneg (by omega)] at ey1
  refine z_tlen hx hb xy1 hS ey1 dJ1_charAt_3b067_2 ?_
  have qy1 := fln_r co
  refine ct_Sv (VC_fix E cI cC) (ZC_ok E cI cC T) (ZC_bl E cI cC T) hZ S0 (kJ0_checkIndex_df160 l D E cI cC T M index (fln co) (by omega) (by omega) (fJ0_checkIndex_df160 M index (fln co)) rfl) (va_cwS 2 hts gJ1_charAt_3b067_J0_checkIndex_df160 rfl rfl rfl (by decide +kernel) ⟨(Nat.le_of_ble_eq_true rfl), (Nat.le_of_ble_eq_true rfl)⟩) hK hP hD hS rfl hl.1 rfl (Nat.le_of_ble_eq_true rfl) dJ1_charAt_3b067_3 ⟨Nat.zero_le _, Nat.zero_le _⟩ (fun H locs hP hD hS => ?_)
  refine lv_aload_n hx hb dJ1_charAt_3b067_6 rfl (lv_at hl 0 rfl) ?_
  refine lv_iload_n hx hb dJ1_charAt_3b067_7 rfl (lv_at hl 1 rfl) ?_
  have q90 := fln_r co
  obtain ⟨Ny2, ey2, xy2⟩ := ZC_stb hZ M (co).toNat (by omega)
  rw [Int.toNat_of_nonneg (by omega)] at ey2
  refine z_tb hx hb xy2 hS (f := fun j => fch ((co).toNat : Int) j) (by omega) (by omega) (fln_N ey2) dJ1_charAt_3b067_8 ?_
  rw [Int.toNat_of_nonneg (by omega : 0 ≤ co)]
  refine z_sipush hx hb dJ1_charAt_3b067_9 (by decide +kernel) ?_
  refine z_iand hx hb dJ1_charAt_3b067_12 ?_
  have q3 := zand_I (fch co index) (255)
  have q89 := zand255 (fch co index)
  refine z_i2c hx hb dJ1_charAt_3b067_13 (by omega) (by omega) ?_
  have q88 := zand255 (fch co index)
  exact ci_i hx hb hr hlocks hE (nr_c (by omega) (by omega)) hS hP dJ1_charAt_3b067_14


theorem rg_J1_charAt (co index : Int) : 0 ≤ fJ1_charAt_3b067 co index ∧ fJ1_charAt_3b067 co index ≤ 255 := zand255 _

def fJ0_charAt_5068e (co index : Int) : Int := (fJ1_charAt_3b067 co index)
set_option maxRecDepth 100000 in
set_option maxHeartbeats 4000000 in
theorem kJ0_charAt_5068e (l : Launch) (D : va_G) (E : Nat → Nat) (cI cC : ClassId) (T : Nat → Nat) (M : Mem) (co index : Int) (h0 : 0 ≤ co ∧ co < 9) (h1 : 0 ≤ index ∧ index < fln co) (r : Int) (hE : fJ0_charAt_5068e co index = r) : Ci l yJ0_charAt_5068e wsJ0_charAt_5068e 3 64 [.ref (T (14 + (co).toNat)), .int (iI index)] D (TY cI cC) (VC E cI cC) (ZC E cI cC T) M r M := by
  refine Ci.of (cc := cJ0_charAt_5068e) (maxL := 2) (ret := (some .char)) (by decide +kernel) rfl (Nat.le_of_ble_eq_true rfl) ?_
  intro p e s m args below meth c ls hx hb hml hr hown hts hlocks hP hK hD hZ hS hl
  have hl : lv_has ls 2 [(0, .ref (T (14 + (co).toNat))), (1, .int (iI index))] := hl
  have S0 : CallFix p m c cJ0_charAt_5068e 2 s args wsJ0_charAt_5068e RJ0 := ⟨hx, hb, hml, hown, hts⟩
  rw [fJ0_charAt_5068e] at hE
  refine lv_aload_n hx hb dJ0_charAt_5068e_0 rfl (lv_at hl 0 rfl) ?_
  refine ct_Oi (VC_fix E cI cC) (ZC_ok E cI cC T) (ZC_bl E cI cC T) hZ S0 (kJ0_isLatin1_aae02 l D E cI cC T M co (by omega) (1) rfl) (cwV 0 hts gJ0_charAt_5068e_J0_isLatin1_aae02 rfl rfl rfl (by decide +kernel) ⟨(Nat.le_of_ble_eq_true rfl), (Nat.le_of_ble_eq_true rfl)⟩) hK hP hD hS (va_Orecv (ZC_sto hZ M (co).toNat (by omega)) hS) rfl hl.1 rfl (Nat.le_of_ble_eq_true rfl) dJ0_charAt_5068e_1 ⟨Nat.zero_le _, Nat.zero_le _⟩ (fun H locs hP hD hS => ?_)
  refine z_if_eq hx hb dJ0_charAt_5068e_4 (tgt := 16) rfl (by omega) (fun h => absurd h (by decide)) (fun h => ?_)
  refine lv_aload_n hx hb dJ0_charAt_5068e_7 rfl (lv_at hl 0 rfl) ?_
  refine vk_getf hx hb (ZC_stv hZ M (co).toNat (by omega)) hS hown (hts (.fieldLink RJ0 9 "java/lang/String" "value" "[B") (by decide +kernel)) (fun _ h => h) dJ0_charAt_5068e_8 ?_
  refine lv_iload_n hx hb dJ0_charAt_5068e_11 rfl (lv_at hl 1 rfl) ?_
  refine ct_Si (VC_fix E cI cC) (ZC_ok E cI cC T) (ZC_bl E cI cC T) hZ S0 (kJ1_charAt_3b067 l D E cI cC T M co index (by omega) (by omega) (fJ1_charAt_3b067 co index) rfl) (va_cwS 2 hts gJ0_charAt_5068e_J1_charAt_3b067 rfl rfl rfl (by decide +kernel) ⟨(Nat.le_of_ble_eq_true rfl), (Nat.le_of_ble_eq_true rfl)⟩) hK hP hD hS rfl hl.1 rfl (Nat.le_of_ble_eq_true rfl) dJ0_charAt_5068e_12 ⟨Nat.zero_le _, Nat.zero_le _⟩ (fun H locs hP hD hS => ?_)
  have q1 := rg_J1_charAt co index
  exact ci_i hx hb hr hlocks hE (nr_c (by omega) (by omega)) hS hP dJ0_charAt_5068e_15


theorem rg_J0_charAt (co index : Int) : 0 ≤ fJ0_charAt_5068e co index ∧ fJ0_charAt_5068e co index ≤ 255 := zand255 _

def fX1_length (co : Int) : Int := (fJ0_length_8abf5 co)
set_option maxRecDepth 100000 in
set_option maxHeartbeats 4000000 in
theorem kX1_length (l : Launch) (D : va_G) (E : Nat → Nat) (cI cC : ClassId) (T : Nat → Nat) (M : Mem) (co : Int) (h0 : 0 ≤ co ∧ co < 9) (r : Int) (hE : fX1_length co = r) : Ci l yX1_length wsX1_length 2 40 [.ref (T (co).toNat)] D (TY cI cC) (VC E cI cC) (ZC E cI cC T) M r M := by
  refine Ci.of (cc := cX1_length) (maxL := 1) (ret := (some .int)) (by decide +kernel) rfl (Nat.le_of_ble_eq_true rfl) ?_
  intro p e s m args below meth c ls hx hb hml hr hown hts hlocks hP hK hD hZ hS hl
  have hl : lv_has ls 1 [(0, .ref (T (co).toNat))] := hl
  have S0 : CallFix p m c cX1_length 1 s args wsX1_length RX1 := ⟨hx, hb, hml, hown, hts⟩
  rw [fX1_length] at hE
  refine lv_aload_n hx hb dX1_length_0 rfl (lv_at hl 0 rfl) ?_
  refine vk_getf hx hb (ZC_frm hZ M (co).toNat (by omega)) hS hown (hts (.fieldLink RX1 50 "NapkinSyntax$Command" "form" "Ljava/lang/String;") (by decide +kernel)) (fun _ h => h) dX1_length_1 ?_
  refine ct_Oi (VC_fix E cI cC) (ZC_ok E cI cC T) (ZC_bl E cI cC T) hZ S0 (kJ0_length_8abf5 l D E cI cC T M co (by omega) (fJ0_length_8abf5 co) rfl) (cwV 0 hts gX1_length_J0_length_8abf5 rfl rfl rfl (by decide +kernel) ⟨(Nat.le_of_ble_eq_true rfl), (Nat.le_of_ble_eq_true rfl)⟩) hK hP hD hS (va_Orecv (ZC_sto hZ M (co).toNat (by omega)) hS) rfl hl.1 rfl (Nat.le_of_ble_eq_true rfl) dX1_length_4 ⟨Nat.zero_le _, Nat.zero_le _⟩ (fun H locs hP hD hS => ?_)
  have q1 := rg_J0_length co
  exact ci_i hx hb hr hlocks hE rfl hS hP dX1_length_7


theorem rg_X1_length (co : Int) : 0 ≤ fX1_length co ∧ fX1_length co ≤ 9 := rg_J0_length co

def fX1_signAt (co index : Int) : Int := if (index < 0) then (32) else if ((fJ0_length_8abf5 co) ≤ index) then (32) else (fJ0_charAt_5068e co index)
set_option maxRecDepth 100000 in
set_option maxHeartbeats 4000000 in
theorem kX1_signAt (l : Launch) (D : va_G) (E : Nat → Nat) (cI cC : ClassId) (T : Nat → Nat) (M : Mem) (co index : Int) (h0 : 0 ≤ co ∧ co < 9) (h1 : -2147483648 ≤ index ∧ index < 2147483648) (r : Int) (hE : fX1_signAt co index = r) : Ci l yX1_signAt wsX1_signAt 4 85 [.ref (T (co).toNat), .int (iI index)] D (TY cI cC) (VC E cI cC) (ZC E cI cC T) M r M := by
  refine Ci.of (cc := cX1_signAt) (maxL := 2) (ret := (some .char)) (by decide +kernel) rfl (Nat.le_of_ble_eq_true rfl) ?_
  intro p e s m args below meth c ls hx hb hml hr hown hts hlocks hP hK hD hZ hS hl
  have hl : lv_has ls 2 [(0, .ref (T (co).toNat)), (1, .int (iI index))] := hl
  have S0 : CallFix p m c cX1_signAt 2 s args wsX1_signAt RX1 := ⟨hx, hb, hml, hown, hts⟩
  have q91 := eX_len co
  rw [fX1_signAt] at hE
  refine lv_iload_n hx hb dX1_signAt_0 rfl (lv_at hl 1 rfl) ?_
  refine z_if_lt hx hb dX1_signAt_1 (tgt := 26) rfl (by omega) (fun b1 => ?_) (fun b1 => ?_)
  · rw [if_pos b1] at hE
    refine z_bipush hx hb dX1_signAt_26 (by decide +kernel) ?_
    exact ci_i hx hb hr hlocks hE (nr_c (by omega) (by omega)) hS hP dX1_signAt_28
  · rw [if_neg b1] at hE
    refine lv_iload_n hx hb dX1_signAt_4 rfl (lv_at hl 1 rfl) ?_
    refine lv_aload_n hx hb dX1_signAt_5 rfl (lv_at hl 0 rfl) ?_
    refine vk_getf hx hb (ZC_frm hZ M (co).toNat (by omega)) hS hown (hts (.fieldLink RX1 50 "NapkinSyntax$Command" "form" "Ljava/lang/String;") (by decide +kernel)) (fun _ h => h) dX1_signAt_6 ?_
    refine ct_Oi (VC_fix E cI cC) (ZC_ok E cI cC T) (ZC_bl E cI cC T) hZ S0 (kJ0_length_8abf5 l D E cI cC T M co (by omega) (fJ0_length_8abf5 co) rfl) (cwV 0 hts gX1_signAt_J0_length_8abf5 rfl rfl rfl (by decide +kernel) ⟨(Nat.le_of_ble_eq_true rfl), (Nat.le_of_ble_eq_true rfl)⟩) hK hP hD hS (va_Orecv (ZC_sto hZ M (co).toNat (by omega)) hS) rfl hl.1 rfl (Nat.le_of_ble_eq_true rfl) dX1_signAt_9 ⟨Nat.zero_le _, Nat.zero_le _⟩ (fun H locs hP hD hS => ?_)
    have q2 := rg_J0_length co
    refine z_icmp_ge hx hb dX1_signAt_12 (tgt := 26) rfl (by omega) (by omega) (fun b3 => ?_) (fun b3 => ?_)
    · rw [if_pos b3] at hE
      refine z_bipush hx hb dX1_signAt_26 (by decide +kernel) ?_
      exact ci_i hx hb hr hlocks hE (nr_c (by omega) (by omega)) hS hP dX1_signAt_28
    · rw [if_neg b3] at hE
      refine lv_aload_n hx hb dX1_signAt_15 rfl (lv_at hl 0 rfl) ?_
      refine vk_getf hx hb (ZC_frm hZ M (co).toNat (by omega)) hS hown (hts (.fieldLink RX1 50 "NapkinSyntax$Command" "form" "Ljava/lang/String;") (by decide +kernel)) (fun _ h => h) dX1_signAt_16 ?_
      refine lv_iload_n hx hb dX1_signAt_19 rfl (lv_at hl 1 rfl) ?_
      refine ct_Oi (VC_fix E cI cC) (ZC_ok E cI cC T) (ZC_bl E cI cC T) hZ S0 (kJ0_charAt_5068e l D E cI cC T M co index (by omega) (by omega) (fJ0_charAt_5068e co index) rfl) (cwV 1 hts gX1_signAt_J0_charAt_5068e rfl rfl rfl (by decide +kernel) ⟨(Nat.le_of_ble_eq_true rfl), (Nat.le_of_ble_eq_true rfl)⟩) hK hP hD hS (va_Orecv (ZC_sto hZ M (co).toNat (by omega)) hS) rfl hl.1 rfl (Nat.le_of_ble_eq_true rfl) dX1_signAt_20 ⟨Nat.zero_le _, Nat.zero_le _⟩ (fun H locs hP hD hS => ?_)
      have q4 := rg_J0_charAt co index
      refine lv_goto hx hb dX1_signAt_23 (tgt := 28) rfl ?_
      exact ci_i hx hb hr hlocks hE (nr_c (by omega) (by omega)) hS hP dX1_signAt_28


theorem rg_X1_signAt (co index : Int) : 0 ≤ fX1_signAt co index ∧ fX1_signAt co index ≤ 255 := by
  have := rg_J0_charAt co index
  unfold fX1_signAt
  (repeat' split) <;> omega

def fX2_size (M : Mem) : Int := (M 9 0)
set_option maxRecDepth 100000 in
set_option maxHeartbeats 4000000 in
theorem kX2_size (l : Launch) (D : va_G) (E : Nat → Nat) (cI cC : ClassId) (Z : State → Prop) (hZo : ∀ M : Mem, ZOk (VC E cI cC M) Z) (hZb : ZBl Z) (M : Mem)  (r : Int) (hE : fX2_size M = r) : Ci l yX2_size wsX2_size 0 0 [.ref (E 11)] D (TY cI cC) (VC E cI cC) Z M r M := by
  refine Ci.of (cc := cX2_size) (maxL := 1) (ret := (some .int)) (by decide +kernel) rfl (Nat.le_of_ble_eq_true rfl) ?_
  intro p e s m args below meth c ls hx hb hml hr hown hts hlocks hP hK hD hZ hS hl
  have hl : lv_has ls 1 [(0, .ref (E 11))] := hl
  have S0 : CallFix p m c cX2_size 1 s args wsX2_size RX2 := ⟨hx, hb, hml, hown, hts⟩
  have hinX2 : ∀ w ∈ u_ws RX2 TX2 2, w ∈ wsX2_size := by decide +kernel
  rw [fX2_size] at hE
  refine lv_aload_n hx hb dX2_size_0 rfl (lv_at hl 0 rfl) ?_
  refine va_get (own := RX2) (ref := "NapkinSyntax$History") (C := RX2) (T := TX2) (N := 2) hx hb hts hinX2 hown hK hP 11 VC_11 rfl 1 (Nat.le_of_ble_eq_true rfl) (hts (.fieldLink RX2 17 "NapkinSyntax$History" "size" "I") (by decide +kernel)) (fun _ h => h) (v := .int (iI (M 9 0))) rfl dX2_size_1 ?_
  exact ci_i hx hb hr hlocks hE rfl hS hP dX2_size_4

def fX2_empty (M : Mem) : Mem := (msf M 9 (0))
set_option maxRecDepth 100000 in
set_option maxHeartbeats 4000000 in
theorem kX2_empty (l : Launch) (D : va_G) (E : Nat → Nat) (cI cC : ClassId) (Z : State → Prop) (hZo : ∀ M : Mem, ZOk (VC E cI cC M) Z) (hZb : ZBl Z) (M : Mem)  (M' : Mem) (hE : fX2_empty M = M') : Cv l yX2_empty wsX2_empty 0 0 [.ref (E 11)] D (TY cI cC) (VC E cI cC) Z M M' := by
  refine Cv.of (cc := cX2_empty) (maxL := 1) (ret := none) (by decide +kernel) rfl (Nat.le_of_ble_eq_true rfl) ?_
  intro p e s m args below meth c ls hx hb hml hr hown hts hlocks hP hK hD hZ hS hl
  have hl : lv_has ls 1 [(0, .ref (E 11))] := hl
  have S0 : CallFix p m c cX2_empty 1 s args wsX2_empty RX2 := ⟨hx, hb, hml, hown, hts⟩
  have hinX2 : ∀ w ∈ u_ws RX2 TX2 2, w ∈ wsX2_empty := by decide +kernel
  rw [fX2_empty] at hE
  refine lv_aload_n hx hb dX2_empty_0 rfl (lv_at hl 0 rfl) ?_
  refine z_iconst hx hb dX2_empty_1 ?_
  refine va_put (own := RX2) (ref := "NapkinSyntax$History") (C := RX2) (T := TX2) (N := 2) hx hb hts hinX2 tyX2 tyX2_ok nmX2 hown hK hP hD hS 11 VC_11 rfl 1 (Nat.le_of_ble_eq_true rfl) (hts (.fieldLink RX2 17 "NapkinSyntax$History" "size" "I") (by decide +kernel)) (fun _ h => h) rfl (ty := .int) (v := .int (iI (0))) (by decide +kernel) rfl rfl (Nat.le_of_ble_eq_true rfl) dX2_empty_2 (fun H locs hP hD hS => ?_)
  rw [VCf_9] at hP hD
  subst hE
  exact cv_v hx hb hr hlocks hS hP dX2_empty_5

theorem fr_fX2_empty {M : Mem} {r : Nat} (h9 : Nat.beq r 9 = false) : (fX2_empty M) r = M r := by
  unfold fX2_empty
  (repeat' with_reducible refine frite_v (fun _ => ?_) (fun _ => ?_)) <;> first | with_reducible rfl | simp only [mst_o, msf_o, mcp_o, h9]

def fX2_push (M : Mem) : Mem := if ((M 9 0) < (8)) then if ((M 9 0) < 0) then M else (msf (mcp M 14 (0) 8 ((M 9 0) * (80)) (80)) 9 ((M 9 0) + (1))) else (msf (mcp (msf (mcp M 8 (80) 8 (0) (560)) 9 (7)) 14 (0) 8 ((7) * (80)) (80)) 9 ((7) + (1)))
set_option maxRecDepth 100000 in
set_option maxHeartbeats 4000000 in
theorem kX2_push (l : Launch) (D : va_G) (E : Nat → Nat) (cI cC : ClassId) (Z : State → Prop) (hZo : ∀ M : Mem, ZOk (VC E cI cC M) Z) (hZb : ZBl Z) (M : Mem) (hN : 0 ≤ M 9 0 ∧ M 9 0 ≤ 8) (M' : Mem) (hE : fX2_push M = M') : Cv l yX2_push wsX2_push 1 26 [.ref (E 11), .ref (E 17)] D (TY cI cC) (VC E cI cC) Z M M' := by
  refine Cv.of (cc := cX2_push) (maxL := 2) (ret := none) (by decide +kernel) rfl (Nat.le_of_ble_eq_true rfl) ?_
  intro p e s m args below meth c ls hx hb hml hr hown hts hlocks hP hK hD hZ hS hl
  have hl : lv_has ls 2 [(0, .ref (E 11)), (1, .ref (E 17))] := hl
  have S0 : CallFix p m c cX2_push 2 s args wsX2_push RX2 := ⟨hx, hb, hml, hown, hts⟩
  have hinX2 : ∀ w ∈ u_ws RX2 TX2 2, w ∈ wsX2_push := by decide +kernel
  rw [fX2_push] at hE
  refine lv_aload_n hx hb dX2_push_0 rfl (lv_at hl 0 rfl) ?_
  refine va_get (own := RX2) (ref := "NapkinSyntax$History") (C := RX2) (T := TX2) (N := 2) hx hb hts hinX2 hown hK hP 11 VC_11 rfl 1 (Nat.le_of_ble_eq_true rfl) (hts (.fieldLink RX2 17 "NapkinSyntax$History" "size" "I") (by decide +kernel)) (fun _ h => h) (v := .int (iI (M 9 0))) rfl dX2_push_1 ?_
  refine z_bipush hx hb dX2_push_4 (by decide +kernel) ?_
  refine z_icmp_lt hx hb dX2_push_6 (tgt := 32) rfl (by omega) (by omega) (fun b1 => ?_) (fun b1 => ?_)
  · rw [if_pos b1] at hE
    refine lv_aload_n hx hb dX2_push_32 rfl (lv_at hl 0 rfl) ?_
    refine va_get (own := RX2) (ref := "NapkinSyntax$History") (C := RX2) (T := TX2) (N := 2) hx hb hts hinX2 hown hK hP 11 VC_11 rfl 1 (Nat.le_of_ble_eq_true rfl) (hts (.fieldLink RX2 17 "NapkinSyntax$History" "size" "I") (by decide +kernel)) (fun _ h => h) (v := .int (iI (M 9 0))) rfl dX2_push_33 ?_
    refine z_if_lt hx hb dX2_push_36 (tgt := 74) rfl (by omega) (fun b2 => ?_) (fun b2 => ?_)
    · rw [if_pos b2] at hE
      subst hE
      exact cv_v hx hb hr hlocks hS hP dX2_push_74
    · rw [if_neg b2] at hE
      refine lv_aload_n hx hb dX2_push_39 rfl (lv_at hl 1 rfl) ?_
      refine z_alenN (v := (80)) hx hb hK hP 17 0 VC_17 rfl rfl dX2_push_40 ?_
      refine z_bipush hx hb dX2_push_41 (by decide +kernel) ?_
      refine z_icmp_ne hx hb dX2_push_43 (tgt := 74) rfl (by omega) (by omega) (fun h => absurd h (by decide)) (fun h => ?_)
      refine lv_aload_n hx hb dX2_push_46 rfl (lv_at hl 1 rfl) ?_
      refine z_iconst hx hb dX2_push_47 ?_
      refine lv_aload_n hx hb dX2_push_48 rfl (lv_at hl 0 rfl) ?_
      refine va_get (own := RX2) (ref := "NapkinSyntax$History") (C := RX2) (T := TX2) (N := 2) hx hb hts hinX2 hown hK hP 11 VC_11 rfl 0 (Nat.le_of_ble_eq_true rfl) (hts (.fieldLink RX2 11 "NapkinSyntax$History" "cells" "[I") (by decide +kernel)) (fun _ h => h) (v := .ref (E 12)) rfl dX2_push_49 ?_
      refine lv_aload_n hx hb dX2_push_52 rfl (lv_at hl 0 rfl) ?_
      refine va_get (own := RX2) (ref := "NapkinSyntax$History") (C := RX2) (T := TX2) (N := 2) hx hb hts hinX2 hown hK hP 11 VC_11 rfl 1 (Nat.le_of_ble_eq_true rfl) (hts (.fieldLink RX2 17 "NapkinSyntax$History" "size" "I") (by decide +kernel)) (fun _ h => h) (v := .int (iI (M 9 0))) rfl dX2_push_53 ?_
      refine z_bipush hx hb dX2_push_56 (by decide +kernel) ?_
      refine z_imul hx hb dX2_push_58 ?_
      refine z_bipush hx hb dX2_push_59 (by decide +kernel) ?_
      refine z_copyi hx hb (hml.trans hl.1.symm) hown (hts (.methodLink RX2 21 arraycopyName) (by decide +kernel)) (hts (.native arraycopyName) (by decide +kernel)) (hts (.static arraycopyName) (by decide +kernel)) (hts (.initialized "java/lang/System") (by decide +kernel)) hK hP hD hS 17 12 0 VC_17 VC_12 rfl (by omega) (by omega) (by omega) (by omega) (by omega) (by decide) (by decide) (Nat.le_of_ble_eq_true rfl) (Nat.le_of_ble_eq_true rfl) dX2_push_61 VCc_14_8 (fun H locs hP hD hS => ?_)
      refine lv_aload_n hx hb dX2_push_64 rfl (lv_at hl 0 rfl) ?_
      refine lv_dup hx hb dX2_push_65 rfl ?_
      refine va_get (own := RX2) (ref := "NapkinSyntax$History") (C := RX2) (T := TX2) (N := 2) hx hb hts hinX2 hown hK hP 11 VC_11 rfl 1 (Nat.le_of_ble_eq_true rfl) (hts (.fieldLink RX2 17 "NapkinSyntax$History" "size" "I") (by decide +kernel)) (fun _ h => h) (v := .int (iI (M 9 0))) rfl dX2_push_66 ?_
      refine z_iconst hx hb dX2_push_69 ?_
      refine z_iadd hx hb dX2_push_70 ?_
      refine va_put (own := RX2) (ref := "NapkinSyntax$History") (C := RX2) (T := TX2) (N := 2) hx hb hts hinX2 tyX2 tyX2_ok nmX2 hown hK hP hD hS 11 VC_11 rfl 1 (Nat.le_of_ble_eq_true rfl) (hts (.fieldLink RX2 17 "NapkinSyntax$History" "size" "I") (by decide +kernel)) (fun _ h => h) rfl (ty := .int) (v := .int (iI ((M 9 0) + (1)))) (by decide +kernel) rfl rfl (Nat.le_of_ble_eq_true rfl) dX2_push_71 (fun H locs hP hD hS => ?_)
      rw [VCf_9] at hP hD
      subst hE
      exact cv_v hx hb hr hlocks hS hP dX2_push_74
  · rw [if_neg b1] at hE
    refine lv_aload_n hx hb dX2_push_9 rfl (lv_at hl 0 rfl) ?_
    refine va_get (own := RX2) (ref := "NapkinSyntax$History") (C := RX2) (T := TX2) (N := 2) hx hb hts hinX2 hown hK hP 11 VC_11 rfl 0 (Nat.le_of_ble_eq_true rfl) (hts (.fieldLink RX2 11 "NapkinSyntax$History" "cells" "[I") (by decide +kernel)) (fun _ h => h) (v := .ref (E 12)) rfl dX2_push_10 ?_
    refine z_bipush hx hb dX2_push_13 (by decide +kernel) ?_
    refine lv_aload_n hx hb dX2_push_15 rfl (lv_at hl 0 rfl) ?_
    refine va_get (own := RX2) (ref := "NapkinSyntax$History") (C := RX2) (T := TX2) (N := 2) hx hb hts hinX2 hown hK hP 11 VC_11 rfl 0 (Nat.le_of_ble_eq_true rfl) (hts (.fieldLink RX2 11 "NapkinSyntax$History" "cells" "[I") (by decide +kernel)) (fun _ h => h) (v := .ref (E 12)) rfl dX2_push_16 ?_
    refine z_iconst hx hb dX2_push_19 ?_
    refine z_sipush hx hb dX2_push_20 (by decide +kernel) ?_
    refine z_copyi hx hb (hml.trans hl.1.symm) hown (hts (.methodLink RX2 21 arraycopyName) (by decide +kernel)) (hts (.native arraycopyName) (by decide +kernel)) (hts (.static arraycopyName) (by decide +kernel)) (hts (.initialized "java/lang/System") (by decide +kernel)) hK hP hD hS 12 12 0 VC_12 VC_12 rfl (by omega) (by omega) (by omega) (by omega) (by omega) (by decide) (by decide) (Nat.le_of_ble_eq_true rfl) (Nat.le_of_ble_eq_true rfl) dX2_push_23 VCc_8_8 (fun H locs hP hD hS => ?_)
    refine lv_aload_n hx hb dX2_push_26 rfl (lv_at hl 0 rfl) ?_
    refine z_bipush hx hb dX2_push_27 (by decide +kernel) ?_
    refine va_put (own := RX2) (ref := "NapkinSyntax$History") (C := RX2) (T := TX2) (N := 2) hx hb hts hinX2 tyX2 tyX2_ok nmX2 hown hK hP hD hS 11 VC_11 rfl 1 (Nat.le_of_ble_eq_true rfl) (hts (.fieldLink RX2 17 "NapkinSyntax$History" "size" "I") (by decide +kernel)) (fun _ h => h) rfl (ty := .int) (v := .int (iI (7))) (by decide +kernel) rfl rfl (Nat.le_of_ble_eq_true rfl) dX2_push_29 (fun H locs hP hD hS => ?_)
    rw [VCf_9] at hP hD
    refine lv_aload_n hx hb dX2_push_32 rfl (lv_at hl 0 rfl) ?_
    refine va_get (own := RX2) (ref := "NapkinSyntax$History") (C := RX2) (T := TX2) (N := 2) hx hb hts hinX2 hown hK hP 11 VC_11 rfl 1 (Nat.le_of_ble_eq_true rfl) (hts (.fieldLink RX2 17 "NapkinSyntax$History" "size" "I") (by decide +kernel)) (fun _ h => h) (v := .int (iI (7))) rfl dX2_push_33 ?_
    refine z_if_lt hx hb dX2_push_36 (tgt := 74) rfl (by omega) (fun h => absurd h (by decide)) (fun h => ?_)
    refine lv_aload_n hx hb dX2_push_39 rfl (lv_at hl 1 rfl) ?_
    refine z_alenN (v := (80)) hx hb hK hP 17 0 VC_17 rfl rfl dX2_push_40 ?_
    refine z_bipush hx hb dX2_push_41 (by decide +kernel) ?_
    refine z_icmp_ne hx hb dX2_push_43 (tgt := 74) rfl (by omega) (by omega) (fun h => absurd h (by decide)) (fun h => ?_)
    refine lv_aload_n hx hb dX2_push_46 rfl (lv_at hl 1 rfl) ?_
    refine z_iconst hx hb dX2_push_47 ?_
    refine lv_aload_n hx hb dX2_push_48 rfl (lv_at hl 0 rfl) ?_
    refine va_get (own := RX2) (ref := "NapkinSyntax$History") (C := RX2) (T := TX2) (N := 2) hx hb hts hinX2 hown hK hP 11 VC_11 rfl 0 (Nat.le_of_ble_eq_true rfl) (hts (.fieldLink RX2 11 "NapkinSyntax$History" "cells" "[I") (by decide +kernel)) (fun _ h => h) (v := .ref (E 12)) rfl dX2_push_49 ?_
    refine lv_aload_n hx hb dX2_push_52 rfl (lv_at hl 0 rfl) ?_
    refine va_get (own := RX2) (ref := "NapkinSyntax$History") (C := RX2) (T := TX2) (N := 2) hx hb hts hinX2 hown hK hP 11 VC_11 rfl 1 (Nat.le_of_ble_eq_true rfl) (hts (.fieldLink RX2 17 "NapkinSyntax$History" "size" "I") (by decide +kernel)) (fun _ h => h) (v := .int (iI (7))) rfl dX2_push_53 ?_
    refine z_bipush hx hb dX2_push_56 (by decide +kernel) ?_
    refine z_imul hx hb dX2_push_58 ?_
    refine z_bipush hx hb dX2_push_59 (by decide +kernel) ?_
    refine z_copyi hx hb (hml.trans hl.1.symm) hown (hts (.methodLink RX2 21 arraycopyName) (by decide +kernel)) (hts (.native arraycopyName) (by decide +kernel)) (hts (.static arraycopyName) (by decide +kernel)) (hts (.initialized "java/lang/System") (by decide +kernel)) hK hP hD hS 17 12 0 VC_17 VC_12 rfl (by omega) (by omega) (by omega) (by omega) (by omega) (by decide) (by decide) (Nat.le_of_ble_eq_true rfl) (Nat.le_of_ble_eq_true rfl) dX2_push_61 VCc_14_8 (fun H locs hP hD hS => ?_)
    refine lv_aload_n hx hb dX2_push_64 rfl (lv_at hl 0 rfl) ?_
    refine lv_dup hx hb dX2_push_65 rfl ?_
    refine va_get (own := RX2) (ref := "NapkinSyntax$History") (C := RX2) (T := TX2) (N := 2) hx hb hts hinX2 hown hK hP 11 VC_11 rfl 1 (Nat.le_of_ble_eq_true rfl) (hts (.fieldLink RX2 17 "NapkinSyntax$History" "size" "I") (by decide +kernel)) (fun _ h => h) (v := .int (iI (7))) rfl dX2_push_66 ?_
    refine z_iconst hx hb dX2_push_69 ?_
    refine z_iadd hx hb dX2_push_70 ?_
    refine va_put (own := RX2) (ref := "NapkinSyntax$History") (C := RX2) (T := TX2) (N := 2) hx hb hts hinX2 tyX2 tyX2_ok nmX2 hown hK hP hD hS 11 VC_11 rfl 1 (Nat.le_of_ble_eq_true rfl) (hts (.fieldLink RX2 17 "NapkinSyntax$History" "size" "I") (by decide +kernel)) (fun _ h => h) rfl (ty := .int) (v := .int (iI ((7) + (1)))) (by decide +kernel) rfl rfl (Nat.le_of_ble_eq_true rfl) dX2_push_71 (fun H locs hP hD hS => ?_)
    rw [VCf_9] at hP hD
    subst hE
    exact cv_v hx hb hr hlocks hS hP dX2_push_74

theorem fr_fX2_push {M : Mem} {r : Nat} (h8 : Nat.beq r 8 = false) (h9 : Nat.beq r 9 = false) : (fX2_push M) r = M r := by
  unfold fX2_push
  (repeat' with_reducible refine frite_v (fun _ => ?_) (fun _ => ?_)) <;> first | with_reducible rfl | simp only [mst_o, msf_o, mcp_o, h8, h9]

def fX2_pop (M : Mem) : Mem := if ((M 9 0) ≤ 0) then M else if ((8) < (M 9 0)) then M else (mcp (msf M 9 ((M 9 0) - (1))) 8 (((M 9 0) - (1)) * (80)) 14 (0) (80))
set_option maxRecDepth 100000 in
set_option maxHeartbeats 4000000 in
theorem kX2_pop (l : Launch) (D : va_G) (E : Nat → Nat) (cI cC : ClassId) (Z : State → Prop) (hZo : ∀ M : Mem, ZOk (VC E cI cC M) Z) (hZb : ZBl Z) (M : Mem) (hN : 0 ≤ M 9 0 ∧ M 9 0 ≤ 8) (M' : Mem) (hE : fX2_pop M = M') : Cv l yX2_pop wsX2_pop 1 26 [.ref (E 11), .ref (E 17)] D (TY cI cC) (VC E cI cC) Z M M' := by
  refine Cv.of (cc := cX2_pop) (maxL := 2) (ret := none) (by decide +kernel) rfl (Nat.le_of_ble_eq_true rfl) ?_
  intro p e s m args below meth c ls hx hb hml hr hown hts hlocks hP hK hD hZ hS hl
  have hl : lv_has ls 2 [(0, .ref (E 11)), (1, .ref (E 17))] := hl
  have S0 : CallFix p m c cX2_pop 2 s args wsX2_pop RX2 := ⟨hx, hb, hml, hown, hts⟩
  have hinX2 : ∀ w ∈ u_ws RX2 TX2 2, w ∈ wsX2_pop := by decide +kernel
  rw [fX2_pop] at hE
  refine lv_aload_n hx hb dX2_pop_0 rfl (lv_at hl 0 rfl) ?_
  refine va_get (own := RX2) (ref := "NapkinSyntax$History") (C := RX2) (T := TX2) (N := 2) hx hb hts hinX2 hown hK hP 11 VC_11 rfl 1 (Nat.le_of_ble_eq_true rfl) (hts (.fieldLink RX2 17 "NapkinSyntax$History" "size" "I") (by decide +kernel)) (fun _ h => h) (v := .int (iI (M 9 0))) rfl dX2_pop_1 ?_
  refine z_if_le hx hb dX2_pop_4 (tgt := 51) rfl (by omega) (fun b1 => ?_) (fun b1 => ?_)
  · rw [if_pos b1] at hE
    subst hE
    exact cv_v hx hb hr hlocks hS hP dX2_pop_51
  · rw [if_neg b1] at hE
    refine lv_aload_n hx hb dX2_pop_7 rfl (lv_at hl 0 rfl) ?_
    refine va_get (own := RX2) (ref := "NapkinSyntax$History") (C := RX2) (T := TX2) (N := 2) hx hb hts hinX2 hown hK hP 11 VC_11 rfl 1 (Nat.le_of_ble_eq_true rfl) (hts (.fieldLink RX2 17 "NapkinSyntax$History" "size" "I") (by decide +kernel)) (fun _ h => h) (v := .int (iI (M 9 0))) rfl dX2_pop_8 ?_
    refine z_bipush hx hb dX2_pop_11 (by decide +kernel) ?_
    refine z_icmp_gt hx hb dX2_pop_13 (tgt := 51) rfl (by omega) (by omega) (fun b2 => ?_) (fun b2 => ?_)
    · rw [if_pos b2] at hE
      subst hE
      exact cv_v hx hb hr hlocks hS hP dX2_pop_51
    · rw [if_neg b2] at hE
      refine lv_aload_n hx hb dX2_pop_16 rfl (lv_at hl 1 rfl) ?_
      refine z_alenN (v := (80)) hx hb hK hP 17 0 VC_17 rfl rfl dX2_pop_17 ?_
      refine z_bipush hx hb dX2_pop_18 (by decide +kernel) ?_
      refine z_icmp_ne hx hb dX2_pop_20 (tgt := 51) rfl (by omega) (by omega) (fun h => absurd h (by decide)) (fun h => ?_)
      refine lv_aload_n hx hb dX2_pop_23 rfl (lv_at hl 0 rfl) ?_
      refine lv_dup hx hb dX2_pop_24 rfl ?_
      refine va_get (own := RX2) (ref := "NapkinSyntax$History") (C := RX2) (T := TX2) (N := 2) hx hb hts hinX2 hown hK hP 11 VC_11 rfl 1 (Nat.le_of_ble_eq_true rfl) (hts (.fieldLink RX2 17 "NapkinSyntax$History" "size" "I") (by decide +kernel)) (fun _ h => h) (v := .int (iI (M 9 0))) rfl dX2_pop_25 ?_
      refine z_iconst hx hb dX2_pop_28 ?_
      refine z_isub hx hb dX2_pop_29 ?_
      refine va_put (own := RX2) (ref := "NapkinSyntax$History") (C := RX2) (T := TX2) (N := 2) hx hb hts hinX2 tyX2 tyX2_ok nmX2 hown hK hP hD hS 11 VC_11 rfl 1 (Nat.le_of_ble_eq_true rfl) (hts (.fieldLink RX2 17 "NapkinSyntax$History" "size" "I") (by decide +kernel)) (fun _ h => h) rfl (ty := .int) (v := .int (iI ((M 9 0) - (1)))) (by decide +kernel) rfl rfl (Nat.le_of_ble_eq_true rfl) dX2_pop_30 (fun H locs hP hD hS => ?_)
      rw [VCf_9] at hP hD
      refine lv_aload_n hx hb dX2_pop_33 rfl (lv_at hl 0 rfl) ?_
      refine va_get (own := RX2) (ref := "NapkinSyntax$History") (C := RX2) (T := TX2) (N := 2) hx hb hts hinX2 hown hK hP 11 VC_11 rfl 0 (Nat.le_of_ble_eq_true rfl) (hts (.fieldLink RX2 11 "NapkinSyntax$History" "cells" "[I") (by decide +kernel)) (fun _ h => h) (v := .ref (E 12)) rfl dX2_pop_34 ?_
      refine lv_aload_n hx hb dX2_pop_37 rfl (lv_at hl 0 rfl) ?_
      refine va_get (own := RX2) (ref := "NapkinSyntax$History") (C := RX2) (T := TX2) (N := 2) hx hb hts hinX2 hown hK hP 11 VC_11 rfl 1 (Nat.le_of_ble_eq_true rfl) (hts (.fieldLink RX2 17 "NapkinSyntax$History" "size" "I") (by decide +kernel)) (fun _ h => h) (v := .int (iI ((M 9 0) - (1)))) rfl dX2_pop_38 ?_
      refine z_bipush hx hb dX2_pop_41 (by decide +kernel) ?_
      refine z_imul hx hb dX2_pop_43 ?_
      refine lv_aload_n hx hb dX2_pop_44 rfl (lv_at hl 1 rfl) ?_
      refine z_iconst hx hb dX2_pop_45 ?_
      refine z_bipush hx hb dX2_pop_46 (by decide +kernel) ?_
      refine z_copyi hx hb (hml.trans hl.1.symm) hown (hts (.methodLink RX2 21 arraycopyName) (by decide +kernel)) (hts (.native arraycopyName) (by decide +kernel)) (hts (.static arraycopyName) (by decide +kernel)) (hts (.initialized "java/lang/System") (by decide +kernel)) hK hP hD hS 12 17 0 VC_12 VC_17 rfl (by omega) (by omega) (by omega) (by omega) (by omega) (by decide) (by decide) (Nat.le_of_ble_eq_true rfl) (Nat.le_of_ble_eq_true rfl) dX2_pop_48 VCc_8_14 (fun H locs hP hD hS => ?_)
      subst hE
      exact cv_v hx hb hr hlocks hS hP dX2_pop_51

theorem fr_fX2_pop {M : Mem} {r : Nat} (h9 : Nat.beq r 9 = false) (h14 : Nat.beq r 14 = false) : (fX2_pop M) r = M r := by
  unfold fX2_pop
  (repeat' with_reducible refine frite_v (fun _ => ?_) (fun _ => ?_)) <;> first | with_reducible rfl | simp only [mst_o, msf_o, mcp_o, h9, h14]

def fX3_length (M : Mem) : Int := (M 13 0)
set_option maxRecDepth 100000 in
set_option maxHeartbeats 4000000 in
theorem kX3_length (l : Launch) (D : va_G) (E : Nat → Nat) (cI cC : ClassId) (Z : State → Prop) (hZo : ∀ M : Mem, ZOk (VC E cI cC M) Z) (hZb : ZBl Z) (M : Mem)  (r : Int) (hE : fX3_length M = r) : Ci l yX3_length wsX3_length 0 0 [.ref (E 15)] D (TY cI cC) (VC E cI cC) Z M r M := by
  refine Ci.of (cc := cX3_length) (maxL := 1) (ret := (some .int)) (by decide +kernel) rfl (Nat.le_of_ble_eq_true rfl) ?_
  intro p e s m args below meth c ls hx hb hml hr hown hts hlocks hP hK hD hZ hS hl
  have hl : lv_has ls 1 [(0, .ref (E 15))] := hl
  have S0 : CallFix p m c cX3_length 1 s args wsX3_length RX3 := ⟨hx, hb, hml, hown, hts⟩
  have hinX3 : ∀ w ∈ u_ws RX3 TX3 2, w ∈ wsX3_length := by decide +kernel
  rw [fX3_length] at hE
  refine lv_aload_n hx hb dX3_length_0 rfl (lv_at hl 0 rfl) ?_
  refine va_get (own := RX3) (ref := "NapkinSyntax$Line") (C := RX3) (T := TX3) (N := 2) hx hb hts hinX3 hown hK hP 15 VC_15 rfl 1 (Nat.le_of_ble_eq_true rfl) (hts (.fieldLink RX3 13 "NapkinSyntax$Line" "length" "I") (by decide +kernel)) (fun _ h => h) (v := .int (iI (M 13 0))) rfl dX3_length_1 ?_
  exact ci_i hx hb hr hlocks hE rfl hS hP dX3_length_4

def fX3_empty (M : Mem) : Mem := (msf M 13 (0))
set_option maxRecDepth 100000 in
set_option maxHeartbeats 4000000 in
theorem kX3_empty (l : Launch) (D : va_G) (E : Nat → Nat) (cI cC : ClassId) (Z : State → Prop) (hZo : ∀ M : Mem, ZOk (VC E cI cC M) Z) (hZb : ZBl Z) (M : Mem)  (M' : Mem) (hE : fX3_empty M = M') : Cv l yX3_empty wsX3_empty 0 0 [.ref (E 15)] D (TY cI cC) (VC E cI cC) Z M M' := by
  refine Cv.of (cc := cX3_empty) (maxL := 1) (ret := none) (by decide +kernel) rfl (Nat.le_of_ble_eq_true rfl) ?_
  intro p e s m args below meth c ls hx hb hml hr hown hts hlocks hP hK hD hZ hS hl
  have hl : lv_has ls 1 [(0, .ref (E 15))] := hl
  have S0 : CallFix p m c cX3_empty 1 s args wsX3_empty RX3 := ⟨hx, hb, hml, hown, hts⟩
  have hinX3 : ∀ w ∈ u_ws RX3 TX3 2, w ∈ wsX3_empty := by decide +kernel
  rw [fX3_empty] at hE
  refine lv_aload_n hx hb dX3_empty_0 rfl (lv_at hl 0 rfl) ?_
  refine z_iconst hx hb dX3_empty_1 ?_
  refine va_put (own := RX3) (ref := "NapkinSyntax$Line") (C := RX3) (T := TX3) (N := 2) hx hb hts hinX3 tyX3 tyX3_ok nmX3 hown hK hP hD hS 15 VC_15 rfl 1 (Nat.le_of_ble_eq_true rfl) (hts (.fieldLink RX3 13 "NapkinSyntax$Line" "length" "I") (by decide +kernel)) (fun _ h => h) rfl (ty := .int) (v := .int (iI (0))) (by decide +kernel) rfl rfl (Nat.le_of_ble_eq_true rfl) dX3_empty_2 (fun H locs hP hD hS => ?_)
  rw [VCf_13] at hP hD
  subst hE
  exact cv_v hx hb hr hlocks hS hP dX3_empty_5

theorem fr_fX3_empty {M : Mem} {r : Nat} (h13 : Nat.beq r 13 = false) : (fX3_empty M) r = M r := by
  unfold fX3_empty
  (repeat' with_reducible refine frite_v (fun _ => ?_) (fun _ => ?_)) <;> first | with_reducible rfl | simp only [mst_o, msf_o, mcp_o, h13]

def fX3_add (M : Mem) (sign : Int) : Mem := if ((M 13 0) < 0) then M else if ((23) ≤ (M 13 0)) then M else (msf (mst M 12 (M 13 0) sign) 13 ((M 13 0) + (1)))
set_option maxRecDepth 100000 in
set_option maxHeartbeats 4000000 in
theorem kX3_add (l : Launch) (D : va_G) (E : Nat → Nat) (cI cC : ClassId) (Z : State → Prop) (hZo : ∀ M : Mem, ZOk (VC E cI cC M) Z) (hZb : ZBl Z) (M : Mem) (sign : Int) (h1 : 0 ≤ sign ∧ sign < 65536) (hN : 0 ≤ M 13 0 ∧ M 13 0 ≤ 23) (M' : Mem) (hE : fX3_add M sign = M') : Cv l yX3_add wsX3_add 0 0 [.ref (E 15), .int (iI sign)] D (TY cI cC) (VC E cI cC) Z M M' := by
  refine Cv.of (cc := cX3_add) (maxL := 2) (ret := none) (by decide +kernel) rfl (Nat.le_of_ble_eq_true rfl) ?_
  intro p e s m args below meth c ls hx hb hml hr hown hts hlocks hP hK hD hZ hS hl
  have hl : lv_has ls 2 [(0, .ref (E 15)), (1, .int (iI sign))] := hl
  have S0 : CallFix p m c cX3_add 2 s args wsX3_add RX3 := ⟨hx, hb, hml, hown, hts⟩
  have hinX3 : ∀ w ∈ u_ws RX3 TX3 2, w ∈ wsX3_add := by decide +kernel
  rw [fX3_add] at hE
  refine lv_aload_n hx hb dX3_add_0 rfl (lv_at hl 0 rfl) ?_
  refine va_get (own := RX3) (ref := "NapkinSyntax$Line") (C := RX3) (T := TX3) (N := 2) hx hb hts hinX3 hown hK hP 15 VC_15 rfl 1 (Nat.le_of_ble_eq_true rfl) (hts (.fieldLink RX3 13 "NapkinSyntax$Line" "length" "I") (by decide +kernel)) (fun _ h => h) (v := .int (iI (M 13 0))) rfl dX3_add_1 ?_
  refine z_if_lt hx hb dX3_add_4 (tgt := 36) rfl (by omega) (fun b1 => ?_) (fun b1 => ?_)
  · rw [if_pos b1] at hE
    subst hE
    exact cv_v hx hb hr hlocks hS hP dX3_add_36
  · rw [if_neg b1] at hE
    refine lv_aload_n hx hb dX3_add_7 rfl (lv_at hl 0 rfl) ?_
    refine va_get (own := RX3) (ref := "NapkinSyntax$Line") (C := RX3) (T := TX3) (N := 2) hx hb hts hinX3 hown hK hP 15 VC_15 rfl 1 (Nat.le_of_ble_eq_true rfl) (hts (.fieldLink RX3 13 "NapkinSyntax$Line" "length" "I") (by decide +kernel)) (fun _ h => h) (v := .int (iI (M 13 0))) rfl dX3_add_8 ?_
    refine z_bipush hx hb dX3_add_11 (by decide +kernel) ?_
    refine z_icmp_ge hx hb dX3_add_13 (tgt := 36) rfl (by omega) (by omega) (fun b2 => ?_) (fun b2 => ?_)
    · rw [if_pos b2] at hE
      subst hE
      exact cv_v hx hb hr hlocks hS hP dX3_add_36
    · rw [if_neg b2] at hE
      refine lv_aload_n hx hb dX3_add_16 rfl (lv_at hl 0 rfl) ?_
      refine va_get (own := RX3) (ref := "NapkinSyntax$Line") (C := RX3) (T := TX3) (N := 2) hx hb hts hinX3 hown hK hP 15 VC_15 rfl 0 (Nat.le_of_ble_eq_true rfl) (hts (.fieldLink RX3 9 "NapkinSyntax$Line" "signs" "[C") (by decide +kernel)) (fun _ h => h) (v := .ref (E 16)) rfl dX3_add_17 ?_
      refine lv_aload_n hx hb dX3_add_20 rfl (lv_at hl 0 rfl) ?_
      refine va_get (own := RX3) (ref := "NapkinSyntax$Line") (C := RX3) (T := TX3) (N := 2) hx hb hts hinX3 hown hK hP 15 VC_15 rfl 1 (Nat.le_of_ble_eq_true rfl) (hts (.fieldLink RX3 13 "NapkinSyntax$Line" "length" "I") (by decide +kernel)) (fun _ h => h) (v := .int (iI (M 13 0))) rfl dX3_add_21 ?_
      refine lv_iload_n hx hb dX3_add_24 rfl (lv_at hl 1 rfl) ?_
      refine z_cast hx hb hK hP hD hS 16 1 VC_16 rfl (by omega) (by omega) (by decide) (by omega) (by omega) dX3_add_25 VCw_12 (fun H locs hP hD hS => ?_)
      refine lv_aload_n hx hb dX3_add_26 rfl (lv_at hl 0 rfl) ?_
      refine lv_dup hx hb dX3_add_27 rfl ?_
      refine va_get (own := RX3) (ref := "NapkinSyntax$Line") (C := RX3) (T := TX3) (N := 2) hx hb hts hinX3 hown hK hP 15 VC_15 rfl 1 (Nat.le_of_ble_eq_true rfl) (hts (.fieldLink RX3 13 "NapkinSyntax$Line" "length" "I") (by decide +kernel)) (fun _ h => h) (v := .int (iI (M 13 0))) rfl dX3_add_28 ?_
      refine z_iconst hx hb dX3_add_31 ?_
      refine z_iadd hx hb dX3_add_32 ?_
      refine va_put (own := RX3) (ref := "NapkinSyntax$Line") (C := RX3) (T := TX3) (N := 2) hx hb hts hinX3 tyX3 tyX3_ok nmX3 hown hK hP hD hS 15 VC_15 rfl 1 (Nat.le_of_ble_eq_true rfl) (hts (.fieldLink RX3 13 "NapkinSyntax$Line" "length" "I") (by decide +kernel)) (fun _ h => h) rfl (ty := .int) (v := .int (iI ((M 13 0) + (1)))) (by decide +kernel) rfl rfl (Nat.le_of_ble_eq_true rfl) dX3_add_33 (fun H locs hP hD hS => ?_)
      rw [VCf_13] at hP hD
      subst hE
      exact cv_v hx hb hr hlocks hS hP dX3_add_36

theorem fr_fX3_add {M : Mem} (sign : Int) {r : Nat} (h12 : Nat.beq r 12 = false) (h13 : Nat.beq r 13 = false) : (fX3_add M sign) r = M r := by
  unfold fX3_add
  (repeat' with_reducible refine frite_v (fun _ => ?_) (fun _ => ?_)) <;> first | with_reducible rfl | simp only [mst_o, msf_o, mcp_o, h12, h13]

def fX3_addDigit (M : Mem) (digit : Int) : Mem := (fX3_add M ((48) + digit))
set_option maxRecDepth 100000 in
set_option maxHeartbeats 4000000 in
theorem kX3_addDigit (l : Launch) (D : va_G) (E : Nat → Nat) (cI cC : ClassId) (Z : State → Prop) (hZo : ∀ M : Mem, ZOk (VC E cI cC M) Z) (hZb : ZBl Z) (M : Mem) (digit : Int) (h1 : -1 ≤ digit ∧ digit ≤ 9) (hN : 0 ≤ M 13 0 ∧ M 13 0 ≤ 23) (M' : Mem) (hE : fX3_addDigit M digit = M') : Cv l yX3_addDigit wsX3_addDigit 1 21 [.ref (E 15), .int (iI digit)] D (TY cI cC) (VC E cI cC) Z M M' := by
  refine Cv.of (cc := cX3_addDigit) (maxL := 2) (ret := none) (by decide +kernel) rfl (Nat.le_of_ble_eq_true rfl) ?_
  intro p e s m args below meth c ls hx hb hml hr hown hts hlocks hP hK hD hZ hS hl
  have hl : lv_has ls 2 [(0, .ref (E 15)), (1, .int (iI digit))] := hl
  have S0 : CallFix p m c cX3_addDigit 2 s args wsX3_addDigit RX3 := ⟨hx, hb, hml, hown, hts⟩
  rw [fX3_addDigit] at hE
  refine lv_aload_n hx hb dX3_addDigit_0 rfl (lv_at hl 0 rfl) ?_
  refine z_bipush hx hb dX3_addDigit_1 (by decide +kernel) ?_
  refine lv_iload_n hx hb dX3_addDigit_3 rfl (lv_at hl 1 rfl) ?_
  refine z_iadd hx hb dX3_addDigit_4 ?_
  refine z_i2c hx hb dX3_addDigit_5 (by omega) (by omega) ?_
  refine ct_Vv (VC_fix E cI cC) hZo hZb hZ S0 (kX3_add l D E cI cC Z hZo hZb M ((48) + digit) (by omega) (by omega) (fX3_add M ((48) + digit)) rfl) (cwV 1 hts gX3_addDigit_X3_add rfl rfl rfl (by decide +kernel) ⟨(Nat.le_of_ble_eq_true rfl), (Nat.le_of_ble_eq_true rfl)⟩) hK hP hD hS rfl rfl VC_15 rfl hl.1 rfl (Nat.le_of_ble_eq_true rfl) dX3_addDigit_6 ⟨Nat.zero_le _, Nat.zero_le _⟩ (fun H locs hP hD hS => ?_)
  subst hE
  exact cv_v hx hb hr hlocks hS hP dX3_addDigit_9

theorem fr_fX3_addDigit {M : Mem} (digit : Int) {r : Nat} (h12 : Nat.beq r 12 = false) (h13 : Nat.beq r 13 = false) : (fX3_addDigit M digit) r = M r := by
  unfold fX3_addDigit
  (repeat' with_reducible refine frite_v (fun _ => ?_) (fun _ => ?_)) <;> first | with_reducible rfl | simp only [mst_o, msf_o, mcp_o, fr_fX3_add, h12, h13]

def fX3_at (M : Mem) (index : Int) : Int := if (index < 0) then (32) else if ((M 13 0) ≤ index) then (32) else if ((23) ≤ index) then (32) else (M 12 index)
set_option maxRecDepth 100000 in
set_option maxHeartbeats 4000000 in
theorem kX3_at (l : Launch) (D : va_G) (E : Nat → Nat) (cI cC : ClassId) (Z : State → Prop) (hZo : ∀ M : Mem, ZOk (VC E cI cC M) Z) (hZb : ZBl Z) (M : Mem) (index : Int) (h1 : -2147483648 ≤ index ∧ index < 2147483648) (hN : 0 ≤ M 13 0 ∧ M 13 0 ≤ 23) (hU : ∀ j : Int, 0 ≤ j → j < 23 → 0 ≤ M 12 j ∧ M 12 j < 65536) (r : Int) (hE : fX3_at M index = r) : Ci l yX3_at wsX3_at 0 0 [.ref (E 15), .int (iI index)] D (TY cI cC) (VC E cI cC) Z M r M := by
  refine Ci.of (cc := cX3_at) (maxL := 2) (ret := (some .char)) (by decide +kernel) rfl (Nat.le_of_ble_eq_true rfl) ?_
  intro p e s m args below meth c ls hx hb hml hr hown hts hlocks hP hK hD hZ hS hl
  have hl : lv_has ls 2 [(0, .ref (E 15)), (1, .int (iI index))] := hl
  have S0 : CallFix p m c cX3_at 2 s args wsX3_at RX3 := ⟨hx, hb, hml, hown, hts⟩
  have hinX3 : ∀ w ∈ u_ws RX3 TX3 2, w ∈ wsX3_at := by decide +kernel
  rw [fX3_at] at hE
  refine lv_iload_n hx hb dX3_at_0 rfl (lv_at hl 1 rfl) ?_
  refine z_if_lt hx hb dX3_at_1 (tgt := 27) rfl (by omega) (fun b1 => ?_) (fun b1 => ?_)
  · rw [if_pos b1] at hE
    refine z_bipush hx hb dX3_at_27 (by decide +kernel) ?_
    exact ci_i hx hb hr hlocks hE (nr_c (by omega) (by omega)) hS hP dX3_at_29
  · rw [if_neg b1] at hE
    refine lv_iload_n hx hb dX3_at_4 rfl (lv_at hl 1 rfl) ?_
    refine lv_aload_n hx hb dX3_at_5 rfl (lv_at hl 0 rfl) ?_
    refine va_get (own := RX3) (ref := "NapkinSyntax$Line") (C := RX3) (T := TX3) (N := 2) hx hb hts hinX3 hown hK hP 15 VC_15 rfl 1 (Nat.le_of_ble_eq_true rfl) (hts (.fieldLink RX3 13 "NapkinSyntax$Line" "length" "I") (by decide +kernel)) (fun _ h => h) (v := .int (iI (M 13 0))) rfl dX3_at_6 ?_
    refine z_icmp_ge hx hb dX3_at_9 (tgt := 27) rfl (by omega) (by omega) (fun b2 => ?_) (fun b2 => ?_)
    · rw [if_pos b2] at hE
      refine z_bipush hx hb dX3_at_27 (by decide +kernel) ?_
      exact ci_i hx hb hr hlocks hE (nr_c (by omega) (by omega)) hS hP dX3_at_29
    · rw [if_neg b2] at hE
      refine lv_iload_n hx hb dX3_at_12 rfl (lv_at hl 1 rfl) ?_
      refine z_bipush hx hb dX3_at_13 (by decide +kernel) ?_
      refine z_icmp_ge hx hb dX3_at_15 (tgt := 27) rfl (by omega) (by omega) (fun b3 => ?_) (fun b3 => ?_)
      · rw [if_pos b3] at hE
        refine z_bipush hx hb dX3_at_27 (by decide +kernel) ?_
        exact ci_i hx hb hr hlocks hE (nr_c (by omega) (by omega)) hS hP dX3_at_29
      · rw [if_neg b3] at hE
        refine lv_aload_n hx hb dX3_at_18 rfl (lv_at hl 0 rfl) ?_
        refine va_get (own := RX3) (ref := "NapkinSyntax$Line") (C := RX3) (T := TX3) (N := 2) hx hb hts hinX3 hown hK hP 15 VC_15 rfl 0 (Nat.le_of_ble_eq_true rfl) (hts (.fieldLink RX3 9 "NapkinSyntax$Line" "signs" "[C") (by decide +kernel)) (fun _ h => h) (v := .ref (E 16)) rfl dX3_at_19 ?_
        refine lv_iload_n hx hb dX3_at_22 rfl (lv_at hl 1 rfl) ?_
        refine z_cald hx hb hK hP 16 1 VC_16 rfl (by omega) (by omega) (by decide) dX3_at_23 ?_
        have q4 := hU index (by omega) (by omega)
        refine lv_goto hx hb dX3_at_24 (tgt := 29) rfl ?_
        exact ci_i hx hb hr hlocks hE (nr_c (by omega) (by omega)) hS hP dX3_at_29


def TI (M : Mem) : Prop := (0 ≤ M 11 0 ∧ M 11 0 ≤ 60) ∧ ∀ j : Int, 0 ≤ j → j < 60 → 0 ≤ M 10 j ∧ M 10 j < 65536

def fX7_length (M : Mem) : Int := (M 11 0)
set_option maxRecDepth 100000 in
set_option maxHeartbeats 4000000 in
theorem kX7_length (l : Launch) (D : va_G) (E : Nat → Nat) (cI cC : ClassId) (Z : State → Prop) (hZo : ∀ M : Mem, ZOk (VC E cI cC M) Z) (hZb : ZBl Z) (M : Mem) (hT : TI M) (r : Int) (hE : fX7_length M = r) : Ci l yX7_length wsX7_length 0 0 [.ref (E 13)] D (TY cI cC) (VC E cI cC) Z M r M := by
  refine Ci.of (cc := cX7_length) (maxL := 1) (ret := (some .int)) (by decide +kernel) rfl (Nat.le_of_ble_eq_true rfl) ?_
  intro p e s m args below meth c ls hx hb hml hr hown hts hlocks hP hK hD hZ hS hl
  have hl : lv_has ls 1 [(0, .ref (E 13))] := hl
  have S0 : CallFix p m c cX7_length 1 s args wsX7_length RX7 := ⟨hx, hb, hml, hown, hts⟩
  have hinX7 : ∀ w ∈ u_ws RX7 TX7 2, w ∈ wsX7_length := by decide +kernel
  rw [fX7_length] at hE
  refine lv_aload_n hx hb dX7_length_0 rfl (lv_at hl 0 rfl) ?_
  refine va_get (own := RX7) (ref := "NapkinSyntax$Text") (C := RX7) (T := TX7) (N := 2) hx hb hts hinX7 hown hK hP 13 VC_13 rfl 1 (Nat.le_of_ble_eq_true rfl) (hts (.fieldLink RX7 15 "NapkinSyntax$Text" "length" "I") (by decide +kernel)) (fun _ h => h) (v := .int (iI (M 11 0))) rfl dX7_length_1 ?_
  have q1 := hT.1
  exact ci_i hx hb hr hlocks hE rfl hS hP dX7_length_4

def fX7_isFull (M : Mem) : Int := if ((M 11 0) < (60)) then (0) else (1)
set_option maxRecDepth 100000 in
set_option maxHeartbeats 4000000 in
theorem kX7_isFull (l : Launch) (D : va_G) (E : Nat → Nat) (cI cC : ClassId) (Z : State → Prop) (hZo : ∀ M : Mem, ZOk (VC E cI cC M) Z) (hZb : ZBl Z) (M : Mem) (hT : TI M) (r : Int) (hE : fX7_isFull M = r) : Ci l yX7_isFull wsX7_isFull 0 0 [.ref (E 13)] D (TY cI cC) (VC E cI cC) Z M r M := by
  refine Ci.of (cc := cX7_isFull) (maxL := 1) (ret := (some .boolean)) (by decide +kernel) rfl (Nat.le_of_ble_eq_true rfl) ?_
  intro p e s m args below meth c ls hx hb hml hr hown hts hlocks hP hK hD hZ hS hl
  have hl : lv_has ls 1 [(0, .ref (E 13))] := hl
  have S0 : CallFix p m c cX7_isFull 1 s args wsX7_isFull RX7 := ⟨hx, hb, hml, hown, hts⟩
  have hinX7 : ∀ w ∈ u_ws RX7 TX7 2, w ∈ wsX7_isFull := by decide +kernel
  rw [fX7_isFull] at hE
  refine lv_aload_n hx hb dX7_isFull_0 rfl (lv_at hl 0 rfl) ?_
  refine va_get (own := RX7) (ref := "NapkinSyntax$Text") (C := RX7) (T := TX7) (N := 2) hx hb hts hinX7 hown hK hP 13 VC_13 rfl 1 (Nat.le_of_ble_eq_true rfl) (hts (.fieldLink RX7 15 "NapkinSyntax$Text" "length" "I") (by decide +kernel)) (fun _ h => h) (v := .int (iI (M 11 0))) rfl dX7_isFull_1 ?_
  have q1 := hT.1
  refine z_bipush hx hb dX7_isFull_4 (by decide +kernel) ?_
  refine z_icmp_lt hx hb dX7_isFull_6 (tgt := 13) rfl (by omega) (by omega) (fun b2 => ?_) (fun b2 => ?_)
  · rw [if_pos b2] at hE
    refine z_iconst hx hb dX7_isFull_13 ?_
    exact ci_i hx hb hr hlocks hE nr_b0 hS hP dX7_isFull_14
  · rw [if_neg b2] at hE
    refine z_iconst hx hb dX7_isFull_9 ?_
    refine lv_goto hx hb dX7_isFull_10 (tgt := 14) rfl ?_
    exact ci_i hx hb hr hlocks hE nr_b1 hS hP dX7_isFull_14


theorem bX7_isFull (M : Mem) : 0 ≤ fX7_isFull M ∧ fX7_isFull M ≤ 1 := by unfold fX7_isFull; (repeat' split) <;> omega

def fX7_empty (M : Mem) : Mem := (msf M 11 (0))
set_option maxRecDepth 100000 in
set_option maxHeartbeats 4000000 in
theorem kX7_empty (l : Launch) (D : va_G) (E : Nat → Nat) (cI cC : ClassId) (Z : State → Prop) (hZo : ∀ M : Mem, ZOk (VC E cI cC M) Z) (hZb : ZBl Z) (M : Mem)  (M' : Mem) (hE : fX7_empty M = M') : Cv l yX7_empty wsX7_empty 0 0 [.ref (E 13)] D (TY cI cC) (VC E cI cC) Z M M' := by
  refine Cv.of (cc := cX7_empty) (maxL := 1) (ret := none) (by decide +kernel) rfl (Nat.le_of_ble_eq_true rfl) ?_
  intro p e s m args below meth c ls hx hb hml hr hown hts hlocks hP hK hD hZ hS hl
  have hl : lv_has ls 1 [(0, .ref (E 13))] := hl
  have S0 : CallFix p m c cX7_empty 1 s args wsX7_empty RX7 := ⟨hx, hb, hml, hown, hts⟩
  have hinX7 : ∀ w ∈ u_ws RX7 TX7 2, w ∈ wsX7_empty := by decide +kernel
  rw [fX7_empty] at hE
  refine lv_aload_n hx hb dX7_empty_0 rfl (lv_at hl 0 rfl) ?_
  refine z_iconst hx hb dX7_empty_1 ?_
  refine va_put (own := RX7) (ref := "NapkinSyntax$Text") (C := RX7) (T := TX7) (N := 2) hx hb hts hinX7 tyX7 tyX7_ok nmX7 hown hK hP hD hS 13 VC_13 rfl 1 (Nat.le_of_ble_eq_true rfl) (hts (.fieldLink RX7 15 "NapkinSyntax$Text" "length" "I") (by decide +kernel)) (fun _ h => h) rfl (ty := .int) (v := .int (iI (0))) (by decide +kernel) rfl rfl (Nat.le_of_ble_eq_true rfl) dX7_empty_2 (fun H locs hP hD hS => ?_)
  rw [VCf_11] at hP hD
  subst hE
  exact cv_v hx hb hr hlocks hS hP dX7_empty_5

theorem fr_fX7_empty {M : Mem} {r : Nat} (h11 : Nat.beq r 11 = false) : (fX7_empty M) r = M r := by
  unfold fX7_empty
  (repeat' with_reducible refine frite_v (fun _ => ?_) (fun _ => ?_)) <;> first | with_reducible rfl | simp only [mst_o, msf_o, mcp_o, h11]

def fX7_append (M : Mem) (sign : Int) : Mem := if ((M 11 0) < 0) then M else if ((60) ≤ (M 11 0)) then M else (msf (mst M 10 (M 11 0) sign) 11 ((M 11 0) + (1)))
set_option maxRecDepth 100000 in
set_option maxHeartbeats 4000000 in
theorem kX7_append (l : Launch) (D : va_G) (E : Nat → Nat) (cI cC : ClassId) (Z : State → Prop) (hZo : ∀ M : Mem, ZOk (VC E cI cC M) Z) (hZb : ZBl Z) (M : Mem) (sign : Int) (h1 : 0 ≤ sign ∧ sign < 65536) (hT : TI M) (M' : Mem) (hE : fX7_append M sign = M') : Cv l yX7_append wsX7_append 0 0 [.ref (E 13), .int (iI sign)] D (TY cI cC) (VC E cI cC) Z M M' := by
  refine Cv.of (cc := cX7_append) (maxL := 2) (ret := none) (by decide +kernel) rfl (Nat.le_of_ble_eq_true rfl) ?_
  intro p e s m args below meth c ls hx hb hml hr hown hts hlocks hP hK hD hZ hS hl
  have hl : lv_has ls 2 [(0, .ref (E 13)), (1, .int (iI sign))] := hl
  have S0 : CallFix p m c cX7_append 2 s args wsX7_append RX7 := ⟨hx, hb, hml, hown, hts⟩
  have hinX7 : ∀ w ∈ u_ws RX7 TX7 2, w ∈ wsX7_append := by decide +kernel
  rw [fX7_append] at hE
  refine lv_aload_n hx hb dX7_append_0 rfl (lv_at hl 0 rfl) ?_
  refine va_get (own := RX7) (ref := "NapkinSyntax$Text") (C := RX7) (T := TX7) (N := 2) hx hb hts hinX7 hown hK hP 13 VC_13 rfl 1 (Nat.le_of_ble_eq_true rfl) (hts (.fieldLink RX7 15 "NapkinSyntax$Text" "length" "I") (by decide +kernel)) (fun _ h => h) (v := .int (iI (M 11 0))) rfl dX7_append_1 ?_
  have q1 := hT.1
  refine z_if_lt hx hb dX7_append_4 (tgt := 36) rfl (by omega) (fun b2 => ?_) (fun b2 => ?_)
  · rw [if_pos b2] at hE
    subst hE
    exact cv_v hx hb hr hlocks hS hP dX7_append_36
  · rw [if_neg b2] at hE
    refine lv_aload_n hx hb dX7_append_7 rfl (lv_at hl 0 rfl) ?_
    refine va_get (own := RX7) (ref := "NapkinSyntax$Text") (C := RX7) (T := TX7) (N := 2) hx hb hts hinX7 hown hK hP 13 VC_13 rfl 1 (Nat.le_of_ble_eq_true rfl) (hts (.fieldLink RX7 15 "NapkinSyntax$Text" "length" "I") (by decide +kernel)) (fun _ h => h) (v := .int (iI (M 11 0))) rfl dX7_append_8 ?_
    have q3 := hT.1
    refine z_bipush hx hb dX7_append_11 (by decide +kernel) ?_
    refine z_icmp_ge hx hb dX7_append_13 (tgt := 36) rfl (by omega) (by omega) (fun b4 => ?_) (fun b4 => ?_)
    · rw [if_pos b4] at hE
      subst hE
      exact cv_v hx hb hr hlocks hS hP dX7_append_36
    · rw [if_neg b4] at hE
      refine lv_aload_n hx hb dX7_append_16 rfl (lv_at hl 0 rfl) ?_
      refine va_get (own := RX7) (ref := "NapkinSyntax$Text") (C := RX7) (T := TX7) (N := 2) hx hb hts hinX7 hown hK hP 13 VC_13 rfl 0 (Nat.le_of_ble_eq_true rfl) (hts (.fieldLink RX7 9 "NapkinSyntax$Text" "signs" "[C") (by decide +kernel)) (fun _ h => h) (v := .ref (E 14)) rfl dX7_append_17 ?_
      refine lv_aload_n hx hb dX7_append_20 rfl (lv_at hl 0 rfl) ?_
      refine va_get (own := RX7) (ref := "NapkinSyntax$Text") (C := RX7) (T := TX7) (N := 2) hx hb hts hinX7 hown hK hP 13 VC_13 rfl 1 (Nat.le_of_ble_eq_true rfl) (hts (.fieldLink RX7 15 "NapkinSyntax$Text" "length" "I") (by decide +kernel)) (fun _ h => h) (v := .int (iI (M 11 0))) rfl dX7_append_21 ?_
      have q5 := hT.1
      refine lv_iload_n hx hb dX7_append_24 rfl (lv_at hl 1 rfl) ?_
      refine z_cast hx hb hK hP hD hS 14 1 VC_14 rfl (by omega) (by omega) (by decide) (by omega) (by omega) dX7_append_25 VCw_10 (fun H locs hP hD hS => ?_)
      refine lv_aload_n hx hb dX7_append_26 rfl (lv_at hl 0 rfl) ?_
      refine lv_dup hx hb dX7_append_27 rfl ?_
      refine va_get (own := RX7) (ref := "NapkinSyntax$Text") (C := RX7) (T := TX7) (N := 2) hx hb hts hinX7 hown hK hP 13 VC_13 rfl 1 (Nat.le_of_ble_eq_true rfl) (hts (.fieldLink RX7 15 "NapkinSyntax$Text" "length" "I") (by decide +kernel)) (fun _ h => h) (v := .int (iI (M 11 0))) rfl dX7_append_28 ?_
      have q6 := hT.1
      refine z_iconst hx hb dX7_append_31 ?_
      refine z_iadd hx hb dX7_append_32 ?_
      refine va_put (own := RX7) (ref := "NapkinSyntax$Text") (C := RX7) (T := TX7) (N := 2) hx hb hts hinX7 tyX7 tyX7_ok nmX7 hown hK hP hD hS 13 VC_13 rfl 1 (Nat.le_of_ble_eq_true rfl) (hts (.fieldLink RX7 15 "NapkinSyntax$Text" "length" "I") (by decide +kernel)) (fun _ h => h) rfl (ty := .int) (v := .int (iI ((M 11 0) + (1)))) (by decide +kernel) rfl rfl (Nat.le_of_ble_eq_true rfl) dX7_append_33 (fun H locs hP hD hS => ?_)
      rw [VCf_11] at hP hD
      subst hE
      exact cv_v hx hb hr hlocks hS hP dX7_append_36

theorem fr_fX7_append {M : Mem} (sign : Int) {r : Nat} (h10 : Nat.beq r 10 = false) (h11 : Nat.beq r 11 = false) : (fX7_append M sign) r = M r := by
  unfold fX7_append
  (repeat' with_reducible refine frite_v (fun _ => ?_) (fun _ => ?_)) <;> first | with_reducible rfl | simp only [mst_o, msf_o, mcp_o, h10, h11]

def fX7_signAt (M : Mem) (index : Int) : Int := if (index < 0) then (32) else if ((M 11 0) ≤ index) then (32) else if ((60) ≤ index) then (32) else (M 10 index)
set_option maxRecDepth 100000 in
set_option maxHeartbeats 4000000 in
theorem kX7_signAt (l : Launch) (D : va_G) (E : Nat → Nat) (cI cC : ClassId) (Z : State → Prop) (hZo : ∀ M : Mem, ZOk (VC E cI cC M) Z) (hZb : ZBl Z) (M : Mem) (index : Int) (h1 : -2147483648 ≤ index ∧ index < 2147483648) (hT : TI M) (r : Int) (hE : fX7_signAt M index = r) : Ci l yX7_signAt wsX7_signAt 0 0 [.ref (E 13), .int (iI index)] D (TY cI cC) (VC E cI cC) Z M r M := by
  refine Ci.of (cc := cX7_signAt) (maxL := 2) (ret := (some .char)) (by decide +kernel) rfl (Nat.le_of_ble_eq_true rfl) ?_
  intro p e s m args below meth c ls hx hb hml hr hown hts hlocks hP hK hD hZ hS hl
  have hl : lv_has ls 2 [(0, .ref (E 13)), (1, .int (iI index))] := hl
  have S0 : CallFix p m c cX7_signAt 2 s args wsX7_signAt RX7 := ⟨hx, hb, hml, hown, hts⟩
  have hinX7 : ∀ w ∈ u_ws RX7 TX7 2, w ∈ wsX7_signAt := by decide +kernel
  rw [fX7_signAt] at hE
  refine lv_iload_n hx hb dX7_signAt_0 rfl (lv_at hl 1 rfl) ?_
  refine z_if_lt hx hb dX7_signAt_1 (tgt := 27) rfl (by omega) (fun b1 => ?_) (fun b1 => ?_)
  · rw [if_pos b1] at hE
    refine z_bipush hx hb dX7_signAt_27 (by decide +kernel) ?_
    exact ci_i hx hb hr hlocks hE (nr_c (by omega) (by omega)) hS hP dX7_signAt_29
  · rw [if_neg b1] at hE
    refine lv_iload_n hx hb dX7_signAt_4 rfl (lv_at hl 1 rfl) ?_
    refine lv_aload_n hx hb dX7_signAt_5 rfl (lv_at hl 0 rfl) ?_
    refine va_get (own := RX7) (ref := "NapkinSyntax$Text") (C := RX7) (T := TX7) (N := 2) hx hb hts hinX7 hown hK hP 13 VC_13 rfl 1 (Nat.le_of_ble_eq_true rfl) (hts (.fieldLink RX7 15 "NapkinSyntax$Text" "length" "I") (by decide +kernel)) (fun _ h => h) (v := .int (iI (M 11 0))) rfl dX7_signAt_6 ?_
    have q2 := hT.1
    refine z_icmp_ge hx hb dX7_signAt_9 (tgt := 27) rfl (by omega) (by omega) (fun b3 => ?_) (fun b3 => ?_)
    · rw [if_pos b3] at hE
      refine z_bipush hx hb dX7_signAt_27 (by decide +kernel) ?_
      exact ci_i hx hb hr hlocks hE (nr_c (by omega) (by omega)) hS hP dX7_signAt_29
    · rw [if_neg b3] at hE
      refine lv_iload_n hx hb dX7_signAt_12 rfl (lv_at hl 1 rfl) ?_
      refine z_bipush hx hb dX7_signAt_13 (by decide +kernel) ?_
      refine z_icmp_ge hx hb dX7_signAt_15 (tgt := 27) rfl (by omega) (by omega) (fun b4 => ?_) (fun b4 => ?_)
      · rw [if_pos b4] at hE
        refine z_bipush hx hb dX7_signAt_27 (by decide +kernel) ?_
        exact ci_i hx hb hr hlocks hE (nr_c (by omega) (by omega)) hS hP dX7_signAt_29
      · rw [if_neg b4] at hE
        refine lv_aload_n hx hb dX7_signAt_18 rfl (lv_at hl 0 rfl) ?_
        refine va_get (own := RX7) (ref := "NapkinSyntax$Text") (C := RX7) (T := TX7) (N := 2) hx hb hts hinX7 hown hK hP 13 VC_13 rfl 0 (Nat.le_of_ble_eq_true rfl) (hts (.fieldLink RX7 9 "NapkinSyntax$Text" "signs" "[C") (by decide +kernel)) (fun _ h => h) (v := .ref (E 14)) rfl dX7_signAt_19 ?_
        refine lv_iload_n hx hb dX7_signAt_22 rfl (lv_at hl 1 rfl) ?_
        refine z_cald hx hb hK hP 14 1 VC_14 rfl (by omega) (by omega) (by decide) dX7_signAt_23 ?_
        have q5 := hT.2 index (by omega) (by omega)
        refine lv_goto hx hb dX7_signAt_24 (tgt := 29) rfl ?_
        exact ci_i hx hb hr hlocks hE (nr_c (by omega) (by omega)) hS hP dX7_signAt_29


theorem rg_X7_signAt {M : Mem} (h : TI M) (i : Int) : 0 ≤ fX7_signAt M i ∧ fX7_signAt M i < 65536 := by
  unfold fX7_signAt
  (repeat' split) <;> first | omega | exact h.2 _ (by omega) (by omega)

def fX8_letterIn_s (fold : Int) : Int := if (fold < 0) then (46) else if ((5) ≤ fold) then (46) else (sml fold)
set_option maxRecDepth 100000 in
set_option maxHeartbeats 4000000 in
theorem kX8_letterIn_s (l : Launch) (D : va_G) (E : Nat → Nat) (cI cC : ClassId) (T : Nat → Nat) (M : Mem) (fold : Int) (h1 : -2147483648 ≤ fold ∧ fold < 2147483648) (r : Int) (hE : fX8_letterIn_s fold = r) : Ci l yX8_letterIn wsX8_letterIn 0 0 [.ref (T 12), .int (iI fold)] D (TY cI cC) (VC E cI cC) (ZC E cI cC T) M r M := by
  refine Ci.of (cc := cX8_letterIn) (maxL := 2) (ret := (some .char)) (by decide +kernel) rfl (Nat.le_of_ble_eq_true rfl) ?_
  intro p e s m args below meth c ls hx hb hml hr hown hts hlocks hP hK hD hZ hS hl
  have hl : lv_has ls 2 [(0, .ref (T 12)), (1, .int (iI fold))] := hl
  have S0 : CallFix p m c cX8_letterIn 2 s args wsX8_letterIn RX8 := ⟨hx, hb, hml, hown, hts⟩
  rw [fX8_letterIn_s] at hE
  refine lv_iload_n hx hb dX8_letterIn_0 rfl (lv_at hl 1 rfl) ?_
  refine z_if_lt hx hb dX8_letterIn_1 (tgt := 16) rfl (by omega) (fun b1 => ?_) (fun b1 => ?_)
  · rw [if_pos b1] at hE
    refine z_bipush hx hb dX8_letterIn_16 (by decide +kernel) ?_
    exact ci_i hx hb hr hlocks hE (nr_c (by omega) (by omega)) hS hP dX8_letterIn_18
  · rw [if_neg b1] at hE
    refine lv_iload_n hx hb dX8_letterIn_4 rfl (lv_at hl 1 rfl) ?_
    refine lv_aload_n hx hb dX8_letterIn_5 rfl (lv_at hl 0 rfl) ?_
    refine z_tlen (v := (5)) hx hb (ZC_smt hZ M) hS rfl dX8_letterIn_6 ?_
    refine z_icmp_ge hx hb dX8_letterIn_7 (tgt := 16) rfl (by omega) (by omega) (fun b2 => ?_) (fun b2 => ?_)
    · rw [if_pos b2] at hE
      refine z_bipush hx hb dX8_letterIn_16 (by decide +kernel) ?_
      exact ci_i hx hb hr hlocks hE (nr_c (by omega) (by omega)) hS hP dX8_letterIn_18
    · rw [if_neg b2] at hE
      refine lv_aload_n hx hb dX8_letterIn_10 rfl (lv_at hl 0 rfl) ?_
      refine lv_iload_n hx hb dX8_letterIn_11 rfl (lv_at hl 1 rfl) ?_
      refine z_tc hx hb (ZC_smt hZ M) hS (f := sml) (by omega) (by omega) (by decide) dX8_letterIn_12 ?_
      have q3 := sml_r fold
      refine lv_goto hx hb dX8_letterIn_13 (tgt := 18) rfl ?_
      exact ci_i hx hb hr hlocks hE (nr_c (by omega) (by omega)) hS hP dX8_letterIn_18


theorem rg_X8_letterIn_s (f : Int) : 0 ≤ fX8_letterIn_s f ∧ fX8_letterIn_s f ≤ 127 := by
  have := sml_r f
  unfold fX8_letterIn_s
  (repeat' split) <;> omega

def fX8_letterIn_b (fold : Int) : Int := if (fold < 0) then (46) else if ((5) ≤ fold) then (46) else (bgl fold)
set_option maxRecDepth 100000 in
set_option maxHeartbeats 4000000 in
theorem kX8_letterIn_b (l : Launch) (D : va_G) (E : Nat → Nat) (cI cC : ClassId) (T : Nat → Nat) (M : Mem) (fold : Int) (h1 : -2147483648 ≤ fold ∧ fold < 2147483648) (r : Int) (hE : fX8_letterIn_b fold = r) : Ci l yX8_letterIn wsX8_letterIn 0 0 [.ref (T 13), .int (iI fold)] D (TY cI cC) (VC E cI cC) (ZC E cI cC T) M r M := by
  refine Ci.of (cc := cX8_letterIn) (maxL := 2) (ret := (some .char)) (by decide +kernel) rfl (Nat.le_of_ble_eq_true rfl) ?_
  intro p e s m args below meth c ls hx hb hml hr hown hts hlocks hP hK hD hZ hS hl
  have hl : lv_has ls 2 [(0, .ref (T 13)), (1, .int (iI fold))] := hl
  have S0 : CallFix p m c cX8_letterIn 2 s args wsX8_letterIn RX8 := ⟨hx, hb, hml, hown, hts⟩
  rw [fX8_letterIn_b] at hE
  refine lv_iload_n hx hb dX8_letterIn_0 rfl (lv_at hl 1 rfl) ?_
  refine z_if_lt hx hb dX8_letterIn_1 (tgt := 16) rfl (by omega) (fun b1 => ?_) (fun b1 => ?_)
  · rw [if_pos b1] at hE
    refine z_bipush hx hb dX8_letterIn_16 (by decide +kernel) ?_
    exact ci_i hx hb hr hlocks hE (nr_c (by omega) (by omega)) hS hP dX8_letterIn_18
  · rw [if_neg b1] at hE
    refine lv_iload_n hx hb dX8_letterIn_4 rfl (lv_at hl 1 rfl) ?_
    refine lv_aload_n hx hb dX8_letterIn_5 rfl (lv_at hl 0 rfl) ?_
    refine z_tlen (v := (5)) hx hb (ZC_bgt hZ M) hS rfl dX8_letterIn_6 ?_
    refine z_icmp_ge hx hb dX8_letterIn_7 (tgt := 16) rfl (by omega) (by omega) (fun b2 => ?_) (fun b2 => ?_)
    · rw [if_pos b2] at hE
      refine z_bipush hx hb dX8_letterIn_16 (by decide +kernel) ?_
      exact ci_i hx hb hr hlocks hE (nr_c (by omega) (by omega)) hS hP dX8_letterIn_18
    · rw [if_neg b2] at hE
      refine lv_aload_n hx hb dX8_letterIn_10 rfl (lv_at hl 0 rfl) ?_
      refine lv_iload_n hx hb dX8_letterIn_11 rfl (lv_at hl 1 rfl) ?_
      refine z_tc hx hb (ZC_bgt hZ M) hS (f := bgl) (by omega) (by omega) (by decide) dX8_letterIn_12 ?_
      have q3 := bgl_r fold
      refine lv_goto hx hb dX8_letterIn_13 (tgt := 18) rfl ?_
      exact ci_i hx hb hr hlocks hE (nr_c (by omega) (by omega)) hS hP dX8_letterIn_18


theorem rg_X8_letterIn_b (f : Int) : 0 ≤ fX8_letterIn_b f ∧ fX8_letterIn_b f ≤ 127 := by
  have := bgl_r f
  unfold fX8_letterIn_b
  (repeat' split) <;> omega

def fX7_valueOf_L1 (form sign : Int) : Nat → Int → (Int)
  | 0, _ => 0
  | k1 + 1, fold => if ((4) < fold) then (-1) else if ((fX8_letterIn_s fold) = sign) then fold else fX7_valueOf_L1 form sign k1 (fold + 1)
def fX7_valueOf (form sign : Int) : Int := if (form = (35)) then if (sign < (48)) then (-1) else if ((57) < sign) then (-1) else (sign - (48)) else fX7_valueOf_L1 form sign 6 (1)
set_option maxRecDepth 100000 in
set_option maxHeartbeats 4000000 in
theorem kX7_valueOf (l : Launch) (D : va_G) (E : Nat → Nat) (cI cC : ClassId) (T : Nat → Nat) (M : Mem) (form sign : Int) (h1 : 0 ≤ form ∧ form < 65536) (h2 : 0 ≤ sign ∧ sign < 65536) (r : Int) (hE : fX7_valueOf form sign = r) : Ci l yX7_valueOf wsX7_valueOf 1 21 [.int (iI form), .int (iI sign)] D (TY cI cC) (VC E cI cC) (ZC E cI cC T) M r M := by
  refine Ci.of (cc := cX7_valueOf) (maxL := 3) (ret := (some .int)) (by decide +kernel) rfl (Nat.le_of_ble_eq_true rfl) ?_
  intro p e s m args below meth c ls hx hb hml hr hown hts hlocks hP hK hD hZ hS hl
  have hl : lv_has ls 3 [(0, .int (iI form)), (1, .int (iI sign))] := hl
  have S0 : CallFix p m c cX7_valueOf 3 s args wsX7_valueOf RX7 := ⟨hx, hb, hml, hown, hts⟩
  rw [fX7_valueOf] at hE
  refine lv_iload_n hx hb dX7_valueOf_0 rfl (lv_at hl 0 rfl) ?_
  refine z_bipush hx hb dX7_valueOf_1 (by decide +kernel) ?_
  refine z_icmp_ne hx hb dX7_valueOf_3 (tgt := 27) rfl (by omega) (by omega) (fun b1 => ?_) (fun b1 => ?_)
  · rw [if_neg b1] at hE
    refine z_iconst hx hb dX7_valueOf_27 ?_
    refine lv_istore_n hx hb dX7_valueOf_28 rfl hl (Nat.le_of_ble_eq_true rfl) (lv' := [(2, .int (iI (1))), (0, .int (iI form)), (1, .int (iI sign))]) rfl (fun ls hl => ?_)
    have L1 : ∀ (k1 : Nat) (fold : Int) (ls : Array Slot) (H : Heap) (locs : List Loc), lv_has ls 3 [(0, .int (iI form)), (1, .int (iI sign)), (2, .int (iI fold))] → va_P D vwCl (VC E cI cC M) H → va_D (wA (VC E cI cC M)) (VC E cI cC M) → va_S (wA (VC E cI cC M)) s.heap H locs → (1 ≤ fold ∧ fold ≤ 5) → (5 - fold < (k1 : Int)) → fX7_valueOf_L1 form sign k1 fold = r → W p l e (zRm 1 21) s m args below meth c H locs 0 0 (MQ below (ciQ D (VC E cI cC) M r M) args s 0 0 (wA (VC E cI cC M))) (F0 m 29 ls []) := by
      intro k1
      induction k1 with
      | zero => intro fold ls H locs hl hP hD hS i1 i3 hE; exfalso; omega
      | succ k1 ih1 =>
        intro fold ls H locs hl hP hD hS i1 i3 hE
        rw [fX7_valueOf_L1] at hE
        refine lv_iload_n hx hb dX7_valueOf_29 rfl (lv_at hl 2 rfl) ?_
        refine z_iconst hx hb dX7_valueOf_30 ?_
        refine z_icmp_gt hx hb dX7_valueOf_31 (tgt := 53) rfl (by omega) (by omega) (fun b2 => ?_) (fun b2 => ?_)
        · rw [if_pos b2] at hE
          refine z_iconst hx hb dX7_valueOf_53 ?_
          exact ci_i hx hb hr hlocks hE rfl hS hP dX7_valueOf_54
        · rw [if_neg b2] at hE
          refine va_getsN hx hb (ZC_sm hZ M) hS hown (va_Nw.use rfl (ZC_nfX7_59 hZ)) (fun _ h => h) dX7_valueOf_34 ?_
          refine lv_iload_n hx hb dX7_valueOf_37 rfl (lv_at hl 2 rfl) ?_
          refine ct_Ni (VC_fix E cI cC) (ZC_ok E cI cC T) (ZC_bl E cI cC T) hZ S0 (kX8_letterIn_s l D E cI cC T M fold (by omega) (fX8_letterIn_s fold) rfl) ⟨va_cnB 2 hts gX7_valueOf_X8_letterIn_n62 rfl rfl rfl (ZC_nX7_62 hZ) (hts (.initialized RX8) (by decide +kernel)) (by decide +kernel) ⟨(Nat.le_of_ble_eq_true rfl), (Nat.le_of_ble_eq_true rfl)⟩, hts (.static yX8_letterIn) (by decide +kernel), trivial⟩ hK hP hD hS rfl hl.1 rfl (Nat.le_of_ble_eq_true rfl) dX7_valueOf_38 ⟨Nat.zero_le _, Nat.zero_le _⟩ (fun H locs hP hD hS => ?_)
          have q3 := rg_X8_letterIn_s fold
          refine lv_iload_n hx hb dX7_valueOf_41 rfl (lv_at hl 1 rfl) ?_
          refine z_icmp_ne hx hb dX7_valueOf_42 (tgt := 47) rfl (by omega) (by omega) (fun b4 => ?_) (fun b4 => ?_)
          · rw [if_neg b4] at hE
            refine z_iinc hx hb dX7_valueOf_47 hl (k := 2) rfl (Nat.le_of_ble_eq_true rfl) (lv' := [(2, .int (iI (fold + 1))), (0, .int (iI form)), (1, .int (iI sign))]) rfl (fun ls hl => ?_)
            refine lv_goto hx hb dX7_valueOf_50 (tgt := 29) rfl ?_
            exact ih1 (fold + 1) ls _ _ (lv_sub hl [1, 2, 0] rfl) hP hD hS (by omega) (by omega) hE
          · rw [if_pos b4] at hE
            refine lv_iload_n hx hb dX7_valueOf_45 rfl (lv_at hl 2 rfl) ?_
            exact ci_i hx hb hr hlocks hE rfl hS hP dX7_valueOf_46
    exact L1 6 (1) ls _ _ (lv_sub hl [1, 2, 0] rfl) hP hD hS (by omega) (by omega) hE
  · rw [if_pos b1] at hE
    refine lv_iload_n hx hb dX7_valueOf_6 rfl (lv_at hl 1 rfl) ?_
    refine z_bipush hx hb dX7_valueOf_7 (by decide +kernel) ?_
    refine z_icmp_lt hx hb dX7_valueOf_9 (tgt := 25) rfl (by omega) (by omega) (fun b5 => ?_) (fun b5 => ?_)
    · rw [if_pos b5] at hE
      refine z_iconst hx hb dX7_valueOf_25 ?_
      exact ci_i hx hb hr hlocks hE rfl hS hP dX7_valueOf_26
    · rw [if_neg b5] at hE
      refine lv_iload_n hx hb dX7_valueOf_12 rfl (lv_at hl 1 rfl) ?_
      refine z_bipush hx hb dX7_valueOf_13 (by decide +kernel) ?_
      refine z_icmp_gt hx hb dX7_valueOf_15 (tgt := 25) rfl (by omega) (by omega) (fun b6 => ?_) (fun b6 => ?_)
      · rw [if_pos b6] at hE
        refine z_iconst hx hb dX7_valueOf_25 ?_
        exact ci_i hx hb hr hlocks hE rfl hS hP dX7_valueOf_26
      · rw [if_neg b6] at hE
        refine lv_iload_n hx hb dX7_valueOf_18 rfl (lv_at hl 1 rfl) ?_
        refine z_bipush hx hb dX7_valueOf_19 (by decide +kernel) ?_
        refine z_isub hx hb dX7_valueOf_21 ?_
        refine lv_goto hx hb dX7_valueOf_22 (tgt := 26) rfl ?_
        exact ci_i hx hb hr hlocks hE rfl hS hP dX7_valueOf_26


theorem rg_X7_valueOf_L (f s : Int) : ∀ (k : Nat) (n : Int), 0 ≤ n → -1 ≤ fX7_valueOf_L1 f s k n ∧ fX7_valueOf_L1 f s k n ≤ 9 := by
  intro k
  induction k with
  | zero => intro n _; exact ⟨(by decide : (-1 : Int) ≤ 0), (by decide : (0 : Int) ≤ 9)⟩
  | succ k ih =>
    intro n h
    rw [fX7_valueOf_L1]
    (repeat' split) <;> first | omega | exact ih _ (by omega)
theorem rg_X7_valueOf (f s : Int) : -1 ≤ fX7_valueOf f s ∧ fX7_valueOf f s ≤ 9 := by
  have := rg_X7_valueOf_L f s 6 1 (by decide)
  unfold fX7_valueOf
  (repeat' split) <;> omega

def fX7_isOfForm (form sign : Int) : Int := if (form = (35)) then if ((fX7_valueOf form sign) = (-1)) then (0) else (1) else if (form = (64)) then if ((fX7_valueOf form sign) = (-1)) then (0) else (1) else if (form = sign) then (1) else (0)
set_option maxRecDepth 100000 in
set_option maxHeartbeats 4000000 in
theorem kX7_isOfForm (l : Launch) (D : va_G) (E : Nat → Nat) (cI cC : ClassId) (T : Nat → Nat) (M : Mem) (form sign : Int) (h1 : 0 ≤ form ∧ form < 65536) (h2 : 0 ≤ sign ∧ sign < 65536) (r : Int) (hE : fX7_isOfForm form sign = r) : Ci l yX7_isOfForm wsX7_isOfForm 2 43 [.int (iI form), .int (iI sign)] D (TY cI cC) (VC E cI cC) (ZC E cI cC T) M r M := by
  refine Ci.of (cc := cX7_isOfForm) (maxL := 2) (ret := (some .boolean)) (by decide +kernel) rfl (Nat.le_of_ble_eq_true rfl) ?_
  intro p e s m args below meth c ls hx hb hml hr hown hts hlocks hP hK hD hZ hS hl
  have hl : lv_has ls 2 [(0, .int (iI form)), (1, .int (iI sign))] := hl
  have S0 : CallFix p m c cX7_isOfForm 2 s args wsX7_isOfForm RX7 := ⟨hx, hb, hml, hown, hts⟩
  rw [fX7_isOfForm] at hE
  refine lv_iload_n hx hb dX7_isOfForm_0 rfl (lv_at hl 0 rfl) ?_
  refine z_bipush hx hb dX7_isOfForm_1 (by decide +kernel) ?_
  refine z_icmp_eq hx hb dX7_isOfForm_3 (tgt := 12) rfl (by omega) (by omega) (fun b1 => ?_) (fun b1 => ?_)
  · rw [if_pos b1] at hE
    refine lv_iload_n hx hb dX7_isOfForm_12 rfl (lv_at hl 0 rfl) ?_
    refine lv_iload_n hx hb dX7_isOfForm_13 rfl (lv_at hl 1 rfl) ?_
    refine ct_Si (VC_fix E cI cC) (ZC_ok E cI cC T) (ZC_bl E cI cC T) hZ S0 (kX7_valueOf l D E cI cC T M form sign (by omega) (by omega) (fX7_valueOf form sign) rfl) (va_cwS 2 hts gX7_isOfForm_X7_valueOf rfl rfl rfl (by decide +kernel) ⟨(Nat.le_of_ble_eq_true rfl), (Nat.le_of_ble_eq_true rfl)⟩) hK hP hD hS rfl hl.1 rfl (Nat.le_of_ble_eq_true rfl) dX7_isOfForm_14 ⟨Nat.zero_le _, Nat.zero_le _⟩ (fun H locs hP hD hS => ?_)
    have q2 := rg_X7_valueOf form sign
    refine z_iconst hx hb dX7_isOfForm_17 ?_
    refine z_icmp_eq hx hb dX7_isOfForm_18 (tgt := 25) rfl (by omega) (by omega) (fun b3 => ?_) (fun b3 => ?_)
    · rw [if_pos b3] at hE
      refine z_iconst hx hb dX7_isOfForm_25 ?_
      exact ci_i hx hb hr hlocks hE nr_b0 hS hP dX7_isOfForm_26
    · rw [if_neg b3] at hE
      refine z_iconst hx hb dX7_isOfForm_21 ?_
      refine lv_goto hx hb dX7_isOfForm_22 (tgt := 26) rfl ?_
      exact ci_i hx hb hr hlocks hE nr_b1 hS hP dX7_isOfForm_26
  · rw [if_neg b1] at hE
    refine lv_iload_n hx hb dX7_isOfForm_6 rfl (lv_at hl 0 rfl) ?_
    refine z_bipush hx hb dX7_isOfForm_7 (by decide +kernel) ?_
    refine z_icmp_ne hx hb dX7_isOfForm_9 (tgt := 27) rfl (by omega) (by omega) (fun b4 => ?_) (fun b4 => ?_)
    · rw [if_neg b4] at hE
      refine lv_iload_n hx hb dX7_isOfForm_27 rfl (lv_at hl 0 rfl) ?_
      refine lv_iload_n hx hb dX7_isOfForm_28 rfl (lv_at hl 1 rfl) ?_
      refine z_icmp_ne hx hb dX7_isOfForm_29 (tgt := 36) rfl (by omega) (by omega) (fun b5 => ?_) (fun b5 => ?_)
      · rw [if_neg b5] at hE
        refine z_iconst hx hb dX7_isOfForm_36 ?_
        exact ci_i hx hb hr hlocks hE nr_b0 hS hP dX7_isOfForm_37
      · rw [if_pos b5] at hE
        refine z_iconst hx hb dX7_isOfForm_32 ?_
        refine lv_goto hx hb dX7_isOfForm_33 (tgt := 37) rfl ?_
        exact ci_i hx hb hr hlocks hE nr_b1 hS hP dX7_isOfForm_37
    · rw [if_pos b4] at hE
      refine lv_iload_n hx hb dX7_isOfForm_12 rfl (lv_at hl 0 rfl) ?_
      refine lv_iload_n hx hb dX7_isOfForm_13 rfl (lv_at hl 1 rfl) ?_
      refine ct_Si (VC_fix E cI cC) (ZC_ok E cI cC T) (ZC_bl E cI cC T) hZ S0 (kX7_valueOf l D E cI cC T M form sign (by omega) (by omega) (fX7_valueOf form sign) rfl) (va_cwS 2 hts gX7_isOfForm_X7_valueOf rfl rfl rfl (by decide +kernel) ⟨(Nat.le_of_ble_eq_true rfl), (Nat.le_of_ble_eq_true rfl)⟩) hK hP hD hS rfl hl.1 rfl (Nat.le_of_ble_eq_true rfl) dX7_isOfForm_14 ⟨Nat.zero_le _, Nat.zero_le _⟩ (fun H locs hP hD hS => ?_)
      have q6 := rg_X7_valueOf form sign
      refine z_iconst hx hb dX7_isOfForm_17 ?_
      refine z_icmp_eq hx hb dX7_isOfForm_18 (tgt := 25) rfl (by omega) (by omega) (fun b7 => ?_) (fun b7 => ?_)
      · rw [if_pos b7] at hE
        refine z_iconst hx hb dX7_isOfForm_25 ?_
        exact ci_i hx hb hr hlocks hE nr_b0 hS hP dX7_isOfForm_26
      · rw [if_neg b7] at hE
        refine z_iconst hx hb dX7_isOfForm_21 ?_
        refine lv_goto hx hb dX7_isOfForm_22 (tgt := 26) rfl ?_
        exact ci_i hx hb hr hlocks hE nr_b1 hS hP dX7_isOfForm_26


theorem bX7_isOfForm (f s : Int) : 0 ≤ fX7_isOfForm f s ∧ fX7_isOfForm f s ≤ 1 := by unfold fX7_isOfForm; (repeat' split) <;> omega

def fX7_matched_L1 (M : Mem) (co start : Int) : Nat → Int → (Int)
  | 0, _ => 0
  | k1 + 1, count => if ((fX1_length co) ≤ count) then count else if ((M 11 0) ≤ (start + count)) then count else if ((fX7_isOfForm (fX1_signAt co count) (fX7_signAt M (start + count))) = 0) then count else fX7_matched_L1 M co start k1 (count + 1)
def fX7_matched (M : Mem) (co start : Int) : Int := fX7_matched_L1 M co start 11 (0)
set_option maxRecDepth 100000 in
set_option maxHeartbeats 4000000 in
theorem kX7_matched (l : Launch) (D : va_G) (E : Nat → Nat) (cI cC : ClassId) (T : Nat → Nat) (M : Mem) (co start : Int) (h0 : 0 ≤ co ∧ co < 9) (h1 : 0 ≤ start ∧ start ≤ 1000) (hT : TI M) (r : Int) (hE : fX7_matched M co start = r) : Ci l yX7_matched wsX7_matched 5 106 [.ref (E 13), .ref (T (co).toNat), .int (iI start)] D (TY cI cC) (VC E cI cC) (ZC E cI cC T) M r M := by
  refine Ci.of (cc := cX7_matched) (maxL := 4) (ret := (some .int)) (by decide +kernel) rfl (Nat.le_of_ble_eq_true rfl) ?_
  intro p e s m args below meth c ls hx hb hml hr hown hts hlocks hP hK hD hZ hS hl
  have hl : lv_has ls 4 [(0, .ref (E 13)), (1, .ref (T (co).toNat)), (2, .int (iI start))] := hl
  have S0 : CallFix p m c cX7_matched 4 s args wsX7_matched RX7 := ⟨hx, hb, hml, hown, hts⟩
  have hinX7 : ∀ w ∈ u_ws RX7 TX7 2, w ∈ wsX7_matched := by decide +kernel
  rw [fX7_matched] at hE
  refine z_iconst hx hb dX7_matched_0 ?_
  refine lv_istore_n hx hb dX7_matched_1 rfl hl (Nat.le_of_ble_eq_true rfl) (lv' := [(3, .int (iI (0))), (0, .ref (E 13)), (1, .ref (T (co).toNat)), (2, .int (iI start))]) rfl (fun ls hl => ?_)
  have L1 : ∀ (k1 : Nat) (count : Int) (ls : Array Slot) (H : Heap) (locs : List Loc), lv_has ls 4 [(0, .ref (E 13)), (1, .ref (T (co).toNat)), (2, .int (iI start)), (3, .int (iI count))] → va_P D vwCl (VC E cI cC M) H → va_D (wA (VC E cI cC M)) (VC E cI cC M) → va_S (wA (VC E cI cC M)) s.heap H locs → (0 ≤ count ∧ count ≤ 9) → (9 - count < (k1 : Int)) → fX7_matched_L1 M co start k1 count = r → W p l e (zRm 5 106) s m args below meth c H locs 0 0 (MQ below (ciQ D (VC E cI cC) M r M) args s 0 0 (wA (VC E cI cC M))) (F0 m 2 ls []) := by
    intro k1
    induction k1 with
    | zero => intro count ls H locs hl hP hD hS i1 i3 hE; exfalso; omega
    | succ k1 ih1 =>
      intro count ls H locs hl hP hD hS i1 i3 hE
      have q92 := rg_X1_length co
      rw [fX7_matched_L1] at hE
      refine lv_iload_n hx hb dX7_matched_2 rfl (lv_at hl 3 rfl) ?_
      refine lv_aload_n hx hb dX7_matched_3 rfl (lv_at hl 1 rfl) ?_
      refine ct_Oi (VC_fix E cI cC) (ZC_ok E cI cC T) (ZC_bl E cI cC T) hZ S0 (kX1_length l D E cI cC T M co (by omega) (fX1_length co) rfl) (cwV 0 hts gX7_matched_X1_length rfl rfl rfl (by decide +kernel) ⟨(Nat.le_of_ble_eq_true rfl), (Nat.le_of_ble_eq_true rfl)⟩) hK hP hD hS (va_Orecv (ZC_cmo hZ M (co).toNat (by omega)) hS) rfl hl.1 rfl (Nat.le_of_ble_eq_true rfl) dX7_matched_4 ⟨Nat.zero_le _, Nat.zero_le _⟩ (fun H locs hP hD hS => ?_)
      have q1 := rg_X1_length co
      refine z_icmp_ge hx hb dX7_matched_7 (tgt := 44) rfl (by omega) (by omega) (fun b2 => ?_) (fun b2 => ?_)
      · rw [if_pos b2] at hE
        refine lv_iload_n hx hb dX7_matched_44 rfl (lv_at hl 3 rfl) ?_
        exact ci_i hx hb hr hlocks hE rfl hS hP dX7_matched_45
      · rw [if_neg b2] at hE
        refine lv_iload_n hx hb dX7_matched_10 rfl (lv_at hl 2 rfl) ?_
        refine lv_iload_n hx hb dX7_matched_11 rfl (lv_at hl 3 rfl) ?_
        refine z_iadd hx hb dX7_matched_12 ?_
        refine lv_aload_n hx hb dX7_matched_13 rfl (lv_at hl 0 rfl) ?_
        refine va_get (own := RX7) (ref := "NapkinSyntax$Text") (C := RX7) (T := TX7) (N := 2) hx hb hts hinX7 hown hK hP 13 VC_13 rfl 1 (Nat.le_of_ble_eq_true rfl) (hts (.fieldLink RX7 15 "NapkinSyntax$Text" "length" "I") (by decide +kernel)) (fun _ h => h) (v := .int (iI (M 11 0))) rfl dX7_matched_14 ?_
        have q3 := hT.1
        refine z_icmp_ge hx hb dX7_matched_17 (tgt := 44) rfl (by omega) (by omega) (fun b4 => ?_) (fun b4 => ?_)
        · rw [if_pos b4] at hE
          refine lv_iload_n hx hb dX7_matched_44 rfl (lv_at hl 3 rfl) ?_
          exact ci_i hx hb hr hlocks hE rfl hS hP dX7_matched_45
        · rw [if_neg b4] at hE
          refine lv_aload_n hx hb dX7_matched_20 rfl (lv_at hl 1 rfl) ?_
          refine lv_iload_n hx hb dX7_matched_21 rfl (lv_at hl 3 rfl) ?_
          refine ct_Oi (VC_fix E cI cC) (ZC_ok E cI cC T) (ZC_bl E cI cC T) hZ S0 (kX1_signAt l D E cI cC T M co count (by omega) (by omega) (fX1_signAt co count) rfl) (cwV 1 hts gX7_matched_X1_signAt rfl rfl rfl (by decide +kernel) ⟨(Nat.le_of_ble_eq_true rfl), (Nat.le_of_ble_eq_true rfl)⟩) hK hP hD hS (va_Orecv (ZC_cmo hZ M (co).toNat (by omega)) hS) rfl hl.1 rfl (Nat.le_of_ble_eq_true rfl) dX7_matched_22 ⟨Nat.zero_le _, Nat.zero_le _⟩ (fun H locs hP hD hS => ?_)
          have q5 := rg_X1_signAt co count
          refine lv_aload_n hx hb dX7_matched_25 rfl (lv_at hl 0 rfl) ?_
          refine lv_iload_n hx hb dX7_matched_26 rfl (lv_at hl 2 rfl) ?_
          refine lv_iload_n hx hb dX7_matched_27 rfl (lv_at hl 3 rfl) ?_
          refine z_iadd hx hb dX7_matched_28 ?_
          refine ct_Vi (VC_fix E cI cC) (ZC_ok E cI cC T) (ZC_bl E cI cC T) hZ S0 (kX7_signAt l D E cI cC (ZC E cI cC T) (ZC_ok E cI cC T) (ZC_bl E cI cC T) M (start + count) (by omega) hT (fX7_signAt M (start + count)) rfl) (cwV 1 hts gX7_matched_X7_signAt rfl rfl rfl (by decide +kernel) ⟨(Nat.le_of_ble_eq_true rfl), (Nat.le_of_ble_eq_true rfl)⟩) hK hP hD hS rfl rfl VC_13 rfl hl.1 rfl (Nat.le_of_ble_eq_true rfl) dX7_matched_29 ⟨Nat.zero_le _, Nat.zero_le _⟩ (fun H locs hP hD hS => ?_)
          have q6 := rg_X7_signAt hT (start + count)
          refine ct_Si (VC_fix E cI cC) (ZC_ok E cI cC T) (ZC_bl E cI cC T) hZ S0 (kX7_isOfForm l D E cI cC T M (fX1_signAt co count) (fX7_signAt M (start + count)) (by omega) (by omega) (fX7_isOfForm (fX1_signAt co count) (fX7_signAt M (start + count))) rfl) (va_cwS 2 hts gX7_matched_X7_isOfForm rfl rfl rfl (by decide +kernel) ⟨(Nat.le_of_ble_eq_true rfl), (Nat.le_of_ble_eq_true rfl)⟩) hK hP hD hS rfl hl.1 rfl (Nat.le_of_ble_eq_true rfl) dX7_matched_32 ⟨Nat.zero_le _, Nat.zero_le _⟩ (fun H locs hP hD hS => ?_)
          have q7 := bX7_isOfForm (fX1_signAt co count) (fX7_signAt M (start + count))
          refine z_if_eq hx hb dX7_matched_35 (tgt := 44) rfl (by omega) (fun b8 => ?_) (fun b8 => ?_)
          · rw [if_pos b8] at hE
            refine lv_iload_n hx hb dX7_matched_44 rfl (lv_at hl 3 rfl) ?_
            exact ci_i hx hb hr hlocks hE rfl hS hP dX7_matched_45
          · rw [if_neg b8] at hE
            refine z_iinc hx hb dX7_matched_38 hl (k := 3) rfl (Nat.le_of_ble_eq_true rfl) (lv' := [(3, .int (iI (count + 1))), (0, .ref (E 13)), (1, .ref (T (co).toNat)), (2, .int (iI start))]) rfl (fun ls hl => ?_)
            refine lv_goto hx hb dX7_matched_41 (tgt := 2) rfl ?_
            exact ih1 (count + 1) ls _ _ (lv_sub hl [1, 2, 3, 0] rfl) hP hD hS (by omega) (by omega) hE
  exact L1 11 (0) ls _ _ (lv_sub hl [1, 2, 3, 0] rfl) hP hD hS (by omega) (by omega) hE


theorem rg_X7_matched_L (M : Mem) (co s : Int) : ∀ (k : Nat) (n : Int), 0 ≤ n → n ≤ 9 → 0 ≤ fX7_matched_L1 M co s k n ∧ fX7_matched_L1 M co s k n ≤ 9 := by
  intro k
  induction k with
  | zero => intro n _ _; exact ⟨(by decide : (0 : Int) ≤ 0), (by decide : (0 : Int) ≤ 9)⟩
  | succ k ih =>
    intro n h1 h2
    rw [fX7_matched_L1]
    have := rg_X1_length co
    (repeat' split) <;> first | omega | exact ih _ (by omega) (by omega)
theorem rg_X7_matched (M : Mem) (co s : Int) : 0 ≤ fX7_matched M co s ∧ fX7_matched M co s ≤ 9 := rg_X7_matched_L M co s 11 0 (by decide) (by decide)

def fX7_commandAt_L1 (M : Mem) (start : Int) : Nat → Int → (Int)
  | 0, _ => (-1)
  | k1 + 1, idx => if ((9) ≤ idx) then (-1) else if ((fX7_matched M idx start) = (fX1_length idx)) then idx else fX7_commandAt_L1 M start k1 (idx + 1)
def fX7_commandAt (M : Mem) (start : Int) : Int := fX7_commandAt_L1 M start 10 (0)
set_option maxRecDepth 100000 in
set_option maxHeartbeats 4000000 in
theorem kX7_commandAt (l : Launch) (D : va_G) (E : Nat → Nat) (cI cC : ClassId) (T : Nat → Nat) (M : Mem) (start : Int) (h1 : 0 ≤ start ∧ start ≤ 1000) (hT : TI M) (r : Int) (hE : fX7_commandAt M start = r) : Cr l yX7_commandAt wsX7_commandAt 6 129 [.ref (E 13), .int (iI start)] D (TY cI cC) (VC E cI cC) (ZC E cI cC T) M (zq T r) M := by
  refine Cr.of (cc := cX7_commandAt) (maxL := 6) (ret := (some (.object "NapkinSyntax$Command"))) (by decide +kernel) rfl (Nat.le_of_ble_eq_true rfl) ?_
  intro p e s m args below meth c ls hx hb hml hr hown hts hlocks hP hK hD hZ hS hl
  have hl : lv_has ls 6 [(0, .ref (E 13)), (1, .int (iI start))] := hl
  have S0 : CallFix p m c cX7_commandAt 6 s args wsX7_commandAt RX7 := ⟨hx, hb, hml, hown, hts⟩
  rw [fX7_commandAt] at hE
  refine va_getsN hx hb (ZC_co hZ M) hS hown (va_Nw.use rfl (ZC_nfX7_36 hZ)) (fun _ h => h) dX7_commandAt_0 ?_
  refine lv_astore_n hx hb dX7_commandAt_3 rfl hl (Nat.le_of_ble_eq_true rfl) (lv' := [(2, .ref (T 9)), (0, .ref (E 13)), (1, .int (iI start))]) rfl (fun ls hl => ?_)
  refine lv_aload_n hx hb dX7_commandAt_4 rfl (lv_at hl 0 rfl) ?_
  refine z_tlen (v := (9)) hx hb (ZC_cot hZ M) hS rfl dX7_commandAt_5 ?_
  refine lv_istore_n hx hb dX7_commandAt_6 rfl hl (Nat.le_of_ble_eq_true rfl) (lv' := [(3, .int (iI (9))), (2, .ref (T 9)), (0, .ref (E 13)), (1, .int (iI start))]) rfl (fun ls hl => ?_)
  refine z_iconst hx hb dX7_commandAt_7 ?_
  refine lv_istore hx hb dX7_commandAt_8 hl (Nat.le_of_ble_eq_true rfl) (lv' := [(4, .int (iI (0))), (3, .int (iI (9))), (2, .ref (T 9)), (0, .ref (E 13)), (1, .int (iI start))]) rfl (fun ls hl => ?_)
  have L1 : ∀ (k1 : Nat) (idx : Int) (ls : Array Slot) (H : Heap) (locs : List Loc), lv_has ls 6 [(0, .ref (E 13)), (1, .int (iI start)), (2, .ref (T 9)), (3, .int (iI (9))), (4, .int (iI idx))] → va_P D vwCl (VC E cI cC M) H → va_D (wA (VC E cI cC M)) (VC E cI cC M) → va_S (wA (VC E cI cC M)) s.heap H locs → (0 ≤ idx ∧ idx ≤ 9) → (9 - idx < (k1 : Int)) → fX7_commandAt_L1 M start k1 idx = r → W p l e (zRm 6 129) s m args below meth c H locs 0 0 (MQ below (crQ D (VC E cI cC) M (zq T r) M) args s 0 0 (wA (VC E cI cC M))) (F0 m 10 ls []) := by
    intro k1
    induction k1 with
    | zero => intro idx ls H locs hl hP hD hS i1 i3 hE; exfalso; omega
    | succ k1 ih1 =>
      intro idx ls H locs hl hP hD hS i1 i3 hE
      rw [fX7_commandAt_L1] at hE
      refine lv_iload hx hb dX7_commandAt_10 (lv_at hl 4 rfl) ?_
      refine lv_iload_n hx hb dX7_commandAt_12 rfl (lv_at hl 3 rfl) ?_
      refine z_icmp_ge hx hb dX7_commandAt_13 (tgt := 46) rfl (by omega) (by omega) (fun b1 => ?_) (fun b1 => ?_)
      · rw [if_pos b1] at hE
        refine lv_null hx hb dX7_commandAt_46 ?_
        exact cr_q hx hb hr hlocks hE (zq_n (by decide)) hS hP dX7_commandAt_47
      · rw [if_neg b1] at hE
        refine lv_aload_n hx hb dX7_commandAt_16 rfl (lv_at hl 2 rfl) ?_
        refine lv_iload hx hb dX7_commandAt_17 (lv_at hl 4 rfl) ?_
        refine vb_tq hx hb (ZC_cot hZ M) hS (iI_in (by omega) (by omega) (by decide)) (v := .ref (T (idx).toNat)) (by rw [iI_cl ⟨by omega, by omega⟩]) dX7_commandAt_19 ?_
        refine lv_astore hx hb dX7_commandAt_20 hl (Nat.le_of_ble_eq_true rfl) (lv' := [(5, .ref (T (idx).toNat)), (0, .ref (E 13)), (1, .int (iI start)), (2, .ref (T 9)), (3, .int (iI (9))), (4, .int (iI idx))]) rfl (fun ls hl => ?_)
        refine lv_aload_n hx hb dX7_commandAt_22 rfl (lv_at hl 1 rfl) ?_
        refine lv_aload hx hb dX7_commandAt_23 (lv_at hl 0 rfl) ?_
        refine lv_iload_n hx hb dX7_commandAt_25 rfl (lv_at hl 2 rfl) ?_
        refine ct_Vi (VC_fix E cI cC) (ZC_ok E cI cC T) (ZC_bl E cI cC T) hZ S0 (kX7_matched l D E cI cC T M idx start (by omega) (by omega) hT (fX7_matched M idx start) rfl) (cwV 2 hts gX7_commandAt_X7_matched rfl rfl rfl (by decide +kernel) ⟨(Nat.le_of_ble_eq_true rfl), (Nat.le_of_ble_eq_true rfl)⟩) hK hP hD hS rfl rfl VC_13 rfl hl.1 rfl (Nat.le_of_ble_eq_true rfl) dX7_commandAt_26 ⟨Nat.zero_le _, Nat.zero_le _⟩ (fun H locs hP hD hS => ?_)
        have q2 := rg_X7_matched M idx start
        refine lv_aload hx hb dX7_commandAt_29 (lv_at hl 0 rfl) ?_
        refine ct_Oi (VC_fix E cI cC) (ZC_ok E cI cC T) (ZC_bl E cI cC T) hZ S0 (kX1_length l D E cI cC T M idx (by omega) (fX1_length idx) rfl) (cwV 0 hts gX7_commandAt_X1_length rfl rfl rfl (by decide +kernel) ⟨(Nat.le_of_ble_eq_true rfl), (Nat.le_of_ble_eq_true rfl)⟩) hK hP hD hS (va_Orecv (ZC_cmo hZ M (idx).toNat (by omega)) hS) rfl hl.1 rfl (Nat.le_of_ble_eq_true rfl) dX7_commandAt_31 ⟨Nat.zero_le _, Nat.zero_le _⟩ (fun H locs hP hD hS => ?_)
        have q3 := rg_X1_length idx
        refine z_icmp_ne hx hb dX7_commandAt_34 (tgt := 40) rfl (by omega) (by omega) (fun b4 => ?_) (fun b4 => ?_)
        · rw [if_neg b4] at hE
          refine z_iinc hx hb dX7_commandAt_40 hl (k := 5) rfl (Nat.le_of_ble_eq_true rfl) (lv' := [(4, .int (iI (idx + 1))), (5, .ref (T (idx).toNat)), (0, .ref (E 13)), (1, .int (iI start)), (2, .ref (T 9)), (3, .int (iI (9)))]) rfl (fun ls hl => ?_)
          refine lv_goto hx hb dX7_commandAt_43 (tgt := 10) rfl ?_
          exact ih1 (idx + 1) ls _ _ (lv_sub hl [2, 3, 4, 5, 0] rfl) hP hD hS (by omega) (by omega) hE
        · rw [if_pos b4] at hE
          refine lv_aload hx hb dX7_commandAt_37 (lv_at hl 0 rfl) ?_
          exact cr_q hx hb hr hlocks hE (zq_c (by omega)) hS hP dX7_commandAt_39
  exact L1 10 (0) ls _ _ (lv_sub hl [3, 4, 2, 1, 0] rfl) hP hD hS (by omega) (by omega) hE


theorem rg_X7_commandAt_L (M : Mem) (s : Int) : ∀ (k : Nat) (n : Int), 0 ≤ n → n ≤ 9 → 9 - n < k → -1 ≤ fX7_commandAt_L1 M s k n ∧ fX7_commandAt_L1 M s k n < 9 := by
  intro k
  induction k with
  | zero => intro n _ _ _; omega
  | succ k ih =>
    intro n h1 h2 h3
    rw [fX7_commandAt_L1]
    (repeat' split) <;> first | omega | exact ih _ (by omega) (by omega) (by omega)
theorem rg_X7_commandAt (M : Mem) (s : Int) : -1 ≤ fX7_commandAt M s ∧ fX7_commandAt M s < 9 := rg_X7_commandAt_L M s 10 0 (by decide) (by decide) (by decide)

def fX7_longestMatch_L1 (M : Mem) (start : Int) : Nat → Int → Int → (Int)
  | 0, _, _ => 0
  | k1 + 1, longest, idx => if ((9) ≤ idx) then longest else fX7_longestMatch_L1 M start k1 (zmax longest (fX7_matched M idx start)) (idx + 1)
def fX7_longestMatch (M : Mem) (start : Int) : Int := fX7_longestMatch_L1 M start 10 (0) (0)
set_option maxRecDepth 100000 in
set_option maxHeartbeats 4000000 in
theorem kX7_longestMatch (l : Launch) (D : va_G) (E : Nat → Nat) (cI cC : ClassId) (T : Nat → Nat) (M : Mem) (start : Int) (h1 : 0 ≤ start ∧ start ≤ 1000) (hT : TI M) (r : Int) (hE : fX7_longestMatch M start = r) : Ci l yX7_longestMatch wsX7_longestMatch 6 129 [.ref (E 13), .int (iI start)] D (TY cI cC) (VC E cI cC) (ZC E cI cC T) M r M := by
  refine Ci.of (cc := cX7_longestMatch) (maxL := 7) (ret := (some .int)) (by decide +kernel) rfl (Nat.le_of_ble_eq_true rfl) ?_
  intro p e s m args below meth c ls hx hb hml hr hown hts hlocks hP hK hD hZ hS hl
  have hl : lv_has ls 7 [(0, .ref (E 13)), (1, .int (iI start))] := hl
  have S0 : CallFix p m c cX7_longestMatch 7 s args wsX7_longestMatch RX7 := ⟨hx, hb, hml, hown, hts⟩
  rw [fX7_longestMatch] at hE
  refine z_iconst hx hb dX7_longestMatch_0 ?_
  refine lv_istore_n hx hb dX7_longestMatch_1 rfl hl (Nat.le_of_ble_eq_true rfl) (lv' := [(2, .int (iI (0))), (0, .ref (E 13)), (1, .int (iI start))]) rfl (fun ls hl => ?_)
  refine va_getsN hx hb (ZC_co hZ M) hS hown (va_Nw.use rfl (ZC_nfX7_36 hZ)) (fun _ h => h) dX7_longestMatch_2 ?_
  refine lv_astore_n hx hb dX7_longestMatch_5 rfl hl (Nat.le_of_ble_eq_true rfl) (lv' := [(3, .ref (T 9)), (2, .int (iI (0))), (0, .ref (E 13)), (1, .int (iI start))]) rfl (fun ls hl => ?_)
  refine lv_aload_n hx hb dX7_longestMatch_6 rfl (lv_at hl 0 rfl) ?_
  refine z_tlen (v := (9)) hx hb (ZC_cot hZ M) hS rfl dX7_longestMatch_7 ?_
  refine lv_istore hx hb dX7_longestMatch_8 hl (Nat.le_of_ble_eq_true rfl) (lv' := [(4, .int (iI (9))), (3, .ref (T 9)), (2, .int (iI (0))), (0, .ref (E 13)), (1, .int (iI start))]) rfl (fun ls hl => ?_)
  refine z_iconst hx hb dX7_longestMatch_10 ?_
  refine lv_istore hx hb dX7_longestMatch_11 hl (Nat.le_of_ble_eq_true rfl) (lv' := [(5, .int (iI (0))), (4, .int (iI (9))), (3, .ref (T 9)), (2, .int (iI (0))), (0, .ref (E 13)), (1, .int (iI start))]) rfl (fun ls hl => ?_)
  have L1 : ∀ (k1 : Nat) (longest idx : Int) (ls : Array Slot) (H : Heap) (locs : List Loc), lv_has ls 7 [(0, .ref (E 13)), (1, .int (iI start)), (2, .int (iI longest)), (3, .ref (T 9)), (4, .int (iI (9))), (5, .int (iI idx))] → va_P D vwCl (VC E cI cC M) H → va_D (wA (VC E cI cC M)) (VC E cI cC M) → va_S (wA (VC E cI cC M)) s.heap H locs → (0 ≤ idx ∧ idx ≤ 9) → (0 ≤ longest ∧ longest ≤ 9) → (9 - idx < (k1 : Int)) → fX7_longestMatch_L1 M start k1 longest idx = r → W p l e (zRm 6 129) s m args below meth c H locs 0 0 (MQ below (ciQ D (VC E cI cC) M r M) args s 0 0 (wA (VC E cI cC M))) (F0 m 13 ls []) := by
    intro k1
    induction k1 with
    | zero => intro longest idx ls H locs hl hP hD hS i1 i2 i3 hE; exfalso; omega
    | succ k1 ih1 =>
      intro longest idx ls H locs hl hP hD hS i1 i2 i3 hE
      rw [fX7_longestMatch_L1] at hE
      refine lv_iload hx hb dX7_longestMatch_13 (lv_at hl 5 rfl) ?_
      refine lv_iload hx hb dX7_longestMatch_15 (lv_at hl 4 rfl) ?_
      refine z_icmp_ge hx hb dX7_longestMatch_17 (tgt := 44) rfl (by omega) (by omega) (fun b1 => ?_) (fun b1 => ?_)
      · rw [if_pos b1] at hE
        refine lv_iload_n hx hb dX7_longestMatch_44 rfl (lv_at hl 2 rfl) ?_
        exact ci_i hx hb hr hlocks hE rfl hS hP dX7_longestMatch_45
      · rw [if_neg b1] at hE
        refine lv_aload_n hx hb dX7_longestMatch_20 rfl (lv_at hl 3 rfl) ?_
        refine lv_iload hx hb dX7_longestMatch_21 (lv_at hl 5 rfl) ?_
        refine vb_tq hx hb (ZC_cot hZ M) hS (iI_in (by omega) (by omega) (by decide)) (v := .ref (T (idx).toNat)) (by rw [iI_cl ⟨by omega, by omega⟩]) dX7_longestMatch_23 ?_
        refine lv_astore hx hb dX7_longestMatch_24 hl (Nat.le_of_ble_eq_true rfl) (lv' := [(6, .ref (T (idx).toNat)), (0, .ref (E 13)), (1, .int (iI start)), (2, .int (iI longest)), (3, .ref (T 9)), (4, .int (iI (9))), (5, .int (iI idx))]) rfl (fun ls hl => ?_)
        refine lv_iload_n hx hb dX7_longestMatch_26 rfl (lv_at hl 3 rfl) ?_
        refine lv_aload_n hx hb dX7_longestMatch_27 rfl (lv_at hl 1 rfl) ?_
        refine lv_aload hx hb dX7_longestMatch_28 (lv_at hl 0 rfl) ?_
        refine lv_iload_n hx hb dX7_longestMatch_30 rfl (lv_at hl 2 rfl) ?_
        refine ct_Vi (VC_fix E cI cC) (ZC_ok E cI cC T) (ZC_bl E cI cC T) hZ S0 (kX7_matched l D E cI cC T M idx start (by omega) (by omega) hT (fX7_matched M idx start) rfl) (cwV 2 hts gX7_longestMatch_X7_matched rfl rfl rfl (by decide +kernel) ⟨(Nat.le_of_ble_eq_true rfl), (Nat.le_of_ble_eq_true rfl)⟩) hK hP hD hS rfl rfl VC_13 rfl hl.1 rfl (Nat.le_of_ble_eq_true rfl) dX7_longestMatch_31 ⟨Nat.zero_le _, Nat.zero_le _⟩ (fun H locs hP hD hS => ?_)
        have q2 := rg_X7_matched M idx start
        refine z_mmax hx hb (hml.trans hl.1.symm) hown (hts (.methodLink RX7 49 Lib.Math.max.name) (by decide +kernel)) (hts (.static Lib.Math.max.name) (by decide +kernel)) (hts (.initialized "java/lang/Math") (by decide +kernel)) (hts (.code Lib.Math.max.name Lib.Math.max.code 2 (some .int)) (by decide +kernel)) (Nat.le_of_ble_eq_true rfl) (Nat.le_of_ble_eq_true rfl) (Nat.zero_le _) (Nat.zero_le _) (by omega) (by omega) dX7_longestMatch_34 ?_
        have q3 := zmax_r longest (fX7_matched M idx start)
        refine lv_istore_n hx hb dX7_longestMatch_37 rfl hl (Nat.le_of_ble_eq_true rfl) (lv' := [(2, .int (iI (zmax longest (fX7_matched M idx start)))), (6, .ref (T (idx).toNat)), (0, .ref (E 13)), (1, .int (iI start)), (3, .ref (T 9)), (4, .int (iI (9))), (5, .int (iI idx))]) rfl (fun ls hl => ?_)
        refine z_iinc hx hb dX7_longestMatch_38 hl (k := 6) rfl (Nat.le_of_ble_eq_true rfl) (lv' := [(5, .int (iI (idx + 1))), (2, .int (iI (zmax longest (fX7_matched M idx start)))), (6, .ref (T (idx).toNat)), (0, .ref (E 13)), (1, .int (iI start)), (3, .ref (T 9)), (4, .int (iI (9)))]) rfl (fun ls hl => ?_)
        refine lv_goto hx hb dX7_longestMatch_41 (tgt := 13) rfl ?_
        exact ih1 (zmax longest (fX7_matched M idx start)) (idx + 1) ls _ _ (lv_sub hl [3, 4, 1, 5, 6, 0] rfl) hP hD hS (by omega) (by omega) (by omega) hE
  exact L1 10 (0) (0) ls _ _ (lv_sub hl [4, 5, 3, 2, 1, 0] rfl) hP hD hS (by omega) (by omega) (by omega) hE


theorem rg_X7_longestMatch_L (M : Mem) (s : Int) : ∀ (k : Nat) (a n : Int), 0 ≤ a → a ≤ 9 → 0 ≤ fX7_longestMatch_L1 M s k a n ∧ fX7_longestMatch_L1 M s k a n ≤ 9 := by
  intro k
  induction k with
  | zero => intro a n _ _; exact ⟨(by decide : (0 : Int) ≤ 0), (by decide : (0 : Int) ≤ 9)⟩
  | succ k ih =>
    intro a n h1 h2
    rw [fX7_longestMatch_L1]
    have q := rg_X7_matched M n s
    have q2 := zmax_r a (fX7_matched M n s)
    (repeat' split) <;> first | omega | exact ih _ _ (by omega) (by omega)
theorem rg_X7_longestMatch (M : Mem) (s : Int) : 0 ≤ fX7_longestMatch M s ∧ fX7_longestMatch M s ≤ 9 := rg_X7_longestMatch_L M s 10 0 0 (by decide) (by decide)

def fX7_errorAt_L1 (M : Mem) : Nat → Int → Int → (Int)
  | 0, _, _ => 0
  | k1 + 1, start, number => if ((60) < number) then (-1) else if ((fX7_commandAt M start) < 0) then (start + (fX7_longestMatch M start)) else if ((start + (fX1_length (fX7_commandAt M start))) < (M 11 0)) then if ((fX7_signAt M (start + (fX1_length (fX7_commandAt M start)))) = (59)) then fX7_errorAt_L1 M k1 ((start + (fX1_length (fX7_commandAt M start))) + (1)) (number + 1) else (start + (fX1_length (fX7_commandAt M start))) else (-1)
def fX7_errorAt (M : Mem) : Int := fX7_errorAt_L1 M 62 (0) (0)
set_option maxRecDepth 100000 in
set_option maxHeartbeats 4000000 in
theorem kX7_errorAt (l : Launch) (D : va_G) (E : Nat → Nat) (cI cC : ClassId) (T : Nat → Nat) (M : Mem) (hT : TI M) (r : Int) (hE : fX7_errorAt M = r) : Ci l yX7_errorAt wsX7_errorAt 7 155 [.ref (E 13)] D (TY cI cC) (VC E cI cC) (ZC E cI cC T) M r M := by
  refine Ci.of (cc := cX7_errorAt) (maxL := 5) (ret := (some .int)) (by decide +kernel) rfl (Nat.le_of_ble_eq_true rfl) ?_
  intro p e s m args below meth c ls hx hb hml hr hown hts hlocks hP hK hD hZ hS hl
  have hl : lv_has ls 5 [(0, .ref (E 13))] := hl
  have S0 : CallFix p m c cX7_errorAt 5 s args wsX7_errorAt RX7 := ⟨hx, hb, hml, hown, hts⟩
  have hinX7 : ∀ w ∈ u_ws RX7 TX7 2, w ∈ wsX7_errorAt := by decide +kernel
  rw [fX7_errorAt] at hE
  refine z_iconst hx hb dX7_errorAt_0 ?_
  refine lv_istore_n hx hb dX7_errorAt_1 rfl hl (Nat.le_of_ble_eq_true rfl) (lv' := [(1, .int (iI (0))), (0, .ref (E 13))]) rfl (fun ls hl => ?_)
  refine z_iconst hx hb dX7_errorAt_2 ?_
  refine lv_istore_n hx hb dX7_errorAt_3 rfl hl (Nat.le_of_ble_eq_true rfl) (lv' := [(2, .int (iI (0))), (1, .int (iI (0))), (0, .ref (E 13))]) rfl (fun ls hl => ?_)
  have L1 : ∀ (k1 : Nat) (start number : Int) (ls : Array Slot) (H : Heap) (locs : List Loc), lv_has ls 5 [(0, .ref (E 13)), (1, .int (iI start)), (2, .int (iI number))] → va_P D vwCl (VC E cI cC M) H → va_D (wA (VC E cI cC M)) (VC E cI cC M) → va_S (wA (VC E cI cC M)) s.heap H locs → (0 ≤ number ∧ number ≤ 61) → (0 ≤ start ∧ start ≤ 60) → (61 - number < (k1 : Int)) → fX7_errorAt_L1 M k1 start number = r → W p l e (zRm 7 155) s m args below meth c H locs 0 0 (MQ below (ciQ D (VC E cI cC) M r M) args s 0 0 (wA (VC E cI cC M))) (F0 m 4 ls []) := by
    intro k1
    induction k1 with
    | zero => intro start number ls H locs hl hP hD hS i1 i2 i3 hE; exfalso; omega
    | succ k1 ih1 =>
      intro start number ls H locs hl hP hD hS i1 i2 i3 hE
      have q93 := hT.1
      rw [fX7_errorAt_L1] at hE
      refine lv_iload_n hx hb dX7_errorAt_4 rfl (lv_at hl 2 rfl) ?_
      refine z_bipush hx hb dX7_errorAt_5 (by decide +kernel) ?_
      refine z_icmp_gt hx hb dX7_errorAt_7 (tgt := 72) rfl (by omega) (by omega) (fun b1 => ?_) (fun b1 => ?_)
      · rw [if_pos b1] at hE
        refine z_iconst hx hb dX7_errorAt_72 ?_
        exact ci_i hx hb hr hlocks hE rfl hS hP dX7_errorAt_73
      · rw [if_neg b1] at hE
        refine lv_aload_n hx hb dX7_errorAt_10 rfl (lv_at hl 0 rfl) ?_
        refine lv_iload_n hx hb dX7_errorAt_11 rfl (lv_at hl 1 rfl) ?_
        refine ct_Vr (VC_fix E cI cC) (ZC_ok E cI cC T) (ZC_bl E cI cC T) hZ S0 (kX7_commandAt l D E cI cC T M start (by omega) hT (fX7_commandAt M start) rfl) (cwV 1 hts gX7_errorAt_X7_commandAt rfl rfl rfl (by decide +kernel) ⟨(Nat.le_of_ble_eq_true rfl), (Nat.le_of_ble_eq_true rfl)⟩) hK hP hD hS rfl rfl VC_13 rfl hl.1 rfl (Nat.le_of_ble_eq_true rfl) dX7_errorAt_12 ⟨Nat.zero_le _, Nat.zero_le _⟩ (fun H locs hP hD hS => ?_)
        have q2 := rg_X7_commandAt M start
        refine z_astore_nq hx hb dX7_errorAt_15 rfl hl (Nat.le_of_ble_eq_true rfl) (lv' := [(3, zq T (fX7_commandAt M start)), (0, .ref (E 13)), (1, .int (iI start)), (2, .int (iI number))]) rfl (fun ls hl => ?_)
        refine z_aload_nq hx hb dX7_errorAt_16 rfl (lv_at hl 0 rfl) ?_
        by_cases b3 : ((fX7_commandAt M start) < 0)
        · rw [if_pos b3] at hE
          simp only [zq_n b3] at hl ⊢
          refine lv_ifnonnullN hx hb dX7_errorAt_17 ?_
          refine lv_iload_n hx hb dX7_errorAt_20 rfl (lv_at hl 2 rfl) ?_
          refine lv_aload_n hx hb dX7_errorAt_21 rfl (lv_at hl 1 rfl) ?_
          refine lv_iload_n hx hb dX7_errorAt_22 rfl (lv_at hl 2 rfl) ?_
          refine ct_Vi (VC_fix E cI cC) (ZC_ok E cI cC T) (ZC_bl E cI cC T) hZ S0 (kX7_longestMatch l D E cI cC T M start (by omega) hT (fX7_longestMatch M start) rfl) (cwV 1 hts gX7_errorAt_X7_longestMatch rfl rfl rfl (by decide +kernel) ⟨(Nat.le_of_ble_eq_true rfl), (Nat.le_of_ble_eq_true rfl)⟩) hK hP hD hS rfl rfl VC_13 rfl hl.1 rfl (Nat.le_of_ble_eq_true rfl) dX7_errorAt_23 ⟨Nat.zero_le _, Nat.zero_le _⟩ (fun H locs hP hD hS => ?_)
          have q4 := rg_X7_longestMatch M start
          refine z_iadd hx hb dX7_errorAt_26 ?_
          exact ci_i hx hb hr hlocks hE rfl hS hP dX7_errorAt_27
        · rw [if_neg b3] at hE
          simp only [zq_c b3] at hl ⊢
          refine lv_ifnonnull hx hb dX7_errorAt_17 (tgt := 28) rfl ?_
          refine lv_iload_n hx hb dX7_errorAt_28 rfl (lv_at hl 2 rfl) ?_
          refine lv_aload_n hx hb dX7_errorAt_29 rfl (lv_at hl 0 rfl) ?_
          refine ct_Oi (VC_fix E cI cC) (ZC_ok E cI cC T) (ZC_bl E cI cC T) hZ S0 (kX1_length l D E cI cC T M (fX7_commandAt M start) (by omega) (fX1_length (fX7_commandAt M start)) rfl) (cwV 0 hts gX7_errorAt_X1_length rfl rfl rfl (by decide +kernel) ⟨(Nat.le_of_ble_eq_true rfl), (Nat.le_of_ble_eq_true rfl)⟩) hK hP hD hS (va_Orecv (ZC_cmo hZ M ((fX7_commandAt M start)).toNat (by omega)) hS) rfl hl.1 rfl (Nat.le_of_ble_eq_true rfl) dX7_errorAt_30 ⟨Nat.zero_le _, Nat.zero_le _⟩ (fun H locs hP hD hS => ?_)
          have q5 := rg_X1_length (fX7_commandAt M start)
          refine z_iadd hx hb dX7_errorAt_33 ?_
          refine lv_istore hx hb dX7_errorAt_34 hl (Nat.le_of_ble_eq_true rfl) (lv' := [(4, .int (iI (start + (fX1_length (fX7_commandAt M start))))), (3, .ref (T ((fX7_commandAt M start)).toNat)), (0, .ref (E 13)), (1, .int (iI start)), (2, .int (iI number))]) rfl (fun ls hl => ?_)
          refine lv_iload hx hb dX7_errorAt_36 (lv_at hl 0 rfl) ?_
          refine lv_aload_n hx hb dX7_errorAt_38 rfl (lv_at hl 2 rfl) ?_
          refine va_get (own := RX7) (ref := "NapkinSyntax$Text") (C := RX7) (T := TX7) (N := 2) hx hb hts hinX7 hown hK hP 13 VC_13 rfl 1 (Nat.le_of_ble_eq_true rfl) (hts (.fieldLink RX7 15 "NapkinSyntax$Text" "length" "I") (by decide +kernel)) (fun _ h => h) (v := .int (iI (M 11 0))) rfl dX7_errorAt_39 ?_
          have q6 := hT.1
          refine z_icmp_lt hx hb dX7_errorAt_42 (tgt := 47) rfl (by omega) (by omega) (fun b7 => ?_) (fun b7 => ?_)
          · rw [if_pos b7] at hE
            refine lv_aload_n hx hb dX7_errorAt_47 rfl (lv_at hl 2 rfl) ?_
            refine lv_iload hx hb dX7_errorAt_48 (lv_at hl 0 rfl) ?_
            refine ct_Vi (VC_fix E cI cC) (ZC_ok E cI cC T) (ZC_bl E cI cC T) hZ S0 (kX7_signAt l D E cI cC (ZC E cI cC T) (ZC_ok E cI cC T) (ZC_bl E cI cC T) M (start + (fX1_length (fX7_commandAt M start))) (by omega) hT (fX7_signAt M (start + (fX1_length (fX7_commandAt M start)))) rfl) (cwV 1 hts gX7_errorAt_X7_signAt rfl rfl rfl (by decide +kernel) ⟨(Nat.le_of_ble_eq_true rfl), (Nat.le_of_ble_eq_true rfl)⟩) hK hP hD hS rfl rfl VC_13 rfl hl.1 rfl (Nat.le_of_ble_eq_true rfl) dX7_errorAt_50 ⟨Nat.zero_le _, Nat.zero_le _⟩ (fun H locs hP hD hS => ?_)
            have q8 := rg_X7_signAt hT (start + (fX1_length (fX7_commandAt M start)))
            refine z_bipush hx hb dX7_errorAt_53 (by decide +kernel) ?_
            refine z_icmp_eq hx hb dX7_errorAt_55 (tgt := 61) rfl (by omega) (by omega) (fun b9 => ?_) (fun b9 => ?_)
            · rw [if_pos b9] at hE
              refine lv_iload hx hb dX7_errorAt_61 (lv_at hl 0 rfl) ?_
              refine z_iconst hx hb dX7_errorAt_63 ?_
              refine z_iadd hx hb dX7_errorAt_64 ?_
              refine lv_istore_n hx hb dX7_errorAt_65 rfl hl (Nat.le_of_ble_eq_true rfl) (lv' := [(1, .int (iI ((start + (fX1_length (fX7_commandAt M start))) + (1)))), (4, .int (iI (start + (fX1_length (fX7_commandAt M start))))), (3, .ref (T ((fX7_commandAt M start)).toNat)), (0, .ref (E 13)), (2, .int (iI number))]) rfl (fun ls hl => ?_)
              refine z_iinc hx hb dX7_errorAt_66 hl (k := 4) rfl (Nat.le_of_ble_eq_true rfl) (lv' := [(2, .int (iI (number + 1))), (1, .int (iI ((start + (fX1_length (fX7_commandAt M start))) + (1)))), (4, .int (iI (start + (fX1_length (fX7_commandAt M start))))), (3, .ref (T ((fX7_commandAt M start)).toNat)), (0, .ref (E 13))]) rfl (fun ls hl => ?_)
              refine lv_goto hx hb dX7_errorAt_69 (tgt := 4) rfl ?_
              exact ih1 ((start + (fX1_length (fX7_commandAt M start))) + (1)) (number + 1) ls _ _ (lv_sub hl [4, 1, 0] rfl) hP hD hS (by omega) (by omega) (by omega) hE
            · rw [if_neg b9] at hE
              refine lv_iload hx hb dX7_errorAt_58 (lv_at hl 0 rfl) ?_
              exact ci_i hx hb hr hlocks hE rfl hS hP dX7_errorAt_60
          · rw [if_neg b7] at hE
            refine z_iconst hx hb dX7_errorAt_45 ?_
            exact ci_i hx hb hr hlocks hE rfl hS hP dX7_errorAt_46
  exact L1 62 (0) (0) ls _ _ (lv_sub hl [2, 1, 0] rfl) hP hD hS (by omega) (by omega) (by omega) hE

def fX7_argument_L1 (M : Mem) (co start number : Int) : Nat → Int → Int → (Int)
  | 0, _, _ => 0
  | k1 + 1, seen, index => if ((fX1_length co) ≤ index) then (0) else if ((fX1_signAt co index) = (35)) then if (seen = number) then (fX7_valueOf (fX1_signAt co index) (fX7_signAt M (start + index))) else fX7_argument_L1 M co start number k1 (seen + 1) (index + 1) else if ((fX1_signAt co index) = (64)) then if (seen = number) then (fX7_valueOf (fX1_signAt co index) (fX7_signAt M (start + index))) else fX7_argument_L1 M co start number k1 (seen + 1) (index + 1) else fX7_argument_L1 M co start number k1 seen (index + 1)
def fX7_argument (M : Mem) (co start number : Int) : Int := fX7_argument_L1 M co start number 11 (0) (0)
set_option maxRecDepth 100000 in
set_option maxHeartbeats 4000000 in
theorem kX7_argument (l : Launch) (D : va_G) (E : Nat → Nat) (cI cC : ClassId) (T : Nat → Nat) (M : Mem) (co start number : Int) (h0 : 0 ≤ co ∧ co < 9) (h1 : 0 ≤ start ∧ start ≤ 1000) (h2 : -2147483648 ≤ number ∧ number < 2147483648) (hT : TI M) (r : Int) (hE : fX7_argument M co start number = r) : Ci l yX7_argument wsX7_argument 5 106 [.ref (E 13), .ref (T (co).toNat), .int (iI start), .int (iI number)] D (TY cI cC) (VC E cI cC) (ZC E cI cC T) M r M := by
  refine Ci.of (cc := cX7_argument) (maxL := 7) (ret := (some .int)) (by decide +kernel) rfl (Nat.le_of_ble_eq_true rfl) ?_
  intro p e s m args below meth c ls hx hb hml hr hown hts hlocks hP hK hD hZ hS hl
  have hl : lv_has ls 7 [(0, .ref (E 13)), (1, .ref (T (co).toNat)), (2, .int (iI start)), (3, .int (iI number))] := hl
  have S0 : CallFix p m c cX7_argument 7 s args wsX7_argument RX7 := ⟨hx, hb, hml, hown, hts⟩
  rw [fX7_argument] at hE
  refine z_iconst hx hb dX7_argument_0 ?_
  refine lv_istore hx hb dX7_argument_1 hl (Nat.le_of_ble_eq_true rfl) (lv' := [(4, .int (iI (0))), (0, .ref (E 13)), (1, .ref (T (co).toNat)), (2, .int (iI start)), (3, .int (iI number))]) rfl (fun ls hl => ?_)
  refine z_iconst hx hb dX7_argument_3 ?_
  refine lv_istore hx hb dX7_argument_4 hl (Nat.le_of_ble_eq_true rfl) (lv' := [(5, .int (iI (0))), (4, .int (iI (0))), (0, .ref (E 13)), (1, .ref (T (co).toNat)), (2, .int (iI start)), (3, .int (iI number))]) rfl (fun ls hl => ?_)
  have L1 : ∀ (k1 : Nat) (seen index : Int) (ls : Array Slot) (H : Heap) (locs : List Loc), lv_has ls 7 [(0, .ref (E 13)), (1, .ref (T (co).toNat)), (2, .int (iI start)), (3, .int (iI number)), (4, .int (iI seen)), (5, .int (iI index))] → va_P D vwCl (VC E cI cC M) H → va_D (wA (VC E cI cC M)) (VC E cI cC M) → va_S (wA (VC E cI cC M)) s.heap H locs → (0 ≤ index ∧ index ≤ 9) → (0 ≤ seen ∧ seen ≤ index) → (9 - index < (k1 : Int)) → fX7_argument_L1 M co start number k1 seen index = r → W p l e (zRm 5 106) s m args below meth c H locs 0 0 (MQ below (ciQ D (VC E cI cC) M r M) args s 0 0 (wA (VC E cI cC M))) (F0 m 6 ls []) := by
    intro k1
    induction k1 with
    | zero => intro seen index ls H locs hl hP hD hS i1 i2 i3 hE; exfalso; omega
    | succ k1 ih1 =>
      intro seen index ls H locs hl hP hD hS i1 i2 i3 hE
      have q92 := rg_X1_length co
      rw [fX7_argument_L1] at hE
      refine lv_iload hx hb dX7_argument_6 (lv_at hl 5 rfl) ?_
      refine lv_aload_n hx hb dX7_argument_8 rfl (lv_at hl 1 rfl) ?_
      refine ct_Oi (VC_fix E cI cC) (ZC_ok E cI cC T) (ZC_bl E cI cC T) hZ S0 (kX1_length l D E cI cC T M co (by omega) (fX1_length co) rfl) (cwV 0 hts gX7_argument_X1_length rfl rfl rfl (by decide +kernel) ⟨(Nat.le_of_ble_eq_true rfl), (Nat.le_of_ble_eq_true rfl)⟩) hK hP hD hS (va_Orecv (ZC_cmo hZ M (co).toNat (by omega)) hS) rfl hl.1 rfl (Nat.le_of_ble_eq_true rfl) dX7_argument_9 ⟨Nat.zero_le _, Nat.zero_le _⟩ (fun H locs hP hD hS => ?_)
      have q1 := rg_X1_length co
      refine z_icmp_ge hx hb dX7_argument_12 (tgt := 66) rfl (by omega) (by omega) (fun b2 => ?_) (fun b2 => ?_)
      · rw [if_pos b2] at hE
        refine z_iconst hx hb dX7_argument_66 ?_
        exact ci_i hx hb hr hlocks hE rfl hS hP dX7_argument_67
      · rw [if_neg b2] at hE
        refine lv_aload_n hx hb dX7_argument_15 rfl (lv_at hl 1 rfl) ?_
        refine lv_iload hx hb dX7_argument_16 (lv_at hl 5 rfl) ?_
        refine ct_Oi (VC_fix E cI cC) (ZC_ok E cI cC T) (ZC_bl E cI cC T) hZ S0 (kX1_signAt l D E cI cC T M co index (by omega) (by omega) (fX1_signAt co index) rfl) (cwV 1 hts gX7_argument_X1_signAt rfl rfl rfl (by decide +kernel) ⟨(Nat.le_of_ble_eq_true rfl), (Nat.le_of_ble_eq_true rfl)⟩) hK hP hD hS (va_Orecv (ZC_cmo hZ M (co).toNat (by omega)) hS) rfl hl.1 rfl (Nat.le_of_ble_eq_true rfl) dX7_argument_18 ⟨Nat.zero_le _, Nat.zero_le _⟩ (fun H locs hP hD hS => ?_)
        have q3 := rg_X1_signAt co index
        refine lv_istore hx hb dX7_argument_21 hl (Nat.le_of_ble_eq_true rfl) (lv' := [(6, .int (iI (fX1_signAt co index))), (0, .ref (E 13)), (1, .ref (T (co).toNat)), (2, .int (iI start)), (3, .int (iI number)), (4, .int (iI seen)), (5, .int (iI index))]) rfl (fun ls hl => ?_)
        refine lv_iload hx hb dX7_argument_23 (lv_at hl 0 rfl) ?_
        refine z_bipush hx hb dX7_argument_25 (by decide +kernel) ?_
        refine z_icmp_eq hx hb dX7_argument_27 (tgt := 37) rfl (by omega) (by omega) (fun b4 => ?_) (fun b4 => ?_)
        · rw [if_pos b4] at hE
          refine lv_iload hx hb dX7_argument_37 (lv_at hl 5 rfl) ?_
          refine lv_iload_n hx hb dX7_argument_39 rfl (lv_at hl 4 rfl) ?_
          refine z_icmp_ne hx hb dX7_argument_40 (tgt := 57) rfl (by omega) (by omega) (fun b5 => ?_) (fun b5 => ?_)
          · rw [if_neg b5] at hE
            refine z_iinc hx hb dX7_argument_57 hl (k := 5) rfl (Nat.le_of_ble_eq_true rfl) (lv' := [(4, .int (iI (seen + 1))), (6, .int (iI (fX1_signAt co index))), (0, .ref (E 13)), (1, .ref (T (co).toNat)), (2, .int (iI start)), (3, .int (iI number)), (5, .int (iI index))]) rfl (fun ls hl => ?_)
            refine z_iinc hx hb dX7_argument_60 hl (k := 6) rfl (Nat.le_of_ble_eq_true rfl) (lv' := [(5, .int (iI (index + 1))), (4, .int (iI (seen + 1))), (6, .int (iI (fX1_signAt co index))), (0, .ref (E 13)), (1, .ref (T (co).toNat)), (2, .int (iI start)), (3, .int (iI number))]) rfl (fun ls hl => ?_)
            refine lv_goto hx hb dX7_argument_63 (tgt := 6) rfl ?_
            exact ih1 (seen + 1) (index + 1) ls _ _ (lv_sub hl [3, 4, 5, 6, 1, 0] rfl) hP hD hS (by omega) (by omega) (by omega) hE
          · rw [if_pos b5] at hE
            refine lv_iload hx hb dX7_argument_43 (lv_at hl 0 rfl) ?_
            refine lv_aload_n hx hb dX7_argument_45 rfl (lv_at hl 1 rfl) ?_
            refine lv_iload_n hx hb dX7_argument_46 rfl (lv_at hl 3 rfl) ?_
            refine lv_iload hx hb dX7_argument_47 (lv_at hl 6 rfl) ?_
            refine z_iadd hx hb dX7_argument_49 ?_
            refine ct_Vi (VC_fix E cI cC) (ZC_ok E cI cC T) (ZC_bl E cI cC T) hZ S0 (kX7_signAt l D E cI cC (ZC E cI cC T) (ZC_ok E cI cC T) (ZC_bl E cI cC T) M (start + index) (by omega) hT (fX7_signAt M (start + index)) rfl) (cwV 1 hts gX7_argument_X7_signAt rfl rfl rfl (by decide +kernel) ⟨(Nat.le_of_ble_eq_true rfl), (Nat.le_of_ble_eq_true rfl)⟩) hK hP hD hS rfl rfl VC_13 rfl hl.1 rfl (Nat.le_of_ble_eq_true rfl) dX7_argument_50 ⟨Nat.zero_le _, Nat.zero_le _⟩ (fun H locs hP hD hS => ?_)
            have q6 := rg_X7_signAt hT (start + index)
            refine ct_Si (VC_fix E cI cC) (ZC_ok E cI cC T) (ZC_bl E cI cC T) hZ S0 (kX7_valueOf l D E cI cC T M (fX1_signAt co index) (fX7_signAt M (start + index)) (by omega) (by omega) (fX7_valueOf (fX1_signAt co index) (fX7_signAt M (start + index))) rfl) (va_cwS 2 hts gX7_argument_X7_valueOf rfl rfl rfl (by decide +kernel) ⟨(Nat.le_of_ble_eq_true rfl), (Nat.le_of_ble_eq_true rfl)⟩) hK hP hD hS rfl hl.1 rfl (Nat.le_of_ble_eq_true rfl) dX7_argument_53 ⟨Nat.zero_le _, Nat.zero_le _⟩ (fun H locs hP hD hS => ?_)
            have q7 := rg_X7_valueOf (fX1_signAt co index) (fX7_signAt M (start + index))
            exact ci_i hx hb hr hlocks hE rfl hS hP dX7_argument_56
        · rw [if_neg b4] at hE
          refine lv_iload hx hb dX7_argument_30 (lv_at hl 0 rfl) ?_
          refine z_bipush hx hb dX7_argument_32 (by decide +kernel) ?_
          refine z_icmp_ne hx hb dX7_argument_34 (tgt := 60) rfl (by omega) (by omega) (fun b8 => ?_) (fun b8 => ?_)
          · rw [if_neg b8] at hE
            refine z_iinc hx hb dX7_argument_60 hl (k := 6) rfl (Nat.le_of_ble_eq_true rfl) (lv' := [(5, .int (iI (index + 1))), (6, .int (iI (fX1_signAt co index))), (0, .ref (E 13)), (1, .ref (T (co).toNat)), (2, .int (iI start)), (3, .int (iI number)), (4, .int (iI seen))]) rfl (fun ls hl => ?_)
            refine lv_goto hx hb dX7_argument_63 (tgt := 6) rfl ?_
            exact ih1 seen (index + 1) ls _ _ (lv_sub hl [2, 3, 4, 5, 6, 0] rfl) hP hD hS (by omega) (by omega) (by omega) hE
          · rw [if_pos b8] at hE
            refine lv_iload hx hb dX7_argument_37 (lv_at hl 5 rfl) ?_
            refine lv_iload_n hx hb dX7_argument_39 rfl (lv_at hl 4 rfl) ?_
            refine z_icmp_ne hx hb dX7_argument_40 (tgt := 57) rfl (by omega) (by omega) (fun b9 => ?_) (fun b9 => ?_)
            · rw [if_neg b9] at hE
              refine z_iinc hx hb dX7_argument_57 hl (k := 5) rfl (Nat.le_of_ble_eq_true rfl) (lv' := [(4, .int (iI (seen + 1))), (6, .int (iI (fX1_signAt co index))), (0, .ref (E 13)), (1, .ref (T (co).toNat)), (2, .int (iI start)), (3, .int (iI number)), (5, .int (iI index))]) rfl (fun ls hl => ?_)
              refine z_iinc hx hb dX7_argument_60 hl (k := 6) rfl (Nat.le_of_ble_eq_true rfl) (lv' := [(5, .int (iI (index + 1))), (4, .int (iI (seen + 1))), (6, .int (iI (fX1_signAt co index))), (0, .ref (E 13)), (1, .ref (T (co).toNat)), (2, .int (iI start)), (3, .int (iI number))]) rfl (fun ls hl => ?_)
              refine lv_goto hx hb dX7_argument_63 (tgt := 6) rfl ?_
              exact ih1 (seen + 1) (index + 1) ls _ _ (lv_sub hl [3, 4, 5, 6, 1, 0] rfl) hP hD hS (by omega) (by omega) (by omega) hE
            · rw [if_pos b9] at hE
              refine lv_iload hx hb dX7_argument_43 (lv_at hl 0 rfl) ?_
              refine lv_aload_n hx hb dX7_argument_45 rfl (lv_at hl 1 rfl) ?_
              refine lv_iload_n hx hb dX7_argument_46 rfl (lv_at hl 3 rfl) ?_
              refine lv_iload hx hb dX7_argument_47 (lv_at hl 6 rfl) ?_
              refine z_iadd hx hb dX7_argument_49 ?_
              refine ct_Vi (VC_fix E cI cC) (ZC_ok E cI cC T) (ZC_bl E cI cC T) hZ S0 (kX7_signAt l D E cI cC (ZC E cI cC T) (ZC_ok E cI cC T) (ZC_bl E cI cC T) M (start + index) (by omega) hT (fX7_signAt M (start + index)) rfl) (cwV 1 hts gX7_argument_X7_signAt rfl rfl rfl (by decide +kernel) ⟨(Nat.le_of_ble_eq_true rfl), (Nat.le_of_ble_eq_true rfl)⟩) hK hP hD hS rfl rfl VC_13 rfl hl.1 rfl (Nat.le_of_ble_eq_true rfl) dX7_argument_50 ⟨Nat.zero_le _, Nat.zero_le _⟩ (fun H locs hP hD hS => ?_)
              have q10 := rg_X7_signAt hT (start + index)
              refine ct_Si (VC_fix E cI cC) (ZC_ok E cI cC T) (ZC_bl E cI cC T) hZ S0 (kX7_valueOf l D E cI cC T M (fX1_signAt co index) (fX7_signAt M (start + index)) (by omega) (by omega) (fX7_valueOf (fX1_signAt co index) (fX7_signAt M (start + index))) rfl) (va_cwS 2 hts gX7_argument_X7_valueOf rfl rfl rfl (by decide +kernel) ⟨(Nat.le_of_ble_eq_true rfl), (Nat.le_of_ble_eq_true rfl)⟩) hK hP hD hS rfl hl.1 rfl (Nat.le_of_ble_eq_true rfl) dX7_argument_53 ⟨Nat.zero_le _, Nat.zero_le _⟩ (fun H locs hP hD hS => ?_)
              have q11 := rg_X7_valueOf (fX1_signAt co index) (fX7_signAt M (start + index))
              exact ci_i hx hb hr hlocks hE rfl hS hP dX7_argument_56
  exact L1 11 (0) (0) ls _ _ (lv_sub hl [2, 3, 4, 5, 1, 0] rfl) hP hD hS (by omega) (by omega) (by omega) hE


theorem rg_X7_argument_L (M : Mem) (co s n : Int) : ∀ (k : Nat) (a i : Int), -1 ≤ fX7_argument_L1 M co s n k a i ∧ fX7_argument_L1 M co s n k a i ≤ 9 := by
  intro k
  induction k with
  | zero => intro a i; exact ⟨(by decide : (-1 : Int) ≤ 0), (by decide : (0 : Int) ≤ 9)⟩
  | succ k ih =>
    intro a i
    rw [fX7_argument_L1]
    have q := rg_X7_valueOf (fX1_signAt co i) (fX7_signAt M (s + i))
    (repeat' split) <;> first | omega | exact ih _ _
theorem rg_X7_argument (M : Mem) (co s n : Int) : -1 ≤ fX7_argument M co s n ∧ fX7_argument M co s n ≤ 9 := rg_X7_argument_L M co s n 11 0 0
