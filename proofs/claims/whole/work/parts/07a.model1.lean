/-! the model: first part -/

/-- what holds of the model's row g at all times -/
def GI (M : Mem) : Prop := (0 ≤ M 0 0 ∧ M 0 0 ≤ 10) ∧ (∀ j : Int, 5 ≤ j → j < 15 → 0 ≤ M 0 j ∧ M 0 j ≤ 3) ∧ (∀ j : Int, 15 ≤ j → j < 25 → 0 ≤ M 0 j ∧ M 0 j ≤ 4) ∧ (∀ j : Int, 25 ≤ j → j < 35 → 0 ≤ M 0 j ∧ M 0 j ≤ 12) ∧ (∀ j : Int, 35 ≤ j → j < 45 → 0 ≤ M 0 j ∧ M 0 j ≤ 9) ∧ (∀ j : Int, 55 ≤ j → j < 58 → 0 ≤ M 0 j ∧ M 0 j ≤ 6) ∧ (∀ j : Int, 64 ≤ j → j < 82 → 0 ≤ M 0 j ∧ M 0 j ≤ 9)
def RI (M : Mem) : Prop := (0 ≤ M 17 0 ∧ M 17 0 ≤ 60) ∧ (0 ≤ M 27 0 ∧ M 27 0 ≤ 60) ∧ (0 ≤ M 28 0 ∧ M 28 0 ≤ 1) ∧ ∀ j : Int, 0 ≤ j → j < 60 → 0 ≤ M 4 j ∧ M 4 j < 65536
def CH (M : Mem) : Prop := 0 ≤ M 13 0 ∧ M 13 0 ≤ 8
def WI (M : Mem) : Prop := (0 ≤ M 25 0 ∧ M 25 0 ≤ 60) ∧ ∀ j : Int, 0 ≤ j → j < 60 → 0 ≤ M 5 j ∧ M 5 j < 65536
theorem GI_of {M N : Mem} (h0 : N 0 = M 0) (h : GI M) : GI N := by unfold GI at *; rw [h0]; exact h
theorem RI_of {M N : Mem} (h4 : N 4 = M 4) (h17 : N 17 = M 17) (h27 : N 27 = M 27) (h28 : N 28 = M 28) (h : RI M) : RI N := by unfold RI at *; rw [h4, h17, h27, h28]; exact h
theorem CH_of {M N : Mem} (h13 : N 13 = M 13) (h : CH M) : CH N := by unfold CH at *; rw [h13]; exact h
theorem WI_of {M N : Mem} (h5 : N 5 = M 5) (h25 : N 25 = M 25) (h : WI M) : WI N := by unfold WI at *; rw [h5, h25]; exact h
theorem CH_i {M : Mem} (h : CH M) : 0 ≤ M 13 0 ∧ M 13 0 ≤ 8 := h
theorem RI_17 {M : Mem} (h : RI M) : 0 ≤ M 17 0 ∧ M 17 0 ≤ 60 := h.1
theorem RI_27 {M : Mem} (h : RI M) : 0 ≤ M 27 0 ∧ M 27 0 ≤ 60 := h.2.1
theorem RI_28 {M : Mem} (h : RI M) : 0 ≤ M 28 0 ∧ M 28 0 ≤ 1 := h.2.2.1
theorem RI_4 {M : Mem} (h : RI M) (j : Int) (a : 0 ≤ j) (b : j < 60) : 0 ≤ M 4 j ∧ M 4 j < 65536 := h.2.2.2 j a b
theorem GI_0 {M : Mem} (h : GI M) : 0 ≤ M 0 0 ∧ M 0 0 ≤ 10 := h.1
theorem GI_5 {M : Mem} (h : GI M) (j : Int) (a : 5 ≤ j) (b : j < 15) : 0 ≤ M 0 j ∧ M 0 j ≤ 3 := h.2.1 j a b
theorem GI_15 {M : Mem} (h : GI M) (j : Int) (a : 14 ≤ j) (b : j < 25) : 0 ≤ M 0 j ∧ M 0 j ≤ 4 := by
  by_cases e : j = 14
  · subst e
    have := h.2.1 14 (by decide) (by decide)
    omega
  · exact h.2.2.1 j (by omega) b
theorem GI_25 {M : Mem} (h : GI M) (j : Int) (a : 25 ≤ j) (b : j < 35) : 0 ≤ M 0 j ∧ M 0 j ≤ 12 := h.2.2.2.1 j a b
theorem GI_35 {M : Mem} (h : GI M) (j : Int) (a : 34 ≤ j) (b : j < 45) : 0 ≤ M 0 j ∧ M 0 j ≤ 12 ∧ (35 ≤ j → M 0 j ≤ 9) := by
  by_cases e : j = 34
  · subst e
    have := h.2.2.2.1 34 (by decide) (by decide)
    omega
  · have := h.2.2.2.2.1 j (by omega) b
    omega
theorem GI_55 {M : Mem} (h : GI M) (j : Int) (a : 55 ≤ j) (b : j < 58) : 0 ≤ M 0 j ∧ M 0 j ≤ 6 := h.2.2.2.2.2.1 j a b
theorem GI_64 {M : Mem} (h : GI M) (j : Int) (a : 64 ≤ j) (b : j < 82) : 0 ≤ M 0 j ∧ M 0 j ≤ 9 := h.2.2.2.2.2.2 j a b

def fX9_thrown (M : Mem) : Int := (M 26 0)
set_option maxRecDepth 100000 in
set_option maxHeartbeats 4000000 in
theorem kX9_thrown (l : Launch) (D : va_G) (E : Nat → Nat) (cI cC : ClassId) (Z : State → Prop) (hZo : ∀ M : Mem, ZOk (VG E cI cC M) Z) (hZb : ZBl Z) (M : Mem)  (r : Int) (hE : fX9_thrown M = r) : Ci l yX9_thrown wsX9_thrown 0 0 [.ref (E 0)] D (TY cI cC) (VG E cI cC) Z M r M := by
  refine Ci.of (cc := cX9_thrown) (maxL := 1) (ret := (some .int)) (by decide +kernel) rfl (Nat.le_of_ble_eq_true rfl) ?_
  intro p e s m args below meth c ls hx hb hml hr hown hts hlocks hP hK hD hZ hS hl
  have hl : lv_has ls 1 [(0, .ref (E 0))] := hl
  have S0 : CallFix p m c cX9_thrown 1 s args wsX9_thrown RX9 := ⟨hx, hb, hml, hown, hts⟩
  have hinX9 : ∀ w ∈ u_ws RX9 TX9 20, w ∈ wsX9_thrown := by decide +kernel
  rw [fX9_thrown] at hE
  refine lv_aload_n hx hb dX9_thrown_0 rfl (lv_at hl 0 rfl) ?_
  refine va_get (own := RX9) (ref := "NapkinSyntaxModel") (C := RX9) (T := TX9) (N := 20) hx hb hts hinX9 hown hK hP 0 VG_0 rfl 16 (Nat.le_of_ble_eq_true rfl) (hts (.fieldLink RX9 36 "NapkinSyntaxModel" "thrown" "I") (by decide +kernel)) (fun _ h => h) (v := .int (iI (M 26 0))) rfl dX9_thrown_1 ?_
  exact ci_i hx hb hr hlocks hE rfl hS hP dX9_thrown_4

def fX9_in (v low high : Int) : Int := if (v < low) then (0) else if (high < v) then (0) else (1)
set_option maxRecDepth 100000 in
set_option maxHeartbeats 4000000 in
theorem kX9_in (l : Launch) (D : va_G) (E : Nat → Nat) (cI cC : ClassId) (Z : State → Prop) (hZo : ∀ M : Mem, ZOk (VG E cI cC M) Z) (hZb : ZBl Z) (M : Mem) (v low high : Int) (h1 : -2147483648 ≤ v ∧ v < 2147483648) (h2 : -2147483648 ≤ low ∧ low < 2147483648) (h3 : -2147483648 ≤ high ∧ high < 2147483648) (r : Int) (hE : fX9_in v low high = r) : Ci l yX9_in wsX9_in 0 0 [.int (iI v), .int (iI low), .int (iI high)] D (TY cI cC) (VG E cI cC) Z M r M := by
  refine Ci.of (cc := cX9_in) (maxL := 3) (ret := (some .boolean)) (by decide +kernel) rfl (Nat.le_of_ble_eq_true rfl) ?_
  intro p e s m args below meth c ls hx hb hml hr hown hts hlocks hP hK hD hZ hS hl
  have hl : lv_has ls 3 [(0, .int (iI v)), (1, .int (iI low)), (2, .int (iI high))] := hl
  have S0 : CallFix p m c cX9_in 3 s args wsX9_in RX9 := ⟨hx, hb, hml, hown, hts⟩
  rw [fX9_in] at hE
  refine lv_iload_n hx hb dX9_in_0 rfl (lv_at hl 0 rfl) ?_
  refine lv_iload_n hx hb dX9_in_1 rfl (lv_at hl 1 rfl) ?_
  refine z_icmp_lt hx hb dX9_in_2 (tgt := 14) rfl (by omega) (by omega) (fun b1 => ?_) (fun b1 => ?_)
  · rw [if_pos b1] at hE
    refine z_iconst hx hb dX9_in_14 ?_
    exact ci_i hx hb hr hlocks hE nr_b0 hS hP dX9_in_15
  · rw [if_neg b1] at hE
    refine lv_iload_n hx hb dX9_in_5 rfl (lv_at hl 0 rfl) ?_
    refine lv_iload_n hx hb dX9_in_6 rfl (lv_at hl 2 rfl) ?_
    refine z_icmp_gt hx hb dX9_in_7 (tgt := 14) rfl (by omega) (by omega) (fun b2 => ?_) (fun b2 => ?_)
    · rw [if_pos b2] at hE
      refine z_iconst hx hb dX9_in_14 ?_
      exact ci_i hx hb hr hlocks hE nr_b0 hS hP dX9_in_15
    · rw [if_neg b2] at hE
      refine z_iconst hx hb dX9_in_10 ?_
      refine lv_goto hx hb dX9_in_11 (tgt := 15) rfl ?_
      exact ci_i hx hb hr hlocks hE nr_b1 hS hP dX9_in_15


theorem dX9_in (v a b : Int) : (fX9_in v a b = 0 ∧ ¬ (a ≤ v ∧ v ≤ b)) ∨ (fX9_in v a b = 1 ∧ a ≤ v ∧ v ≤ b) := by unfold fX9_in; (repeat' split) <;> omega

def fX9_done (M : Mem) (v : Int) : Int × Mem := (v, (msf M 26 (0)))
set_option maxRecDepth 100000 in
set_option maxHeartbeats 4000000 in
theorem kX9_done (l : Launch) (D : va_G) (E : Nat → Nat) (cI cC : ClassId) (Z : State → Prop) (hZo : ∀ M : Mem, ZOk (VG E cI cC M) Z) (hZb : ZBl Z) (M : Mem) (v : Int)  (r : Int) (M' : Mem) (hE : fX9_done M v = (r, M')) : Ci l yX9_done wsX9_done 0 0 [.ref (E 0), .int (iI v)] D (TY cI cC) (VG E cI cC) Z M r M' := by
  refine Ci.of (cc := cX9_done) (maxL := 2) (ret := (some .int)) (by decide +kernel) rfl (Nat.le_of_ble_eq_true rfl) ?_
  intro p e s m args below meth c ls hx hb hml hr hown hts hlocks hP hK hD hZ hS hl
  have hl : lv_has ls 2 [(0, .ref (E 0)), (1, .int (iI v))] := hl
  have S0 : CallFix p m c cX9_done 2 s args wsX9_done RX9 := ⟨hx, hb, hml, hown, hts⟩
  have hinX9 : ∀ w ∈ u_ws RX9 TX9 20, w ∈ wsX9_done := by decide +kernel
  rw [fX9_done] at hE
  refine lv_aload_n hx hb dX9_done_0 rfl (lv_at hl 0 rfl) ?_
  refine z_iconst hx hb dX9_done_1 ?_
  refine va_put (own := RX9) (ref := "NapkinSyntaxModel") (C := RX9) (T := TX9) (N := 20) hx hb hts hinX9 tyX9 tyX9_ok nmX9 hown hK hP hD hS 0 VG_0 rfl 16 (Nat.le_of_ble_eq_true rfl) (hts (.fieldLink RX9 36 "NapkinSyntaxModel" "thrown" "I") (by decide +kernel)) (fun _ h => h) rfl (ty := .int) (v := .int (iI (0))) (by decide +kernel) rfl rfl (Nat.le_of_ble_eq_true rfl) dX9_done_2 (fun H locs hP hD hS => ?_)
  rw [VGf_26] at hP hD
  refine lv_iload_n hx hb dX9_done_5 rfl (lv_at hl 1 rfl) ?_
  obtain ⟨e1, e2⟩ := Prod.mk.inj hE
  subst e2
  exact ci_i hx hb hr hlocks e1 rfl hS hP dX9_done_6

theorem fr_fX9_done {M : Mem} (v : Int) {r : Nat} (h26 : Nat.beq r 26 = false) : (fX9_done M v).2 r = M r := by
  unfold fX9_done
  (repeat' with_reducible refine frite_w (fun _ => ?_) (fun _ => ?_)) <;> first | with_reducible rfl | simp only [mst_o, msf_o, mcp_o, h26]

def fX9_fails (M : Mem) (n : Int) : Int × Mem := ((0), (msf (msf M 26 n) 23 (0)))
set_option maxRecDepth 100000 in
set_option maxHeartbeats 4000000 in
theorem kX9_fails (l : Launch) (D : va_G) (E : Nat → Nat) (cI cC : ClassId) (Z : State → Prop) (hZo : ∀ M : Mem, ZOk (VG E cI cC M) Z) (hZb : ZBl Z) (M : Mem) (n : Int)  (r : Int) (M' : Mem) (hE : fX9_fails M n = (r, M')) : Ci l yX9_fails wsX9_fails 0 0 [.ref (E 0), .int (iI n)] D (TY cI cC) (VG E cI cC) Z M r M' := by
  refine Ci.of (cc := cX9_fails) (maxL := 2) (ret := (some .int)) (by decide +kernel) rfl (Nat.le_of_ble_eq_true rfl) ?_
  intro p e s m args below meth c ls hx hb hml hr hown hts hlocks hP hK hD hZ hS hl
  have hl : lv_has ls 2 [(0, .ref (E 0)), (1, .int (iI n))] := hl
  have S0 : CallFix p m c cX9_fails 2 s args wsX9_fails RX9 := ⟨hx, hb, hml, hown, hts⟩
  have hinX9 : ∀ w ∈ u_ws RX9 TX9 20, w ∈ wsX9_fails := by decide +kernel
  rw [fX9_fails] at hE
  refine lv_aload_n hx hb dX9_fails_0 rfl (lv_at hl 0 rfl) ?_
  refine lv_iload_n hx hb dX9_fails_1 rfl (lv_at hl 1 rfl) ?_
  refine va_put (own := RX9) (ref := "NapkinSyntaxModel") (C := RX9) (T := TX9) (N := 20) hx hb hts hinX9 tyX9 tyX9_ok nmX9 hown hK hP hD hS 0 VG_0 rfl 16 (Nat.le_of_ble_eq_true rfl) (hts (.fieldLink RX9 36 "NapkinSyntaxModel" "thrown" "I") (by decide +kernel)) (fun _ h => h) rfl (ty := .int) (v := .int (iI n)) (by decide +kernel) rfl rfl (Nat.le_of_ble_eq_true rfl) dX9_fails_2 (fun H locs hP hD hS => ?_)
  rw [VGf_26] at hP hD
  refine lv_aload_n hx hb dX9_fails_5 rfl (lv_at hl 0 rfl) ?_
  refine z_iconst hx hb dX9_fails_6 ?_
  refine va_put (own := RX9) (ref := "NapkinSyntaxModel") (C := RX9) (T := TX9) (N := 20) hx hb hts hinX9 tyX9 tyX9_ok nmX9 hown hK hP hD hS 0 VG_0 rfl 13 (Nat.le_of_ble_eq_true rfl) (hts (.fieldLink RX9 39 "NapkinSyntaxModel" "isRefused" "Z") (by decide +kernel)) (fun _ h => h) rfl (ty := .boolean) (v := .int (iI (0))) (by decide +kernel) nr_b0 rfl (Nat.le_of_ble_eq_true rfl) dX9_fails_7 (fun H locs hP hD hS => ?_)
  rw [VGf_23] at hP hD
  refine z_iconst hx hb dX9_fails_10 ?_
  obtain ⟨e1, e2⟩ := Prod.mk.inj hE
  subst e2
  exact ci_i hx hb hr hlocks e1 rfl hS hP dX9_fails_11

theorem fr_fX9_fails {M : Mem} (n : Int) {r : Nat} (h23 : Nat.beq r 23 = false) (h26 : Nat.beq r 26 = false) : (fX9_fails M n).2 r = M r := by
  unfold fX9_fails
  (repeat' with_reducible refine frite_w (fun _ => ?_) (fun _ => ?_)) <;> first | with_reducible rfl | simp only [mst_o, msf_o, mcp_o, h23, h26]

def fX9_refused (M : Mem) (reason detail n : Int) : Int × Mem := ((0), (msf (msf (msf (msf (msf (msf M 19 reason) 20 detail) 21 (0)) 22 (0)) 26 n) 23 (1)))
set_option maxRecDepth 100000 in
set_option maxHeartbeats 4000000 in
theorem kX9_refused (l : Launch) (D : va_G) (E : Nat → Nat) (cI cC : ClassId) (Z : State → Prop) (hZo : ∀ M : Mem, ZOk (VG E cI cC M) Z) (hZb : ZBl Z) (M : Mem) (reason detail n : Int)  (r : Int) (M' : Mem) (hE : fX9_refused M reason detail n = (r, M')) : Ci l yX9_refused wsX9_refused 0 0 [.ref (E 0), .int (iI reason), .int (iI detail), .int (iI n)] D (TY cI cC) (VG E cI cC) Z M r M' := by
  refine Ci.of (cc := cX9_refused) (maxL := 4) (ret := (some .int)) (by decide +kernel) rfl (Nat.le_of_ble_eq_true rfl) ?_
  intro p e s m args below meth c ls hx hb hml hr hown hts hlocks hP hK hD hZ hS hl
  have hl : lv_has ls 4 [(0, .ref (E 0)), (1, .int (iI reason)), (2, .int (iI detail)), (3, .int (iI n))] := hl
  have S0 : CallFix p m c cX9_refused 4 s args wsX9_refused RX9 := ⟨hx, hb, hml, hown, hts⟩
  have hinX9 : ∀ w ∈ u_ws RX9 TX9 20, w ∈ wsX9_refused := by decide +kernel
  rw [fX9_refused] at hE
  refine lv_aload_n hx hb dX9_refused_0 rfl (lv_at hl 0 rfl) ?_
  refine lv_iload_n hx hb dX9_refused_1 rfl (lv_at hl 1 rfl) ?_
  refine va_put (own := RX9) (ref := "NapkinSyntaxModel") (C := RX9) (T := TX9) (N := 20) hx hb hts hinX9 tyX9 tyX9_ok nmX9 hown hK hP hD hS 0 VG_0 rfl 9 (Nat.le_of_ble_eq_true rfl) (hts (.fieldLink RX9 43 "NapkinSyntaxModel" "why" "I") (by decide +kernel)) (fun _ h => h) rfl (ty := .int) (v := .int (iI reason)) (by decide +kernel) rfl rfl (Nat.le_of_ble_eq_true rfl) dX9_refused_2 (fun H locs hP hD hS => ?_)
  rw [VGf_19] at hP hD
  refine lv_aload_n hx hb dX9_refused_5 rfl (lv_at hl 0 rfl) ?_
  refine lv_iload_n hx hb dX9_refused_6 rfl (lv_at hl 2 rfl) ?_
  refine va_put (own := RX9) (ref := "NapkinSyntaxModel") (C := RX9) (T := TX9) (N := 20) hx hb hts hinX9 tyX9 tyX9_ok nmX9 hown hK hP hD hS 0 VG_0 rfl 10 (Nat.le_of_ble_eq_true rfl) (hts (.fieldLink RX9 46 "NapkinSyntaxModel" "whyDetail" "I") (by decide +kernel)) (fun _ h => h) rfl (ty := .int) (v := .int (iI detail)) (by decide +kernel) rfl rfl (Nat.le_of_ble_eq_true rfl) dX9_refused_7 (fun H locs hP hD hS => ?_)
  rw [VGf_20] at hP hD
  refine lv_aload_n hx hb dX9_refused_10 rfl (lv_at hl 0 rfl) ?_
  refine z_iconst hx hb dX9_refused_11 ?_
  refine va_put (own := RX9) (ref := "NapkinSyntaxModel") (C := RX9) (T := TX9) (N := 20) hx hb hts hinX9 tyX9 tyX9_ok nmX9 hown hK hP hD hS 0 VG_0 rfl 11 (Nat.le_of_ble_eq_true rfl) (hts (.fieldLink RX9 49 "NapkinSyntaxModel" "behind" "I") (by decide +kernel)) (fun _ h => h) rfl (ty := .int) (v := .int (iI (0))) (by decide +kernel) rfl rfl (Nat.le_of_ble_eq_true rfl) dX9_refused_12 (fun H locs hP hD hS => ?_)
  rw [VGf_21] at hP hD
  refine lv_aload_n hx hb dX9_refused_15 rfl (lv_at hl 0 rfl) ?_
  refine z_iconst hx hb dX9_refused_16 ?_
  refine va_put (own := RX9) (ref := "NapkinSyntaxModel") (C := RX9) (T := TX9) (N := 20) hx hb hts hinX9 tyX9 tyX9_ok nmX9 hown hK hP hD hS 0 VG_0 rfl 12 (Nat.le_of_ble_eq_true rfl) (hts (.fieldLink RX9 52 "NapkinSyntaxModel" "behindDetail" "I") (by decide +kernel)) (fun _ h => h) rfl (ty := .int) (v := .int (iI (0))) (by decide +kernel) rfl rfl (Nat.le_of_ble_eq_true rfl) dX9_refused_17 (fun H locs hP hD hS => ?_)
  rw [VGf_22] at hP hD
  refine lv_aload_n hx hb dX9_refused_20 rfl (lv_at hl 0 rfl) ?_
  refine lv_iload_n hx hb dX9_refused_21 rfl (lv_at hl 3 rfl) ?_
  refine va_put (own := RX9) (ref := "NapkinSyntaxModel") (C := RX9) (T := TX9) (N := 20) hx hb hts hinX9 tyX9 tyX9_ok nmX9 hown hK hP hD hS 0 VG_0 rfl 16 (Nat.le_of_ble_eq_true rfl) (hts (.fieldLink RX9 36 "NapkinSyntaxModel" "thrown" "I") (by decide +kernel)) (fun _ h => h) rfl (ty := .int) (v := .int (iI n)) (by decide +kernel) rfl rfl (Nat.le_of_ble_eq_true rfl) dX9_refused_22 (fun H locs hP hD hS => ?_)
  rw [VGf_26] at hP hD
  refine lv_aload_n hx hb dX9_refused_25 rfl (lv_at hl 0 rfl) ?_
  refine z_iconst hx hb dX9_refused_26 ?_
  refine va_put (own := RX9) (ref := "NapkinSyntaxModel") (C := RX9) (T := TX9) (N := 20) hx hb hts hinX9 tyX9 tyX9_ok nmX9 hown hK hP hD hS 0 VG_0 rfl 13 (Nat.le_of_ble_eq_true rfl) (hts (.fieldLink RX9 39 "NapkinSyntaxModel" "isRefused" "Z") (by decide +kernel)) (fun _ h => h) rfl (ty := .boolean) (v := .int (iI (1))) (by decide +kernel) nr_b1 rfl (Nat.le_of_ble_eq_true rfl) dX9_refused_27 (fun H locs hP hD hS => ?_)
  rw [VGf_23] at hP hD
  refine z_iconst hx hb dX9_refused_30 ?_
  obtain ⟨e1, e2⟩ := Prod.mk.inj hE
  subst e2
  exact ci_i hx hb hr hlocks e1 rfl hS hP dX9_refused_31

theorem fr_fX9_refused {M : Mem} (reason detail n : Int) {r : Nat} (h19 : Nat.beq r 19 = false) (h20 : Nat.beq r 20 = false) (h21 : Nat.beq r 21 = false) (h22 : Nat.beq r 22 = false) (h23 : Nat.beq r 23 = false) (h26 : Nat.beq r 26 = false) : (fX9_refused M reason detail n).2 r = M r := by
  unfold fX9_refused
  (repeat' with_reducible refine frite_w (fun _ => ?_) (fun _ => ?_)) <;> first | with_reducible rfl | simp only [mst_o, msf_o, mcp_o, h19, h20, h21, h22, h23, h26]

def fX9_copy_gb_L1 (M : Mem) (src dst : Int) : Nat → Mem → Int → (Mem)
  | 0, Mx, _ => Mx
  | k1 + 1, Mx, ii => if ((82) ≤ ii) then Mx else fX9_copy_gb_L1 M src dst k1 (mst Mx 1 (dst + ii) (Mx 0 (src + ii))) (ii + 1)
def fX9_copy_gb (M : Mem) (src dst : Int) : Mem := fX9_copy_gb_L1 M src dst 83 M (0)
set_option maxRecDepth 100000 in
set_option maxHeartbeats 4000000 in
theorem kX9_copy_gb (l : Launch) (D : va_G) (E : Nat → Nat) (cI cC : ClassId) (Z : State → Prop) (hZo : ∀ M : Mem, ZOk (VG E cI cC M) Z) (hZb : ZBl Z) (M : Mem) (src dst : Int) (h1 : 0 ≤ src ∧ src + 82 ≤ 82) (h2 : 0 ≤ dst ∧ dst + 82 ≤ 82) (M' : Mem) (hE : fX9_copy_gb M src dst = M') : Cv l yX9_copy wsX9_copy 0 0 [.ref (E 1), .int (iI src), .ref (E 2), .int (iI dst)] D (TY cI cC) (VG E cI cC) Z M M' := by
  refine Cv.of (cc := cX9_copy) (maxL := 5) (ret := none) (by decide +kernel) rfl (Nat.le_of_ble_eq_true rfl) ?_
  intro p e s m args below meth c ls hx hb hml hr hown hts hlocks hP hK hD hZ hS hl
  have hl : lv_has ls 5 [(0, .ref (E 1)), (1, .int (iI src)), (2, .ref (E 2)), (3, .int (iI dst))] := hl
  have S0 : CallFix p m c cX9_copy 5 s args wsX9_copy RX9 := ⟨hx, hb, hml, hown, hts⟩
  rw [fX9_copy_gb] at hE
  refine z_iconst hx hb dX9_copy_0 ?_
  refine lv_istore hx hb dX9_copy_1 hl (Nat.le_of_ble_eq_true rfl) (lv' := [(4, .int (iI (0))), (0, .ref (E 1)), (1, .int (iI src)), (2, .ref (E 2)), (3, .int (iI dst))]) rfl (fun ls hl => ?_)
  have L1 : ∀ (k1 : Nat) (Mx : Mem) (ii : Int) (ls : Array Slot) (H : Heap) (locs : List Loc), lv_has ls 5 [(0, .ref (E 1)), (1, .int (iI src)), (2, .ref (E 2)), (3, .int (iI dst)), (4, .int (iI ii))] → va_P D vwCl (VG E cI cC Mx) H → va_D (wA (VG E cI cC M)) (VG E cI cC Mx) → va_S (wA (VG E cI cC M)) s.heap H locs → (0 ≤ ii ∧ ii ≤ 82) → (82 - ii < (k1 : Int)) → fX9_copy_gb_L1 M src dst k1 Mx ii = M' → W p l e (zRm 0 0) s m args below meth c H locs 0 0 (MQ below (cvQ D (VG E cI cC) M M') args s 0 0 (wA (VG E cI cC M))) (F0 m 3 ls []) := by
    intro k1
    induction k1 with
    | zero => intro Mx ii ls H locs hl hP hD hS i1 i3 hE; exfalso; omega
    | succ k1 ih1 =>
      intro Mx ii ls H locs hl hP hD hS i1 i3 hE
      rw [fX9_copy_gb_L1] at hE
      refine lv_iload hx hb dX9_copy_3 (lv_at hl 4 rfl) ?_
      refine z_bipush hx hb dX9_copy_5 (by decide +kernel) ?_
      refine z_icmp_ge hx hb dX9_copy_7 (tgt := 28) rfl (by omega) (by omega) (fun b1 => ?_) (fun b1 => ?_)
      · rw [if_pos b1] at hE
        subst hE
        exact cv_v hx hb hr hlocks hS hP dX9_copy_28
      · rw [if_neg b1] at hE
        refine lv_aload_n hx hb dX9_copy_10 rfl (lv_at hl 2 rfl) ?_
        refine lv_iload_n hx hb dX9_copy_11 rfl (lv_at hl 3 rfl) ?_
        refine lv_iload hx hb dX9_copy_12 (lv_at hl 4 rfl) ?_
        refine z_iadd hx hb dX9_copy_14 ?_
        refine lv_aload_n hx hb dX9_copy_15 rfl (lv_at hl 0 rfl) ?_
        refine lv_iload_n hx hb dX9_copy_16 rfl (lv_at hl 1 rfl) ?_
        refine lv_iload hx hb dX9_copy_17 (lv_at hl 4 rfl) ?_
        refine z_iadd hx hb dX9_copy_19 ?_
        refine z_iald hx hb hK hP 1 0 VG_1 rfl (by omega) (by omega) (by decide) dX9_copy_20 ?_
        refine z_iast hx hb hK hP hD hS 2 0 VG_2 rfl (by omega) (by omega) (by decide) dX9_copy_21 VGw_1 (fun H locs hP hD hS => ?_)
        refine z_iinc hx hb dX9_copy_22 hl (k := 4) rfl (Nat.le_of_ble_eq_true rfl) (lv' := [(4, .int (iI (ii + 1))), (0, .ref (E 1)), (1, .int (iI src)), (2, .ref (E 2)), (3, .int (iI dst))]) rfl (fun ls hl => ?_)
        refine lv_goto hx hb dX9_copy_25 (tgt := 3) rfl ?_
        exact ih1 (mst Mx 1 (dst + ii) (Mx 0 (src + ii))) (ii + 1) ls _ _ (lv_sub hl [1, 2, 3, 4, 0] rfl) hP hD hS (by omega) (by omega) hE
  exact L1 83 M (0) ls _ _ (lv_sub hl [1, 2, 3, 4, 0] rfl) hP hD hS (by omega) (by omega) hE

theorem fr_fX9_copy_gb_L1 (M : Mem) (src dst : Int) {r : Nat} (h1 : Nat.beq r 1 = false) : ∀ (k : Nat) (Mx : Mem) (ii : Int), (fX9_copy_gb_L1 M src dst k Mx ii) r = Mx r := by
  intro k
  induction k with
  | zero => intros; rfl
  | succ k ih =>
    intro Mx ii
    rw [fX9_copy_gb_L1]
    (repeat' with_reducible refine frite_v (fun _ => ?_) (fun _ => ?_)) <;> first | with_reducible rfl | simp only [ih, mst_o, msf_o, mcp_o, h1]
theorem fr_fX9_copy_gb {M : Mem} (src dst : Int) {r : Nat} (h1 : Nat.beq r 1 = false) : (fX9_copy_gb M src dst) r = M r := by
  unfold fX9_copy_gb
  (repeat' with_reducible refine frite_v (fun _ => ?_) (fun _ => ?_)) <;> first | with_reducible rfl | simp only [mst_o, msf_o, mcp_o, h1, fr_fX9_copy_gb_L1]

def fX9_copy_bg_L1 (M : Mem) (src dst : Int) : Nat → Mem → Int → (Mem)
  | 0, Mx, _ => Mx
  | k1 + 1, Mx, ii => if ((82) ≤ ii) then Mx else fX9_copy_bg_L1 M src dst k1 (mst Mx 0 (dst + ii) (Mx 1 (src + ii))) (ii + 1)
def fX9_copy_bg (M : Mem) (src dst : Int) : Mem := fX9_copy_bg_L1 M src dst 83 M (0)
set_option maxRecDepth 100000 in
set_option maxHeartbeats 4000000 in
theorem kX9_copy_bg (l : Launch) (D : va_G) (E : Nat → Nat) (cI cC : ClassId) (Z : State → Prop) (hZo : ∀ M : Mem, ZOk (VG E cI cC M) Z) (hZb : ZBl Z) (M : Mem) (src dst : Int) (h1 : 0 ≤ src ∧ src + 82 ≤ 82) (h2 : 0 ≤ dst ∧ dst + 82 ≤ 82) (M' : Mem) (hE : fX9_copy_bg M src dst = M') : Cv l yX9_copy wsX9_copy 0 0 [.ref (E 2), .int (iI src), .ref (E 1), .int (iI dst)] D (TY cI cC) (VG E cI cC) Z M M' := by
  refine Cv.of (cc := cX9_copy) (maxL := 5) (ret := none) (by decide +kernel) rfl (Nat.le_of_ble_eq_true rfl) ?_
  intro p e s m args below meth c ls hx hb hml hr hown hts hlocks hP hK hD hZ hS hl
  have hl : lv_has ls 5 [(0, .ref (E 2)), (1, .int (iI src)), (2, .ref (E 1)), (3, .int (iI dst))] := hl
  have S0 : CallFix p m c cX9_copy 5 s args wsX9_copy RX9 := ⟨hx, hb, hml, hown, hts⟩
  rw [fX9_copy_bg] at hE
  refine z_iconst hx hb dX9_copy_0 ?_
  refine lv_istore hx hb dX9_copy_1 hl (Nat.le_of_ble_eq_true rfl) (lv' := [(4, .int (iI (0))), (0, .ref (E 2)), (1, .int (iI src)), (2, .ref (E 1)), (3, .int (iI dst))]) rfl (fun ls hl => ?_)
  have L1 : ∀ (k1 : Nat) (Mx : Mem) (ii : Int) (ls : Array Slot) (H : Heap) (locs : List Loc), lv_has ls 5 [(0, .ref (E 2)), (1, .int (iI src)), (2, .ref (E 1)), (3, .int (iI dst)), (4, .int (iI ii))] → va_P D vwCl (VG E cI cC Mx) H → va_D (wA (VG E cI cC M)) (VG E cI cC Mx) → va_S (wA (VG E cI cC M)) s.heap H locs → (0 ≤ ii ∧ ii ≤ 82) → (82 - ii < (k1 : Int)) → fX9_copy_bg_L1 M src dst k1 Mx ii = M' → W p l e (zRm 0 0) s m args below meth c H locs 0 0 (MQ below (cvQ D (VG E cI cC) M M') args s 0 0 (wA (VG E cI cC M))) (F0 m 3 ls []) := by
    intro k1
    induction k1 with
    | zero => intro Mx ii ls H locs hl hP hD hS i1 i3 hE; exfalso; omega
    | succ k1 ih1 =>
      intro Mx ii ls H locs hl hP hD hS i1 i3 hE
      rw [fX9_copy_bg_L1] at hE
      refine lv_iload hx hb dX9_copy_3 (lv_at hl 4 rfl) ?_
      refine z_bipush hx hb dX9_copy_5 (by decide +kernel) ?_
      refine z_icmp_ge hx hb dX9_copy_7 (tgt := 28) rfl (by omega) (by omega) (fun b1 => ?_) (fun b1 => ?_)
      · rw [if_pos b1] at hE
        subst hE
        exact cv_v hx hb hr hlocks hS hP dX9_copy_28
      · rw [if_neg b1] at hE
        refine lv_aload_n hx hb dX9_copy_10 rfl (lv_at hl 2 rfl) ?_
        refine lv_iload_n hx hb dX9_copy_11 rfl (lv_at hl 3 rfl) ?_
        refine lv_iload hx hb dX9_copy_12 (lv_at hl 4 rfl) ?_
        refine z_iadd hx hb dX9_copy_14 ?_
        refine lv_aload_n hx hb dX9_copy_15 rfl (lv_at hl 0 rfl) ?_
        refine lv_iload_n hx hb dX9_copy_16 rfl (lv_at hl 1 rfl) ?_
        refine lv_iload hx hb dX9_copy_17 (lv_at hl 4 rfl) ?_
        refine z_iadd hx hb dX9_copy_19 ?_
        refine z_iald hx hb hK hP 2 0 VG_2 rfl (by omega) (by omega) (by decide) dX9_copy_20 ?_
        refine z_iast hx hb hK hP hD hS 1 0 VG_1 rfl (by omega) (by omega) (by decide) dX9_copy_21 VGw_0 (fun H locs hP hD hS => ?_)
        refine z_iinc hx hb dX9_copy_22 hl (k := 4) rfl (Nat.le_of_ble_eq_true rfl) (lv' := [(4, .int (iI (ii + 1))), (0, .ref (E 2)), (1, .int (iI src)), (2, .ref (E 1)), (3, .int (iI dst))]) rfl (fun ls hl => ?_)
        refine lv_goto hx hb dX9_copy_25 (tgt := 3) rfl ?_
        exact ih1 (mst Mx 0 (dst + ii) (Mx 1 (src + ii))) (ii + 1) ls _ _ (lv_sub hl [1, 2, 3, 4, 0] rfl) hP hD hS (by omega) (by omega) hE
  exact L1 83 M (0) ls _ _ (lv_sub hl [1, 2, 3, 4, 0] rfl) hP hD hS (by omega) (by omega) hE

theorem fr_fX9_copy_bg_L1 (M : Mem) (src dst : Int) {r : Nat} (h0 : Nat.beq r 0 = false) : ∀ (k : Nat) (Mx : Mem) (ii : Int), (fX9_copy_bg_L1 M src dst k Mx ii) r = Mx r := by
  intro k
  induction k with
  | zero => intros; rfl
  | succ k ih =>
    intro Mx ii
    rw [fX9_copy_bg_L1]
    (repeat' with_reducible refine frite_v (fun _ => ?_) (fun _ => ?_)) <;> first | with_reducible rfl | simp only [ih, mst_o, msf_o, mcp_o, h0]
theorem fr_fX9_copy_bg {M : Mem} (src dst : Int) {r : Nat} (h0 : Nat.beq r 0 = false) : (fX9_copy_bg M src dst) r = M r := by
  unfold fX9_copy_bg
  (repeat' with_reducible refine frite_v (fun _ => ?_) (fun _ => ?_)) <;> first | with_reducible rfl | simp only [mst_o, msf_o, mcp_o, h0, fr_fX9_copy_bg_L1]

def fX9_copy_bh_L1 (M : Mem) (src dst : Int) : Nat → Mem → Int → (Mem)
  | 0, Mx, _ => Mx
  | k1 + 1, Mx, ii => if ((82) ≤ ii) then Mx else fX9_copy_bh_L1 M src dst k1 (mst Mx 2 (dst + ii) (Mx 1 (src + ii))) (ii + 1)
def fX9_copy_bh (M : Mem) (src dst : Int) : Mem := fX9_copy_bh_L1 M src dst 83 M (0)
set_option maxRecDepth 100000 in
set_option maxHeartbeats 4000000 in
theorem kX9_copy_bh (l : Launch) (D : va_G) (E : Nat → Nat) (cI cC : ClassId) (Z : State → Prop) (hZo : ∀ M : Mem, ZOk (VG E cI cC M) Z) (hZb : ZBl Z) (M : Mem) (src dst : Int) (h1 : 0 ≤ src ∧ src + 82 ≤ 82) (h2 : 0 ≤ dst ∧ dst + 82 ≤ 656) (M' : Mem) (hE : fX9_copy_bh M src dst = M') : Cv l yX9_copy wsX9_copy 0 0 [.ref (E 2), .int (iI src), .ref (E 3), .int (iI dst)] D (TY cI cC) (VG E cI cC) Z M M' := by
  refine Cv.of (cc := cX9_copy) (maxL := 5) (ret := none) (by decide +kernel) rfl (Nat.le_of_ble_eq_true rfl) ?_
  intro p e s m args below meth c ls hx hb hml hr hown hts hlocks hP hK hD hZ hS hl
  have hl : lv_has ls 5 [(0, .ref (E 2)), (1, .int (iI src)), (2, .ref (E 3)), (3, .int (iI dst))] := hl
  have S0 : CallFix p m c cX9_copy 5 s args wsX9_copy RX9 := ⟨hx, hb, hml, hown, hts⟩
  rw [fX9_copy_bh] at hE
  refine z_iconst hx hb dX9_copy_0 ?_
  refine lv_istore hx hb dX9_copy_1 hl (Nat.le_of_ble_eq_true rfl) (lv' := [(4, .int (iI (0))), (0, .ref (E 2)), (1, .int (iI src)), (2, .ref (E 3)), (3, .int (iI dst))]) rfl (fun ls hl => ?_)
  have L1 : ∀ (k1 : Nat) (Mx : Mem) (ii : Int) (ls : Array Slot) (H : Heap) (locs : List Loc), lv_has ls 5 [(0, .ref (E 2)), (1, .int (iI src)), (2, .ref (E 3)), (3, .int (iI dst)), (4, .int (iI ii))] → va_P D vwCl (VG E cI cC Mx) H → va_D (wA (VG E cI cC M)) (VG E cI cC Mx) → va_S (wA (VG E cI cC M)) s.heap H locs → (0 ≤ ii ∧ ii ≤ 82) → (82 - ii < (k1 : Int)) → fX9_copy_bh_L1 M src dst k1 Mx ii = M' → W p l e (zRm 0 0) s m args below meth c H locs 0 0 (MQ below (cvQ D (VG E cI cC) M M') args s 0 0 (wA (VG E cI cC M))) (F0 m 3 ls []) := by
    intro k1
    induction k1 with
    | zero => intro Mx ii ls H locs hl hP hD hS i1 i3 hE; exfalso; omega
    | succ k1 ih1 =>
      intro Mx ii ls H locs hl hP hD hS i1 i3 hE
      rw [fX9_copy_bh_L1] at hE
      refine lv_iload hx hb dX9_copy_3 (lv_at hl 4 rfl) ?_
      refine z_bipush hx hb dX9_copy_5 (by decide +kernel) ?_
      refine z_icmp_ge hx hb dX9_copy_7 (tgt := 28) rfl (by omega) (by omega) (fun b1 => ?_) (fun b1 => ?_)
      · rw [if_pos b1] at hE
        subst hE
        exact cv_v hx hb hr hlocks hS hP dX9_copy_28
      · rw [if_neg b1] at hE
        refine lv_aload_n hx hb dX9_copy_10 rfl (lv_at hl 2 rfl) ?_
        refine lv_iload_n hx hb dX9_copy_11 rfl (lv_at hl 3 rfl) ?_
        refine lv_iload hx hb dX9_copy_12 (lv_at hl 4 rfl) ?_
        refine z_iadd hx hb dX9_copy_14 ?_
        refine lv_aload_n hx hb dX9_copy_15 rfl (lv_at hl 0 rfl) ?_
        refine lv_iload_n hx hb dX9_copy_16 rfl (lv_at hl 1 rfl) ?_
        refine lv_iload hx hb dX9_copy_17 (lv_at hl 4 rfl) ?_
        refine z_iadd hx hb dX9_copy_19 ?_
        refine z_iald hx hb hK hP 2 0 VG_2 rfl (by omega) (by omega) (by decide) dX9_copy_20 ?_
        refine z_iast hx hb hK hP hD hS 3 0 VG_3 rfl (by omega) (by omega) (by decide) dX9_copy_21 VGw_2 (fun H locs hP hD hS => ?_)
        refine z_iinc hx hb dX9_copy_22 hl (k := 4) rfl (Nat.le_of_ble_eq_true rfl) (lv' := [(4, .int (iI (ii + 1))), (0, .ref (E 2)), (1, .int (iI src)), (2, .ref (E 3)), (3, .int (iI dst))]) rfl (fun ls hl => ?_)
        refine lv_goto hx hb dX9_copy_25 (tgt := 3) rfl ?_
        exact ih1 (mst Mx 2 (dst + ii) (Mx 1 (src + ii))) (ii + 1) ls _ _ (lv_sub hl [1, 2, 3, 4, 0] rfl) hP hD hS (by omega) (by omega) hE
  exact L1 83 M (0) ls _ _ (lv_sub hl [1, 2, 3, 4, 0] rfl) hP hD hS (by omega) (by omega) hE

theorem fr_fX9_copy_bh_L1 (M : Mem) (src dst : Int) {r : Nat} (h2 : Nat.beq r 2 = false) : ∀ (k : Nat) (Mx : Mem) (ii : Int), (fX9_copy_bh_L1 M src dst k Mx ii) r = Mx r := by
  intro k
  induction k with
  | zero => intros; rfl
  | succ k ih =>
    intro Mx ii
    rw [fX9_copy_bh_L1]
    (repeat' with_reducible refine frite_v (fun _ => ?_) (fun _ => ?_)) <;> first | with_reducible rfl | simp only [ih, mst_o, msf_o, mcp_o, h2]
theorem fr_fX9_copy_bh {M : Mem} (src dst : Int) {r : Nat} (h2 : Nat.beq r 2 = false) : (fX9_copy_bh M src dst) r = M r := by
  unfold fX9_copy_bh
  (repeat' with_reducible refine frite_v (fun _ => ?_) (fun _ => ?_)) <;> first | with_reducible rfl | simp only [mst_o, msf_o, mcp_o, h2, fr_fX9_copy_bh_L1]

def fX9_copy_hg_L1 (M : Mem) (src dst : Int) : Nat → Mem → Int → (Mem)
  | 0, Mx, _ => Mx
  | k1 + 1, Mx, ii => if ((82) ≤ ii) then Mx else fX9_copy_hg_L1 M src dst k1 (mst Mx 0 (dst + ii) (Mx 2 (src + ii))) (ii + 1)
def fX9_copy_hg (M : Mem) (src dst : Int) : Mem := fX9_copy_hg_L1 M src dst 83 M (0)
set_option maxRecDepth 100000 in
set_option maxHeartbeats 4000000 in
theorem kX9_copy_hg (l : Launch) (D : va_G) (E : Nat → Nat) (cI cC : ClassId) (Z : State → Prop) (hZo : ∀ M : Mem, ZOk (VG E cI cC M) Z) (hZb : ZBl Z) (M : Mem) (src dst : Int) (h1 : 0 ≤ src ∧ src + 82 ≤ 656) (h2 : 0 ≤ dst ∧ dst + 82 ≤ 82) (M' : Mem) (hE : fX9_copy_hg M src dst = M') : Cv l yX9_copy wsX9_copy 0 0 [.ref (E 3), .int (iI src), .ref (E 1), .int (iI dst)] D (TY cI cC) (VG E cI cC) Z M M' := by
  refine Cv.of (cc := cX9_copy) (maxL := 5) (ret := none) (by decide +kernel) rfl (Nat.le_of_ble_eq_true rfl) ?_
  intro p e s m args below meth c ls hx hb hml hr hown hts hlocks hP hK hD hZ hS hl
  have hl : lv_has ls 5 [(0, .ref (E 3)), (1, .int (iI src)), (2, .ref (E 1)), (3, .int (iI dst))] := hl
  have S0 : CallFix p m c cX9_copy 5 s args wsX9_copy RX9 := ⟨hx, hb, hml, hown, hts⟩
  rw [fX9_copy_hg] at hE
  refine z_iconst hx hb dX9_copy_0 ?_
  refine lv_istore hx hb dX9_copy_1 hl (Nat.le_of_ble_eq_true rfl) (lv' := [(4, .int (iI (0))), (0, .ref (E 3)), (1, .int (iI src)), (2, .ref (E 1)), (3, .int (iI dst))]) rfl (fun ls hl => ?_)
  have L1 : ∀ (k1 : Nat) (Mx : Mem) (ii : Int) (ls : Array Slot) (H : Heap) (locs : List Loc), lv_has ls 5 [(0, .ref (E 3)), (1, .int (iI src)), (2, .ref (E 1)), (3, .int (iI dst)), (4, .int (iI ii))] → va_P D vwCl (VG E cI cC Mx) H → va_D (wA (VG E cI cC M)) (VG E cI cC Mx) → va_S (wA (VG E cI cC M)) s.heap H locs → (0 ≤ ii ∧ ii ≤ 82) → (82 - ii < (k1 : Int)) → fX9_copy_hg_L1 M src dst k1 Mx ii = M' → W p l e (zRm 0 0) s m args below meth c H locs 0 0 (MQ below (cvQ D (VG E cI cC) M M') args s 0 0 (wA (VG E cI cC M))) (F0 m 3 ls []) := by
    intro k1
    induction k1 with
    | zero => intro Mx ii ls H locs hl hP hD hS i1 i3 hE; exfalso; omega
    | succ k1 ih1 =>
      intro Mx ii ls H locs hl hP hD hS i1 i3 hE
      rw [fX9_copy_hg_L1] at hE
      refine lv_iload hx hb dX9_copy_3 (lv_at hl 4 rfl) ?_
      refine z_bipush hx hb dX9_copy_5 (by decide +kernel) ?_
      refine z_icmp_ge hx hb dX9_copy_7 (tgt := 28) rfl (by omega) (by omega) (fun b1 => ?_) (fun b1 => ?_)
      · rw [if_pos b1] at hE
        subst hE
        exact cv_v hx hb hr hlocks hS hP dX9_copy_28
      · rw [if_neg b1] at hE
        refine lv_aload_n hx hb dX9_copy_10 rfl (lv_at hl 2 rfl) ?_
        refine lv_iload_n hx hb dX9_copy_11 rfl (lv_at hl 3 rfl) ?_
        refine lv_iload hx hb dX9_copy_12 (lv_at hl 4 rfl) ?_
        refine z_iadd hx hb dX9_copy_14 ?_
        refine lv_aload_n hx hb dX9_copy_15 rfl (lv_at hl 0 rfl) ?_
        refine lv_iload_n hx hb dX9_copy_16 rfl (lv_at hl 1 rfl) ?_
        refine lv_iload hx hb dX9_copy_17 (lv_at hl 4 rfl) ?_
        refine z_iadd hx hb dX9_copy_19 ?_
        refine z_iald hx hb hK hP 3 0 VG_3 rfl (by omega) (by omega) (by decide) dX9_copy_20 ?_
        refine z_iast hx hb hK hP hD hS 1 0 VG_1 rfl (by omega) (by omega) (by decide) dX9_copy_21 VGw_0 (fun H locs hP hD hS => ?_)
        refine z_iinc hx hb dX9_copy_22 hl (k := 4) rfl (Nat.le_of_ble_eq_true rfl) (lv' := [(4, .int (iI (ii + 1))), (0, .ref (E 3)), (1, .int (iI src)), (2, .ref (E 1)), (3, .int (iI dst))]) rfl (fun ls hl => ?_)
        refine lv_goto hx hb dX9_copy_25 (tgt := 3) rfl ?_
        exact ih1 (mst Mx 0 (dst + ii) (Mx 2 (src + ii))) (ii + 1) ls _ _ (lv_sub hl [1, 2, 3, 4, 0] rfl) hP hD hS (by omega) (by omega) hE
  exact L1 83 M (0) ls _ _ (lv_sub hl [1, 2, 3, 4, 0] rfl) hP hD hS (by omega) (by omega) hE

theorem fr_fX9_copy_hg_L1 (M : Mem) (src dst : Int) {r : Nat} (h0 : Nat.beq r 0 = false) : ∀ (k : Nat) (Mx : Mem) (ii : Int), (fX9_copy_hg_L1 M src dst k Mx ii) r = Mx r := by
  intro k
  induction k with
  | zero => intros; rfl
  | succ k ih =>
    intro Mx ii
    rw [fX9_copy_hg_L1]
    (repeat' with_reducible refine frite_v (fun _ => ?_) (fun _ => ?_)) <;> first | with_reducible rfl | simp only [ih, mst_o, msf_o, mcp_o, h0]
theorem fr_fX9_copy_hg {M : Mem} (src dst : Int) {r : Nat} (h0 : Nat.beq r 0 = false) : (fX9_copy_hg M src dst) r = M r := by
  unfold fX9_copy_hg
  (repeat' with_reducible refine frite_v (fun _ => ?_) (fun _ => ?_)) <;> first | with_reducible rfl | simp only [mst_o, msf_o, mcp_o, h0, fr_fX9_copy_hg_L1]

def fX9_copy_gs_L1 (M : Mem) (src dst : Int) : Nat → Mem → Int → (Mem)
  | 0, Mx, _ => Mx
  | k1 + 1, Mx, ii => if ((82) ≤ ii) then Mx else fX9_copy_gs_L1 M src dst k1 (mst Mx 3 (dst + ii) (Mx 0 (src + ii))) (ii + 1)
def fX9_copy_gs (M : Mem) (src dst : Int) : Mem := fX9_copy_gs_L1 M src dst 83 M (0)
set_option maxRecDepth 100000 in
set_option maxHeartbeats 4000000 in
theorem kX9_copy_gs (l : Launch) (D : va_G) (E : Nat → Nat) (cI cC : ClassId) (Z : State → Prop) (hZo : ∀ M : Mem, ZOk (VG E cI cC M) Z) (hZb : ZBl Z) (M : Mem) (src dst : Int) (h1 : 0 ≤ src ∧ src + 82 ≤ 82) (h2 : 0 ≤ dst ∧ dst + 82 ≤ 82) (M' : Mem) (hE : fX9_copy_gs M src dst = M') : Cv l yX9_copy wsX9_copy 0 0 [.ref (E 1), .int (iI src), .ref (E 4), .int (iI dst)] D (TY cI cC) (VG E cI cC) Z M M' := by
  refine Cv.of (cc := cX9_copy) (maxL := 5) (ret := none) (by decide +kernel) rfl (Nat.le_of_ble_eq_true rfl) ?_
  intro p e s m args below meth c ls hx hb hml hr hown hts hlocks hP hK hD hZ hS hl
  have hl : lv_has ls 5 [(0, .ref (E 1)), (1, .int (iI src)), (2, .ref (E 4)), (3, .int (iI dst))] := hl
  have S0 : CallFix p m c cX9_copy 5 s args wsX9_copy RX9 := ⟨hx, hb, hml, hown, hts⟩
  rw [fX9_copy_gs] at hE
  refine z_iconst hx hb dX9_copy_0 ?_
  refine lv_istore hx hb dX9_copy_1 hl (Nat.le_of_ble_eq_true rfl) (lv' := [(4, .int (iI (0))), (0, .ref (E 1)), (1, .int (iI src)), (2, .ref (E 4)), (3, .int (iI dst))]) rfl (fun ls hl => ?_)
  have L1 : ∀ (k1 : Nat) (Mx : Mem) (ii : Int) (ls : Array Slot) (H : Heap) (locs : List Loc), lv_has ls 5 [(0, .ref (E 1)), (1, .int (iI src)), (2, .ref (E 4)), (3, .int (iI dst)), (4, .int (iI ii))] → va_P D vwCl (VG E cI cC Mx) H → va_D (wA (VG E cI cC M)) (VG E cI cC Mx) → va_S (wA (VG E cI cC M)) s.heap H locs → (0 ≤ ii ∧ ii ≤ 82) → (82 - ii < (k1 : Int)) → fX9_copy_gs_L1 M src dst k1 Mx ii = M' → W p l e (zRm 0 0) s m args below meth c H locs 0 0 (MQ below (cvQ D (VG E cI cC) M M') args s 0 0 (wA (VG E cI cC M))) (F0 m 3 ls []) := by
    intro k1
    induction k1 with
    | zero => intro Mx ii ls H locs hl hP hD hS i1 i3 hE; exfalso; omega
    | succ k1 ih1 =>
      intro Mx ii ls H locs hl hP hD hS i1 i3 hE
      rw [fX9_copy_gs_L1] at hE
      refine lv_iload hx hb dX9_copy_3 (lv_at hl 4 rfl) ?_
      refine z_bipush hx hb dX9_copy_5 (by decide +kernel) ?_
      refine z_icmp_ge hx hb dX9_copy_7 (tgt := 28) rfl (by omega) (by omega) (fun b1 => ?_) (fun b1 => ?_)
      · rw [if_pos b1] at hE
        subst hE
        exact cv_v hx hb hr hlocks hS hP dX9_copy_28
      · rw [if_neg b1] at hE
        refine lv_aload_n hx hb dX9_copy_10 rfl (lv_at hl 2 rfl) ?_
        refine lv_iload_n hx hb dX9_copy_11 rfl (lv_at hl 3 rfl) ?_
        refine lv_iload hx hb dX9_copy_12 (lv_at hl 4 rfl) ?_
        refine z_iadd hx hb dX9_copy_14 ?_
        refine lv_aload_n hx hb dX9_copy_15 rfl (lv_at hl 0 rfl) ?_
        refine lv_iload_n hx hb dX9_copy_16 rfl (lv_at hl 1 rfl) ?_
        refine lv_iload hx hb dX9_copy_17 (lv_at hl 4 rfl) ?_
        refine z_iadd hx hb dX9_copy_19 ?_
        refine z_iald hx hb hK hP 1 0 VG_1 rfl (by omega) (by omega) (by decide) dX9_copy_20 ?_
        refine z_iast hx hb hK hP hD hS 4 0 VG_4 rfl (by omega) (by omega) (by decide) dX9_copy_21 VGw_3 (fun H locs hP hD hS => ?_)
        refine z_iinc hx hb dX9_copy_22 hl (k := 4) rfl (Nat.le_of_ble_eq_true rfl) (lv' := [(4, .int (iI (ii + 1))), (0, .ref (E 1)), (1, .int (iI src)), (2, .ref (E 4)), (3, .int (iI dst))]) rfl (fun ls hl => ?_)
        refine lv_goto hx hb dX9_copy_25 (tgt := 3) rfl ?_
        exact ih1 (mst Mx 3 (dst + ii) (Mx 0 (src + ii))) (ii + 1) ls _ _ (lv_sub hl [1, 2, 3, 4, 0] rfl) hP hD hS (by omega) (by omega) hE
  exact L1 83 M (0) ls _ _ (lv_sub hl [1, 2, 3, 4, 0] rfl) hP hD hS (by omega) (by omega) hE

theorem fr_fX9_copy_gs_L1 (M : Mem) (src dst : Int) {r : Nat} (h3 : Nat.beq r 3 = false) : ∀ (k : Nat) (Mx : Mem) (ii : Int), (fX9_copy_gs_L1 M src dst k Mx ii) r = Mx r := by
  intro k
  induction k with
  | zero => intros; rfl
  | succ k ih =>
    intro Mx ii
    rw [fX9_copy_gs_L1]
    (repeat' with_reducible refine frite_v (fun _ => ?_) (fun _ => ?_)) <;> first | with_reducible rfl | simp only [ih, mst_o, msf_o, mcp_o, h3]
theorem fr_fX9_copy_gs {M : Mem} (src dst : Int) {r : Nat} (h3 : Nat.beq r 3 = false) : (fX9_copy_gs M src dst) r = M r := by
  unfold fX9_copy_gs
  (repeat' with_reducible refine frite_v (fun _ => ?_) (fun _ => ?_)) <;> first | with_reducible rfl | simp only [mst_o, msf_o, mcp_o, h3, fr_fX9_copy_gs_L1]

def fX9_copy_sg_L1 (M : Mem) (src dst : Int) : Nat → Mem → Int → (Mem)
  | 0, Mx, _ => Mx
  | k1 + 1, Mx, ii => if ((82) ≤ ii) then Mx else fX9_copy_sg_L1 M src dst k1 (mst Mx 0 (dst + ii) (Mx 3 (src + ii))) (ii + 1)
def fX9_copy_sg (M : Mem) (src dst : Int) : Mem := fX9_copy_sg_L1 M src dst 83 M (0)
set_option maxRecDepth 100000 in
set_option maxHeartbeats 4000000 in
theorem kX9_copy_sg (l : Launch) (D : va_G) (E : Nat → Nat) (cI cC : ClassId) (Z : State → Prop) (hZo : ∀ M : Mem, ZOk (VG E cI cC M) Z) (hZb : ZBl Z) (M : Mem) (src dst : Int) (h1 : 0 ≤ src ∧ src + 82 ≤ 82) (h2 : 0 ≤ dst ∧ dst + 82 ≤ 82) (M' : Mem) (hE : fX9_copy_sg M src dst = M') : Cv l yX9_copy wsX9_copy 0 0 [.ref (E 4), .int (iI src), .ref (E 1), .int (iI dst)] D (TY cI cC) (VG E cI cC) Z M M' := by
  refine Cv.of (cc := cX9_copy) (maxL := 5) (ret := none) (by decide +kernel) rfl (Nat.le_of_ble_eq_true rfl) ?_
  intro p e s m args below meth c ls hx hb hml hr hown hts hlocks hP hK hD hZ hS hl
  have hl : lv_has ls 5 [(0, .ref (E 4)), (1, .int (iI src)), (2, .ref (E 1)), (3, .int (iI dst))] := hl
  have S0 : CallFix p m c cX9_copy 5 s args wsX9_copy RX9 := ⟨hx, hb, hml, hown, hts⟩
  rw [fX9_copy_sg] at hE
  refine z_iconst hx hb dX9_copy_0 ?_
  refine lv_istore hx hb dX9_copy_1 hl (Nat.le_of_ble_eq_true rfl) (lv' := [(4, .int (iI (0))), (0, .ref (E 4)), (1, .int (iI src)), (2, .ref (E 1)), (3, .int (iI dst))]) rfl (fun ls hl => ?_)
  have L1 : ∀ (k1 : Nat) (Mx : Mem) (ii : Int) (ls : Array Slot) (H : Heap) (locs : List Loc), lv_has ls 5 [(0, .ref (E 4)), (1, .int (iI src)), (2, .ref (E 1)), (3, .int (iI dst)), (4, .int (iI ii))] → va_P D vwCl (VG E cI cC Mx) H → va_D (wA (VG E cI cC M)) (VG E cI cC Mx) → va_S (wA (VG E cI cC M)) s.heap H locs → (0 ≤ ii ∧ ii ≤ 82) → (82 - ii < (k1 : Int)) → fX9_copy_sg_L1 M src dst k1 Mx ii = M' → W p l e (zRm 0 0) s m args below meth c H locs 0 0 (MQ below (cvQ D (VG E cI cC) M M') args s 0 0 (wA (VG E cI cC M))) (F0 m 3 ls []) := by
    intro k1
    induction k1 with
    | zero => intro Mx ii ls H locs hl hP hD hS i1 i3 hE; exfalso; omega
    | succ k1 ih1 =>
      intro Mx ii ls H locs hl hP hD hS i1 i3 hE
      rw [fX9_copy_sg_L1] at hE
      refine lv_iload hx hb dX9_copy_3 (lv_at hl 4 rfl) ?_
      refine z_bipush hx hb dX9_copy_5 (by decide +kernel) ?_
      refine z_icmp_ge hx hb dX9_copy_7 (tgt := 28) rfl (by omega) (by omega) (fun b1 => ?_) (fun b1 => ?_)
      · rw [if_pos b1] at hE
        subst hE
        exact cv_v hx hb hr hlocks hS hP dX9_copy_28
      · rw [if_neg b1] at hE
        refine lv_aload_n hx hb dX9_copy_10 rfl (lv_at hl 2 rfl) ?_
        refine lv_iload_n hx hb dX9_copy_11 rfl (lv_at hl 3 rfl) ?_
        refine lv_iload hx hb dX9_copy_12 (lv_at hl 4 rfl) ?_
        refine z_iadd hx hb dX9_copy_14 ?_
        refine lv_aload_n hx hb dX9_copy_15 rfl (lv_at hl 0 rfl) ?_
        refine lv_iload_n hx hb dX9_copy_16 rfl (lv_at hl 1 rfl) ?_
        refine lv_iload hx hb dX9_copy_17 (lv_at hl 4 rfl) ?_
        refine z_iadd hx hb dX9_copy_19 ?_
        refine z_iald hx hb hK hP 4 0 VG_4 rfl (by omega) (by omega) (by decide) dX9_copy_20 ?_
        refine z_iast hx hb hK hP hD hS 1 0 VG_1 rfl (by omega) (by omega) (by decide) dX9_copy_21 VGw_0 (fun H locs hP hD hS => ?_)
        refine z_iinc hx hb dX9_copy_22 hl (k := 4) rfl (Nat.le_of_ble_eq_true rfl) (lv' := [(4, .int (iI (ii + 1))), (0, .ref (E 4)), (1, .int (iI src)), (2, .ref (E 1)), (3, .int (iI dst))]) rfl (fun ls hl => ?_)
        refine lv_goto hx hb dX9_copy_25 (tgt := 3) rfl ?_
        exact ih1 (mst Mx 0 (dst + ii) (Mx 3 (src + ii))) (ii + 1) ls _ _ (lv_sub hl [1, 2, 3, 4, 0] rfl) hP hD hS (by omega) (by omega) hE
  exact L1 83 M (0) ls _ _ (lv_sub hl [1, 2, 3, 4, 0] rfl) hP hD hS (by omega) (by omega) hE

theorem fr_fX9_copy_sg_L1 (M : Mem) (src dst : Int) {r : Nat} (h0 : Nat.beq r 0 = false) : ∀ (k : Nat) (Mx : Mem) (ii : Int), (fX9_copy_sg_L1 M src dst k Mx ii) r = Mx r := by
  intro k
  induction k with
  | zero => intros; rfl
  | succ k ih =>
    intro Mx ii
    rw [fX9_copy_sg_L1]
    (repeat' with_reducible refine frite_v (fun _ => ?_) (fun _ => ?_)) <;> first | with_reducible rfl | simp only [ih, mst_o, msf_o, mcp_o, h0]
theorem fr_fX9_copy_sg {M : Mem} (src dst : Int) {r : Nat} (h0 : Nat.beq r 0 = false) : (fX9_copy_sg M src dst) r = M r := by
  unfold fX9_copy_sg
  (repeat' with_reducible refine frite_v (fun _ => ?_) (fun _ => ?_)) <;> first | with_reducible rfl | simp only [mst_o, msf_o, mcp_o, h0, fr_fX9_copy_sg_L1]

def fX9_looksBack (M : Mem) : Mem := (fX9_copy_gb M (0) (0))
set_option maxRecDepth 100000 in
set_option maxHeartbeats 4000000 in
theorem kX9_looksBack (l : Launch) (D : va_G) (E : Nat → Nat) (cI cC : ClassId) (Z : State → Prop) (hZo : ∀ M : Mem, ZOk (VG E cI cC M) Z) (hZb : ZBl Z) (M : Mem)  (M' : Mem) (hE : fX9_looksBack M = M') : Cv l yX9_looksBack wsX9_looksBack 1 24 [.ref (E 0)] D (TY cI cC) (VG E cI cC) Z M M' := by
  refine Cv.of (cc := cX9_looksBack) (maxL := 1) (ret := none) (by decide +kernel) rfl (Nat.le_of_ble_eq_true rfl) ?_
  intro p e s m args below meth c ls hx hb hml hr hown hts hlocks hP hK hD hZ hS hl
  have hl : lv_has ls 1 [(0, .ref (E 0))] := hl
  have S0 : CallFix p m c cX9_looksBack 1 s args wsX9_looksBack RX9 := ⟨hx, hb, hml, hown, hts⟩
  have hinX9 : ∀ w ∈ u_ws RX9 TX9 20, w ∈ wsX9_looksBack := by decide +kernel
  rw [fX9_looksBack] at hE
  refine lv_aload_n hx hb dX9_looksBack_0 rfl (lv_at hl 0 rfl) ?_
  refine va_get (own := RX9) (ref := "NapkinSyntaxModel") (C := RX9) (T := TX9) (N := 20) hx hb hts hinX9 hown hK hP 0 VG_0 rfl 0 (Nat.le_of_ble_eq_true rfl) (hts (.fieldLink RX9 7 "NapkinSyntaxModel" "g" "[I") (by decide +kernel)) (fun _ h => h) (v := .ref (E 1)) rfl dX9_looksBack_1 ?_
  refine z_iconst hx hb dX9_looksBack_4 ?_
  refine lv_aload_n hx hb dX9_looksBack_5 rfl (lv_at hl 0 rfl) ?_
  refine va_get (own := RX9) (ref := "NapkinSyntaxModel") (C := RX9) (T := TX9) (N := 20) hx hb hts hinX9 hown hK hP 0 VG_0 rfl 1 (Nat.le_of_ble_eq_true rfl) (hts (.fieldLink RX9 13 "NapkinSyntaxModel" "before" "[I") (by decide +kernel)) (fun _ h => h) (v := .ref (E 2)) rfl dX9_looksBack_6 ?_
  refine z_iconst hx hb dX9_looksBack_9 ?_
  refine ct_Sv (VG_fix E cI cC) hZo hZb hZ S0 (kX9_copy_gb l D E cI cC Z hZo hZb M (0) (0) (by omega) (by omega) (fX9_copy_gb M (0) (0)) rfl) (va_cwS 4 hts gX9_looksBack_X9_copy rfl rfl rfl (by decide +kernel) ⟨(Nat.le_of_ble_eq_true rfl), (Nat.le_of_ble_eq_true rfl)⟩) hK hP hD hS rfl hl.1 rfl (Nat.le_of_ble_eq_true rfl) dX9_looksBack_10 ⟨Nat.zero_le _, Nat.zero_le _⟩ (fun H locs hP hD hS => ?_)
  subst hE
  exact cv_v hx hb hr hlocks hS hP dX9_looksBack_13

theorem fr_fX9_looksBack {M : Mem} {r : Nat} (h1 : Nat.beq r 1 = false) : (fX9_looksBack M) r = M r := by
  unfold fX9_looksBack
  (repeat' with_reducible refine frite_v (fun _ => ?_) (fun _ => ?_)) <;> first | with_reducible rfl | simp only [mst_o, msf_o, mcp_o, fr_fX9_copy_gb, h1]

def fX9_kept_L1 (M : Mem) (v : Int) : Nat → Mem → Int → (Int × Mem)
  | 0, Mx, _ => (0, Mx)
  | k1 + 1, Mx, ii => if ((574) ≤ ii) then (v, (msf (fX9_copy_bh (msf Mx 13 ((Mx 13 0) - (1))) (0) (((Mx 13 0) - (1)) * (82))) 13 (((fX9_copy_bh (msf Mx 13 ((Mx 13 0) - (1))) (0) (((Mx 13 0) - (1)) * (82))) 13 0) + (1)))) else fX9_kept_L1 M v k1 (mst Mx 2 ii (Mx 2 (ii + (82)))) (ii + 1)
def fX9_kept (M : Mem) (v : Int) : Int × Mem := if ((M 26 0) = 0) then if ((M 13 0) = (8)) then fX9_kept_L1 M v 575 M (0) else (v, (msf (fX9_copy_bh M (0) ((M 13 0) * (82))) 13 (((fX9_copy_bh M (0) ((M 13 0) * (82))) 13 0) + (1)))) else ((0), (fX9_copy_bg M (0) (0)))
set_option maxRecDepth 100000 in
set_option maxHeartbeats 4000000 in
theorem kX9_kept (l : Launch) (D : va_G) (E : Nat → Nat) (cI cC : ClassId) (Z : State → Prop) (hZo : ∀ M : Mem, ZOk (VG E cI cC M) Z) (hZb : ZBl Z) (M : Mem) (v : Int) (h0 : 0 ≤ M 26 0 ∧ M 26 0 ≤ 3) (hX : CH M) (r : Int) (M' : Mem) (hE : fX9_kept M v = (r, M')) : Ci l yX9_kept wsX9_kept 1 24 [.ref (E 0), .int (iI v)] D (TY cI cC) (VG E cI cC) Z M r M' := by
  refine Ci.of (cc := cX9_kept) (maxL := 3) (ret := (some .int)) (by decide +kernel) rfl (Nat.le_of_ble_eq_true rfl) ?_
  intro p e s m args below meth c ls hx hb hml hr hown hts hlocks hP hK hD hZ hS hl
  have hl : lv_has ls 3 [(0, .ref (E 0)), (1, .int (iI v))] := hl
  have S0 : CallFix p m c cX9_kept 3 s args wsX9_kept RX9 := ⟨hx, hb, hml, hown, hts⟩
  have hinX9 : ∀ w ∈ u_ws RX9 TX9 20, w ∈ wsX9_kept := by decide +kernel
  rw [fX9_kept] at hE
  refine lv_aload_n hx hb dX9_kept_0 rfl (lv_at hl 0 rfl) ?_
  refine va_get (own := RX9) (ref := "NapkinSyntaxModel") (C := RX9) (T := TX9) (N := 20) hx hb hts hinX9 hown hK hP 0 VG_0 rfl 16 (Nat.le_of_ble_eq_true rfl) (hts (.fieldLink RX9 36 "NapkinSyntaxModel" "thrown" "I") (by decide +kernel)) (fun _ h => h) (v := .int (iI (M 26 0))) rfl dX9_kept_1 ?_
  refine z_if_eq hx hb dX9_kept_4 (tgt := 22) rfl (by omega) (fun b1 => ?_) (fun b1 => ?_)
  · rw [if_pos b1] at hE
    refine lv_aload_n hx hb dX9_kept_22 rfl (lv_at hl 0 rfl) ?_
    refine va_get (own := RX9) (ref := "NapkinSyntaxModel") (C := RX9) (T := TX9) (N := 20) hx hb hts hinX9 hown hK hP 0 VG_0 rfl 3 (Nat.le_of_ble_eq_true rfl) (hts (.fieldLink RX9 59 "NapkinSyntaxModel" "changes" "I") (by decide +kernel)) (fun _ h => h) (v := .int (iI (M 13 0))) rfl dX9_kept_23 ?_
    have q2 := CH_i hX
    refine z_bipush hx hb dX9_kept_26 (by decide +kernel) ?_
    refine z_icmp_ne hx hb dX9_kept_28 (tgt := 71) rfl (by omega) (by omega) (fun b3 => ?_) (fun b3 => ?_)
    · rw [if_neg b3] at hE
      refine lv_aload_n hx hb dX9_kept_71 rfl (lv_at hl 0 rfl) ?_
      refine va_get (own := RX9) (ref := "NapkinSyntaxModel") (C := RX9) (T := TX9) (N := 20) hx hb hts hinX9 hown hK hP 0 VG_0 rfl 1 (Nat.le_of_ble_eq_true rfl) (hts (.fieldLink RX9 13 "NapkinSyntaxModel" "before" "[I") (by decide +kernel)) (fun _ h => h) (v := .ref (E 2)) rfl dX9_kept_72 ?_
      refine z_iconst hx hb dX9_kept_75 ?_
      refine lv_aload_n hx hb dX9_kept_76 rfl (lv_at hl 0 rfl) ?_
      refine va_get (own := RX9) (ref := "NapkinSyntaxModel") (C := RX9) (T := TX9) (N := 20) hx hb hts hinX9 hown hK hP 0 VG_0 rfl 2 (Nat.le_of_ble_eq_true rfl) (hts (.fieldLink RX9 16 "NapkinSyntaxModel" "history" "[I") (by decide +kernel)) (fun _ h => h) (v := .ref (E 3)) rfl dX9_kept_77 ?_
      refine lv_aload_n hx hb dX9_kept_80 rfl (lv_at hl 0 rfl) ?_
      refine va_get (own := RX9) (ref := "NapkinSyntaxModel") (C := RX9) (T := TX9) (N := 20) hx hb hts hinX9 hown hK hP 0 VG_0 rfl 3 (Nat.le_of_ble_eq_true rfl) (hts (.fieldLink RX9 59 "NapkinSyntaxModel" "changes" "I") (by decide +kernel)) (fun _ h => h) (v := .int (iI (M 13 0))) rfl dX9_kept_81 ?_
      have q4 := CH_i hX
      refine z_bipush hx hb dX9_kept_84 (by decide +kernel) ?_
      refine z_imul hx hb dX9_kept_86 ?_
      refine ct_Sv (VG_fix E cI cC) hZo hZb hZ S0 (kX9_copy_bh l D E cI cC Z hZo hZb M (0) ((M 13 0) * (82)) (by omega) (by omega) (fX9_copy_bh M (0) ((M 13 0) * (82))) rfl) (va_cwS 4 hts gX9_kept_X9_copy rfl rfl rfl (by decide +kernel) ⟨(Nat.le_of_ble_eq_true rfl), (Nat.le_of_ble_eq_true rfl)⟩) hK hP hD hS rfl hl.1 rfl (Nat.le_of_ble_eq_true rfl) dX9_kept_87 ⟨Nat.zero_le _, Nat.zero_le _⟩ (fun H locs hP hD hS => ?_)
      refine lv_aload_n hx hb dX9_kept_90 rfl (lv_at hl 0 rfl) ?_
      refine lv_dup hx hb dX9_kept_91 rfl ?_
      refine va_get (own := RX9) (ref := "NapkinSyntaxModel") (C := RX9) (T := TX9) (N := 20) hx hb hts hinX9 hown hK hP 0 VG_0 rfl 3 (Nat.le_of_ble_eq_true rfl) (hts (.fieldLink RX9 59 "NapkinSyntaxModel" "changes" "I") (by decide +kernel)) (fun _ h => h) (v := .int (iI ((fX9_copy_bh M (0) ((M 13 0) * (82))) 13 0))) rfl dX9_kept_92 ?_
      have q5 := CH_i (CH_of (fr_fX9_copy_bh (0) ((M 13 0) * (82)) rfl) hX)
      refine z_iconst hx hb dX9_kept_95 ?_
      refine z_iadd hx hb dX9_kept_96 ?_
      refine va_put (own := RX9) (ref := "NapkinSyntaxModel") (C := RX9) (T := TX9) (N := 20) hx hb hts hinX9 tyX9 tyX9_ok nmX9 hown hK hP hD hS 0 VG_0 rfl 3 (Nat.le_of_ble_eq_true rfl) (hts (.fieldLink RX9 59 "NapkinSyntaxModel" "changes" "I") (by decide +kernel)) (fun _ h => h) rfl (ty := .int) (v := .int (iI (((fX9_copy_bh M (0) ((M 13 0) * (82))) 13 0) + (1)))) (by decide +kernel) rfl rfl (Nat.le_of_ble_eq_true rfl) dX9_kept_97 (fun H locs hP hD hS => ?_)
      rw [VGf_13] at hP hD
      refine lv_iload_n hx hb dX9_kept_100 rfl (lv_at hl 1 rfl) ?_
      obtain ⟨e1, e2⟩ := Prod.mk.inj hE
      subst e2
      exact ci_i hx hb hr hlocks e1 rfl hS hP dX9_kept_101
    · rw [if_pos b3] at hE
      refine z_iconst hx hb dX9_kept_31 ?_
      refine lv_istore_n hx hb dX9_kept_32 rfl hl (Nat.le_of_ble_eq_true rfl) (lv' := [(2, .int (iI (0))), (0, .ref (E 0)), (1, .int (iI v))]) rfl (fun ls hl => ?_)
      have L1 : ∀ (k1 : Nat) (Mx : Mem) (ii : Int) (ls : Array Slot) (H : Heap) (locs : List Loc), lv_has ls 3 [(0, .ref (E 0)), (1, .int (iI v)), (2, .int (iI ii))] → va_P D vwCl (VG E cI cC Mx) H → va_D (wA (VG E cI cC M)) (VG E cI cC Mx) → va_S (wA (VG E cI cC M)) s.heap H locs → (0 ≤ ii ∧ ii ≤ 574) → (574 - ii < (k1 : Int)) → (Mx 13 0 = 8) → fX9_kept_L1 M v k1 Mx ii = (r, M') → W p l e (zRm 1 24) s m args below meth c H locs 0 0 (MQ below (ciQ D (VG E cI cC) M r M') args s 0 0 (wA (VG E cI cC M))) (F0 m 33 ls []) := by
        intro k1
        induction k1 with
        | zero => intro Mx ii ls H locs hl hP hD hS i1 i3 jn hE; exfalso; omega
        | succ k1 ih1 =>
          intro Mx ii ls H locs hl hP hD hS i1 i3 jn hE
          rw [fX9_kept_L1] at hE
          refine lv_iload_n hx hb dX9_kept_33 rfl (lv_at hl 2 rfl) ?_
          refine z_sipush hx hb dX9_kept_34 (by decide +kernel) ?_
          refine z_icmp_ge hx hb dX9_kept_37 (tgt := 61) rfl (by omega) (by omega) (fun b6 => ?_) (fun b6 => ?_)
          · rw [if_pos b6] at hE
            refine lv_aload_n hx hb dX9_kept_61 rfl (lv_at hl 0 rfl) ?_
            refine lv_dup hx hb dX9_kept_62 rfl ?_
            refine va_get (own := RX9) (ref := "NapkinSyntaxModel") (C := RX9) (T := TX9) (N := 20) hx hb hts hinX9 hown hK hP 0 VG_0 rfl 3 (Nat.le_of_ble_eq_true rfl) (hts (.fieldLink RX9 59 "NapkinSyntaxModel" "changes" "I") (by decide +kernel)) (fun _ h => h) (v := .int (iI (Mx 13 0))) rfl dX9_kept_63 ?_
            refine z_iconst hx hb dX9_kept_66 ?_
            refine z_isub hx hb dX9_kept_67 ?_
            refine va_put (own := RX9) (ref := "NapkinSyntaxModel") (C := RX9) (T := TX9) (N := 20) hx hb hts hinX9 tyX9 tyX9_ok nmX9 hown hK hP hD hS 0 VG_0 rfl 3 (Nat.le_of_ble_eq_true rfl) (hts (.fieldLink RX9 59 "NapkinSyntaxModel" "changes" "I") (by decide +kernel)) (fun _ h => h) rfl (ty := .int) (v := .int (iI ((Mx 13 0) - (1)))) (by decide +kernel) rfl rfl (Nat.le_of_ble_eq_true rfl) dX9_kept_68 (fun H locs hP hD hS => ?_)
            rw [VGf_13] at hP hD
            refine lv_aload_n hx hb dX9_kept_71 rfl (lv_at hl 0 rfl) ?_
            refine va_get (own := RX9) (ref := "NapkinSyntaxModel") (C := RX9) (T := TX9) (N := 20) hx hb hts hinX9 hown hK hP 0 VG_0 rfl 1 (Nat.le_of_ble_eq_true rfl) (hts (.fieldLink RX9 13 "NapkinSyntaxModel" "before" "[I") (by decide +kernel)) (fun _ h => h) (v := .ref (E 2)) rfl dX9_kept_72 ?_
            refine z_iconst hx hb dX9_kept_75 ?_
            refine lv_aload_n hx hb dX9_kept_76 rfl (lv_at hl 0 rfl) ?_
            refine va_get (own := RX9) (ref := "NapkinSyntaxModel") (C := RX9) (T := TX9) (N := 20) hx hb hts hinX9 hown hK hP 0 VG_0 rfl 2 (Nat.le_of_ble_eq_true rfl) (hts (.fieldLink RX9 16 "NapkinSyntaxModel" "history" "[I") (by decide +kernel)) (fun _ h => h) (v := .ref (E 3)) rfl dX9_kept_77 ?_
            refine lv_aload_n hx hb dX9_kept_80 rfl (lv_at hl 0 rfl) ?_
            refine va_get (own := RX9) (ref := "NapkinSyntaxModel") (C := RX9) (T := TX9) (N := 20) hx hb hts hinX9 hown hK hP 0 VG_0 rfl 3 (Nat.le_of_ble_eq_true rfl) (hts (.fieldLink RX9 59 "NapkinSyntaxModel" "changes" "I") (by decide +kernel)) (fun _ h => h) (v := .int (iI ((Mx 13 0) - (1)))) rfl dX9_kept_81 ?_
            refine z_bipush hx hb dX9_kept_84 (by decide +kernel) ?_
            refine z_imul hx hb dX9_kept_86 ?_
            refine ct_Sv (VG_fix E cI cC) hZo hZb hZ S0 (kX9_copy_bh l D E cI cC Z hZo hZb (msf Mx 13 ((Mx 13 0) - (1))) (0) (((Mx 13 0) - (1)) * (82)) (by omega) (by omega) (fX9_copy_bh (msf Mx 13 ((Mx 13 0) - (1))) (0) (((Mx 13 0) - (1)) * (82))) rfl) (va_cwS 4 hts gX9_kept_X9_copy rfl rfl rfl (by decide +kernel) ⟨(Nat.le_of_ble_eq_true rfl), (Nat.le_of_ble_eq_true rfl)⟩) hK hP hD hS rfl hl.1 rfl (Nat.le_of_ble_eq_true rfl) dX9_kept_87 ⟨Nat.zero_le _, Nat.zero_le _⟩ (fun H locs hP hD hS => ?_)
            refine lv_aload_n hx hb dX9_kept_90 rfl (lv_at hl 0 rfl) ?_
            refine lv_dup hx hb dX9_kept_91 rfl ?_
            refine va_get (own := RX9) (ref := "NapkinSyntaxModel") (C := RX9) (T := TX9) (N := 20) hx hb hts hinX9 hown hK hP 0 VG_0 rfl 3 (Nat.le_of_ble_eq_true rfl) (hts (.fieldLink RX9 59 "NapkinSyntaxModel" "changes" "I") (by decide +kernel)) (fun _ h => h) (v := .int (iI ((fX9_copy_bh (msf Mx 13 ((Mx 13 0) - (1))) (0) (((Mx 13 0) - (1)) * (82))) 13 0))) rfl dX9_kept_92 ?_
            refine z_iconst hx hb dX9_kept_95 ?_
            refine z_iadd hx hb dX9_kept_96 ?_
            refine va_put (own := RX9) (ref := "NapkinSyntaxModel") (C := RX9) (T := TX9) (N := 20) hx hb hts hinX9 tyX9 tyX9_ok nmX9 hown hK hP hD hS 0 VG_0 rfl 3 (Nat.le_of_ble_eq_true rfl) (hts (.fieldLink RX9 59 "NapkinSyntaxModel" "changes" "I") (by decide +kernel)) (fun _ h => h) rfl (ty := .int) (v := .int (iI (((fX9_copy_bh (msf Mx 13 ((Mx 13 0) - (1))) (0) (((Mx 13 0) - (1)) * (82))) 13 0) + (1)))) (by decide +kernel) rfl rfl (Nat.le_of_ble_eq_true rfl) dX9_kept_97 (fun H locs hP hD hS => ?_)
            rw [VGf_13] at hP hD
            refine lv_iload_n hx hb dX9_kept_100 rfl (lv_at hl 1 rfl) ?_
            obtain ⟨e1, e2⟩ := Prod.mk.inj hE
            subst e2
            exact ci_i hx hb hr hlocks e1 rfl hS hP dX9_kept_101
          · rw [if_neg b6] at hE
            refine lv_aload_n hx hb dX9_kept_40 rfl (lv_at hl 0 rfl) ?_
            refine va_get (own := RX9) (ref := "NapkinSyntaxModel") (C := RX9) (T := TX9) (N := 20) hx hb hts hinX9 hown hK hP 0 VG_0 rfl 2 (Nat.le_of_ble_eq_true rfl) (hts (.fieldLink RX9 16 "NapkinSyntaxModel" "history" "[I") (by decide +kernel)) (fun _ h => h) (v := .ref (E 3)) rfl dX9_kept_41 ?_
            refine lv_iload_n hx hb dX9_kept_44 rfl (lv_at hl 2 rfl) ?_
            refine lv_aload_n hx hb dX9_kept_45 rfl (lv_at hl 0 rfl) ?_
            refine va_get (own := RX9) (ref := "NapkinSyntaxModel") (C := RX9) (T := TX9) (N := 20) hx hb hts hinX9 hown hK hP 0 VG_0 rfl 2 (Nat.le_of_ble_eq_true rfl) (hts (.fieldLink RX9 16 "NapkinSyntaxModel" "history" "[I") (by decide +kernel)) (fun _ h => h) (v := .ref (E 3)) rfl dX9_kept_46 ?_
            refine lv_iload_n hx hb dX9_kept_49 rfl (lv_at hl 2 rfl) ?_
            refine z_bipush hx hb dX9_kept_50 (by decide +kernel) ?_
            refine z_iadd hx hb dX9_kept_52 ?_
            refine z_iald hx hb hK hP 3 0 VG_3 rfl (by omega) (by omega) (by decide) dX9_kept_53 ?_
            refine z_iast hx hb hK hP hD hS 3 0 VG_3 rfl (by omega) (by omega) (by decide) dX9_kept_54 VGw_2 (fun H locs hP hD hS => ?_)
            refine z_iinc hx hb dX9_kept_55 hl (k := 2) rfl (Nat.le_of_ble_eq_true rfl) (lv' := [(2, .int (iI (ii + 1))), (0, .ref (E 0)), (1, .int (iI v))]) rfl (fun ls hl => ?_)
            refine lv_goto hx hb dX9_kept_58 (tgt := 33) rfl ?_
            exact ih1 (mst Mx 2 ii (Mx 2 (ii + (82)))) (ii + 1) ls _ _ (lv_sub hl [1, 2, 0] rfl) hP hD hS (by omega) (by omega) jn hE
      exact L1 575 M (0) ls _ _ (lv_sub hl [1, 2, 0] rfl) hP hD hS (by omega) (by omega) (by omega) hE
  · rw [if_neg b1] at hE
    refine lv_aload_n hx hb dX9_kept_7 rfl (lv_at hl 0 rfl) ?_
    refine va_get (own := RX9) (ref := "NapkinSyntaxModel") (C := RX9) (T := TX9) (N := 20) hx hb hts hinX9 hown hK hP 0 VG_0 rfl 1 (Nat.le_of_ble_eq_true rfl) (hts (.fieldLink RX9 13 "NapkinSyntaxModel" "before" "[I") (by decide +kernel)) (fun _ h => h) (v := .ref (E 2)) rfl dX9_kept_8 ?_
    refine z_iconst hx hb dX9_kept_11 ?_
    refine lv_aload_n hx hb dX9_kept_12 rfl (lv_at hl 0 rfl) ?_
    refine va_get (own := RX9) (ref := "NapkinSyntaxModel") (C := RX9) (T := TX9) (N := 20) hx hb hts hinX9 hown hK hP 0 VG_0 rfl 0 (Nat.le_of_ble_eq_true rfl) (hts (.fieldLink RX9 7 "NapkinSyntaxModel" "g" "[I") (by decide +kernel)) (fun _ h => h) (v := .ref (E 1)) rfl dX9_kept_13 ?_
    refine z_iconst hx hb dX9_kept_16 ?_
    refine ct_Sv (VG_fix E cI cC) hZo hZb hZ S0 (kX9_copy_bg l D E cI cC Z hZo hZb M (0) (0) (by omega) (by omega) (fX9_copy_bg M (0) (0)) rfl) (va_cwS 4 hts gX9_kept_X9_copy rfl rfl rfl (by decide +kernel) ⟨(Nat.le_of_ble_eq_true rfl), (Nat.le_of_ble_eq_true rfl)⟩) hK hP hD hS rfl hl.1 rfl (Nat.le_of_ble_eq_true rfl) dX9_kept_17 ⟨Nat.zero_le _, Nat.zero_le _⟩ (fun H locs hP hD hS => ?_)
    refine z_iconst hx hb dX9_kept_20 ?_
    obtain ⟨e1, e2⟩ := Prod.mk.inj hE
    subst e2
    exact ci_i hx hb hr hlocks e1 rfl hS hP dX9_kept_21

theorem fr_fX9_kept_L1 (M : Mem) (v : Int) {r : Nat} (h0 : Nat.beq r 0 = false) (h2 : Nat.beq r 2 = false) (h13 : Nat.beq r 13 = false) : ∀ (k : Nat) (Mx : Mem) (ii : Int), (fX9_kept_L1 M v k Mx ii).2 r = Mx r := by
  intro k
  induction k with
  | zero => intros; rfl
  | succ k ih =>
    intro Mx ii
    rw [fX9_kept_L1]
    (repeat' with_reducible refine frite_w (fun _ => ?_) (fun _ => ?_)) <;> first | with_reducible rfl | simp only [ih, mst_o, msf_o, mcp_o, fr_fX9_copy_bg, fr_fX9_copy_bh, h0, h2, h13]
theorem fr_fX9_kept {M : Mem} (v : Int) {r : Nat} (h0 : Nat.beq r 0 = false) (h2 : Nat.beq r 2 = false) (h13 : Nat.beq r 13 = false) : (fX9_kept M v).2 r = M r := by
  unfold fX9_kept
  (repeat' with_reducible refine frite_w (fun _ => ?_) (fun _ => ?_)) <;> first | with_reducible rfl | simp only [mst_o, msf_o, mcp_o, fr_fX9_copy_bg, fr_fX9_copy_bh, h0, h2, h13, fr_fX9_kept_L1]

def fX9_isNapkin (M : Mem) (napkin : Int) : Int := (fX9_in napkin (0) ((M 0 (0)) - (1)))
set_option maxRecDepth 100000 in
set_option maxHeartbeats 4000000 in
theorem kX9_isNapkin (l : Launch) (D : va_G) (E : Nat → Nat) (cI cC : ClassId) (Z : State → Prop) (hZo : ∀ M : Mem, ZOk (VG E cI cC M) Z) (hZb : ZBl Z) (M : Mem) (napkin : Int) (h1 : -2147483648 ≤ napkin ∧ napkin < 2147483648) (hG : GI M) (r : Int) (hE : fX9_isNapkin M napkin = r) : Ci l yX9_isNapkin wsX9_isNapkin 1 22 [.ref (E 0), .int (iI napkin)] D (TY cI cC) (VG E cI cC) Z M r M := by
  refine Ci.of (cc := cX9_isNapkin) (maxL := 2) (ret := (some .boolean)) (by decide +kernel) rfl (Nat.le_of_ble_eq_true rfl) ?_
  intro p e s m args below meth c ls hx hb hml hr hown hts hlocks hP hK hD hZ hS hl
  have hl : lv_has ls 2 [(0, .ref (E 0)), (1, .int (iI napkin))] := hl
  have S0 : CallFix p m c cX9_isNapkin 2 s args wsX9_isNapkin RX9 := ⟨hx, hb, hml, hown, hts⟩
  have hinX9 : ∀ w ∈ u_ws RX9 TX9 20, w ∈ wsX9_isNapkin := by decide +kernel
  rw [fX9_isNapkin] at hE
  refine lv_iload_n hx hb dX9_isNapkin_0 rfl (lv_at hl 1 rfl) ?_
  refine z_iconst hx hb dX9_isNapkin_1 ?_
  refine lv_aload_n hx hb dX9_isNapkin_2 rfl (lv_at hl 0 rfl) ?_
  refine va_get (own := RX9) (ref := "NapkinSyntaxModel") (C := RX9) (T := TX9) (N := 20) hx hb hts hinX9 hown hK hP 0 VG_0 rfl 0 (Nat.le_of_ble_eq_true rfl) (hts (.fieldLink RX9 7 "NapkinSyntaxModel" "g" "[I") (by decide +kernel)) (fun _ h => h) (v := .ref (E 1)) rfl dX9_isNapkin_3 ?_
  refine z_iconst hx hb dX9_isNapkin_6 ?_
  refine z_iald hx hb hK hP 1 0 VG_1 rfl (by omega) (by omega) (by decide) dX9_isNapkin_7 ?_
  have q1 := GI_0 hG
  refine z_iconst hx hb dX9_isNapkin_8 ?_
  refine z_isub hx hb dX9_isNapkin_9 ?_
  refine ct_Si (VG_fix E cI cC) hZo hZb hZ S0 (kX9_in l D E cI cC Z hZo hZb M napkin (0) ((M 0 (0)) - (1)) (by omega) (by omega) (by omega) (fX9_in napkin (0) ((M 0 (0)) - (1))) rfl) (va_cwS 3 hts gX9_isNapkin_X9_in rfl rfl rfl (by decide +kernel) ⟨(Nat.le_of_ble_eq_true rfl), (Nat.le_of_ble_eq_true rfl)⟩) hK hP hD hS rfl hl.1 rfl (Nat.le_of_ble_eq_true rfl) dX9_isNapkin_10 ⟨Nat.zero_le _, Nat.zero_le _⟩ (fun H locs hP hD hS => ?_)
  have q2 := dX9_in napkin (0) ((M 0 (0)) - (1))
  exact ci_i hx hb hr hlocks hE (nr_bb (by omega) (by omega)) hS hP dX9_isNapkin_13

def fX9_isTable (table : Int) : Int := (fX9_in table (0) (2))
set_option maxRecDepth 100000 in
set_option maxHeartbeats 4000000 in
theorem kX9_isTable (l : Launch) (D : va_G) (E : Nat → Nat) (cI cC : ClassId) (Z : State → Prop) (hZo : ∀ M : Mem, ZOk (VG E cI cC M) Z) (hZb : ZBl Z) (M : Mem) (table : Int) (h1 : -2147483648 ≤ table ∧ table < 2147483648) (r : Int) (hE : fX9_isTable table = r) : Ci l yX9_isTable wsX9_isTable 1 22 [.int (iI table)] D (TY cI cC) (VG E cI cC) Z M r M := by
  refine Ci.of (cc := cX9_isTable) (maxL := 1) (ret := (some .boolean)) (by decide +kernel) rfl (Nat.le_of_ble_eq_true rfl) ?_
  intro p e s m args below meth c ls hx hb hml hr hown hts hlocks hP hK hD hZ hS hl
  have hl : lv_has ls 1 [(0, .int (iI table))] := hl
  have S0 : CallFix p m c cX9_isTable 1 s args wsX9_isTable RX9 := ⟨hx, hb, hml, hown, hts⟩
  rw [fX9_isTable] at hE
  refine lv_iload_n hx hb dX9_isTable_0 rfl (lv_at hl 0 rfl) ?_
  refine z_iconst hx hb dX9_isTable_1 ?_
  refine z_iconst hx hb dX9_isTable_2 ?_
  refine ct_Si (VG_fix E cI cC) hZo hZb hZ S0 (kX9_in l D E cI cC Z hZo hZb M table (0) (2) (by omega) (by omega) (by omega) (fX9_in table (0) (2)) rfl) (va_cwS 3 hts gX9_isTable_X9_in rfl rfl rfl (by decide +kernel) ⟨(Nat.le_of_ble_eq_true rfl), (Nat.le_of_ble_eq_true rfl)⟩) hK hP hD hS rfl hl.1 rfl (Nat.le_of_ble_eq_true rfl) dX9_isTable_3 ⟨Nat.zero_le _, Nat.zero_le _⟩ (fun H locs hP hD hS => ?_)
  have q1 := dX9_in table (0) (2)
  exact ci_i hx hb hr hlocks hE (nr_bb (by omega) (by omega)) hS hP dX9_isTable_6


theorem dX9_isNapkin {M : Mem} (h : GI M) (n : Int) : (fX9_isNapkin M n = 0 ∧ ¬ (0 ≤ n ∧ n < M 0 0)) ∨ (fX9_isNapkin M n = 1 ∧ 0 ≤ n ∧ n < M 0 0 ∧ n < 10) := by
  have := GI_0 h
  have := dX9_in n 0 (M 0 0 - 1)
  unfold fX9_isNapkin
  omega
theorem dX9_isTable (t : Int) : (fX9_isTable t = 0 ∧ ¬ (0 ≤ t ∧ t < 3)) ∨ (fX9_isTable t = 1 ∧ 0 ≤ t ∧ t < 3) := by
  have := dX9_in t 0 2
  unfold fX9_isTable
  omega

def fX9_at (M : Mem) (table place : Int) : Int := (M 0 (((64) + ((6) * table)) + place))
set_option maxRecDepth 100000 in
set_option maxHeartbeats 4000000 in
theorem kX9_at (l : Launch) (D : va_G) (E : Nat → Nat) (cI cC : ClassId) (Z : State → Prop) (hZo : ∀ M : Mem, ZOk (VG E cI cC M) Z) (hZb : ZBl Z) (M : Mem) (table place : Int) (h1 : 0 ≤ table ∧ table < 3) (h2 : 0 ≤ place ∧ place < 6) (r : Int) (hE : fX9_at M table place = r) : Ci l yX9_at wsX9_at 0 0 [.ref (E 0), .int (iI table), .int (iI place)] D (TY cI cC) (VG E cI cC) Z M r M := by
  refine Ci.of (cc := cX9_at) (maxL := 3) (ret := (some .int)) (by decide +kernel) rfl (Nat.le_of_ble_eq_true rfl) ?_
  intro p e s m args below meth c ls hx hb hml hr hown hts hlocks hP hK hD hZ hS hl
  have hl : lv_has ls 3 [(0, .ref (E 0)), (1, .int (iI table)), (2, .int (iI place))] := hl
  have S0 : CallFix p m c cX9_at 3 s args wsX9_at RX9 := ⟨hx, hb, hml, hown, hts⟩
  have hinX9 : ∀ w ∈ u_ws RX9 TX9 20, w ∈ wsX9_at := by decide +kernel
  rw [fX9_at] at hE
  refine lv_aload_n hx hb dX9_at_0 rfl (lv_at hl 0 rfl) ?_
  refine va_get (own := RX9) (ref := "NapkinSyntaxModel") (C := RX9) (T := TX9) (N := 20) hx hb hts hinX9 hown hK hP 0 VG_0 rfl 0 (Nat.le_of_ble_eq_true rfl) (hts (.fieldLink RX9 7 "NapkinSyntaxModel" "g" "[I") (by decide +kernel)) (fun _ h => h) (v := .ref (E 1)) rfl dX9_at_1 ?_
  refine z_bipush hx hb dX9_at_4 (by decide +kernel) ?_
  refine z_bipush hx hb dX9_at_6 (by decide +kernel) ?_
  refine lv_iload_n hx hb dX9_at_8 rfl (lv_at hl 1 rfl) ?_
  refine z_imul hx hb dX9_at_9 ?_
  refine z_iadd hx hb dX9_at_10 ?_
  refine lv_iload_n hx hb dX9_at_11 rfl (lv_at hl 2 rfl) ?_
  refine z_iadd hx hb dX9_at_12 ?_
  refine z_iald hx hb hK hP 1 0 VG_1 rfl (by omega) (by omega) (by decide) dX9_at_13 ?_
  exact ci_i hx hb hr hlocks hE rfl hS hP dX9_at_14


theorem rg_X9_at {M : Mem} (h : GI M) (t p : Int) (h1 : 0 ≤ t ∧ t < 3) (h2 : 0 ≤ p ∧ p < 6) : 0 ≤ fX9_at M t p ∧ fX9_at M t p ≤ 9 := by
  unfold fX9_at
  exact GI_64 h _ (by omega) (by omega)

def fX9_seatOf_L2 (M : Mem) (napkin : Int) (table : Int) (K : Int → Int) : Nat → Int → (Int)
  | 0, _ => 0
  | k2 + 1, place => if ((M 0 ((55) + table)) ≤ place) then K (table + 1) else if ((fX9_at M table place) = napkin) then (((10) * table) + place) else fX9_seatOf_L2 M napkin table K k2 (place + 1)
def fX9_seatOf_L1 (M : Mem) (napkin : Int) : Nat → Int → (Int)
  | 0, _ => 0
  | k1 + 1, table => if ((3) ≤ table) then (-1) else fX9_seatOf_L2 M napkin table (fun x0 => fX9_seatOf_L1 M napkin k1 x0) 7 (0)
def fX9_seatOf (M : Mem) (napkin : Int) : Int := fX9_seatOf_L1 M napkin 4 (0)
set_option maxRecDepth 100000 in
set_option maxHeartbeats 4000000 in
theorem kX9_seatOf (l : Launch) (D : va_G) (E : Nat → Nat) (cI cC : ClassId) (Z : State → Prop) (hZo : ∀ M : Mem, ZOk (VG E cI cC M) Z) (hZb : ZBl Z) (M : Mem) (napkin : Int) (h1 : -2147483648 ≤ napkin ∧ napkin < 2147483648) (hG : GI M) (r : Int) (hE : fX9_seatOf M napkin = r) : Ci l yX9_seatOf wsX9_seatOf 1 22 [.ref (E 0), .int (iI napkin)] D (TY cI cC) (VG E cI cC) Z M r M := by
  refine Ci.of (cc := cX9_seatOf) (maxL := 4) (ret := (some .int)) (by decide +kernel) rfl (Nat.le_of_ble_eq_true rfl) ?_
  intro p e s m args below meth c ls hx hb hml hr hown hts hlocks hP hK hD hZ hS hl
  have hl : lv_has ls 4 [(0, .ref (E 0)), (1, .int (iI napkin))] := hl
  have S0 : CallFix p m c cX9_seatOf 4 s args wsX9_seatOf RX9 := ⟨hx, hb, hml, hown, hts⟩
  have hinX9 : ∀ w ∈ u_ws RX9 TX9 20, w ∈ wsX9_seatOf := by decide +kernel
  rw [fX9_seatOf] at hE
  refine z_iconst hx hb dX9_seatOf_0 ?_
  refine lv_istore_n hx hb dX9_seatOf_1 rfl hl (Nat.le_of_ble_eq_true rfl) (lv' := [(2, .int (iI (0))), (0, .ref (E 0)), (1, .int (iI napkin))]) rfl (fun ls hl => ?_)
  have L1 : ∀ (k1 : Nat) (table : Int) (ls : Array Slot) (H : Heap) (locs : List Loc), lv_has ls 4 [(0, .ref (E 0)), (1, .int (iI napkin)), (2, .int (iI table))] → va_P D vwCl (VG E cI cC M) H → va_D (wA (VG E cI cC M)) (VG E cI cC M) → va_S (wA (VG E cI cC M)) s.heap H locs → (0 ≤ table ∧ table ≤ 3) → (3 - table < (k1 : Int)) → fX9_seatOf_L1 M napkin k1 table = r → W p l e (zRm 1 22) s m args below meth c H locs 0 0 (MQ below (ciQ D (VG E cI cC) M r M) args s 0 0 (wA (VG E cI cC M))) (F0 m 2 ls []) := by
    intro k1
    induction k1 with
    | zero => intro table ls H locs hl hP hD hS i1 i3 hE; exfalso; omega
    | succ k1 ih1 =>
      intro table ls H locs hl hP hD hS i1 i3 hE
      rw [fX9_seatOf_L1] at hE
      refine lv_iload_n hx hb dX9_seatOf_2 rfl (lv_at hl 2 rfl) ?_
      refine z_iconst hx hb dX9_seatOf_3 ?_
      refine z_icmp_ge hx hb dX9_seatOf_4 (tgt := 51) rfl (by omega) (by omega) (fun b1 => ?_) (fun b1 => ?_)
      · rw [if_pos b1] at hE
        refine z_iconst hx hb dX9_seatOf_51 ?_
        exact ci_i hx hb hr hlocks hE rfl hS hP dX9_seatOf_52
      · rw [if_neg b1] at hE
        refine z_iconst hx hb dX9_seatOf_7 ?_
        refine lv_istore_n hx hb dX9_seatOf_8 rfl hl (Nat.le_of_ble_eq_true rfl) (lv' := [(3, .int (iI (0))), (0, .ref (E 0)), (1, .int (iI napkin)), (2, .int (iI table))]) rfl (fun ls hl => ?_)
        have L2 : ∀ (k2 : Nat) (place : Int) (ls : Array Slot) (H : Heap) (locs : List Loc), lv_has ls 4 [(0, .ref (E 0)), (1, .int (iI napkin)), (2, .int (iI table)), (3, .int (iI place))] → va_P D vwCl (VG E cI cC M) H → va_D (wA (VG E cI cC M)) (VG E cI cC M) → va_S (wA (VG E cI cC M)) s.heap H locs → (0 ≤ place ∧ place ≤ 6) → (6 - place < (k2 : Int)) → fX9_seatOf_L2 M napkin table (fun x0 => fX9_seatOf_L1 M napkin k1 x0) k2 place = r → W p l e (zRm 1 22) s m args below meth c H locs 0 0 (MQ below (ciQ D (VG E cI cC) M r M) args s 0 0 (wA (VG E cI cC M))) (F0 m 9 ls []) := by
          intro k2
          induction k2 with
          | zero => intro place ls H locs hl hP hD hS j1 j3 hE; exfalso; omega
          | succ k2 ih2 =>
            intro place ls H locs hl hP hD hS j1 j3 hE
            have q98 := GI_55 hG ((55) + table) (by omega) (by omega)
            rw [fX9_seatOf_L2] at hE
            refine lv_iload_n hx hb dX9_seatOf_9 rfl (lv_at hl 3 rfl) ?_
            refine lv_aload_n hx hb dX9_seatOf_10 rfl (lv_at hl 0 rfl) ?_
            refine va_get (own := RX9) (ref := "NapkinSyntaxModel") (C := RX9) (T := TX9) (N := 20) hx hb hts hinX9 hown hK hP 0 VG_0 rfl 0 (Nat.le_of_ble_eq_true rfl) (hts (.fieldLink RX9 7 "NapkinSyntaxModel" "g" "[I") (by decide +kernel)) (fun _ h => h) (v := .ref (E 1)) rfl dX9_seatOf_11 ?_
            refine z_bipush hx hb dX9_seatOf_14 (by decide +kernel) ?_
            refine lv_iload_n hx hb dX9_seatOf_16 rfl (lv_at hl 2 rfl) ?_
            refine z_iadd hx hb dX9_seatOf_17 ?_
            refine z_iald hx hb hK hP 1 0 VG_1 rfl (by omega) (by omega) (by decide) dX9_seatOf_18 ?_
            have q2 := GI_55 hG ((55) + table) (by omega) (by omega)
            refine z_icmp_ge hx hb dX9_seatOf_19 (tgt := 45) rfl (by omega) (by omega) (fun b3 => ?_) (fun b3 => ?_)
            · rw [if_pos b3] at hE
              refine z_iinc hx hb dX9_seatOf_45 hl (k := 2) rfl (Nat.le_of_ble_eq_true rfl) (lv' := [(2, .int (iI (table + 1))), (0, .ref (E 0)), (1, .int (iI napkin)), (3, .int (iI place))]) rfl (fun ls hl => ?_)
              refine lv_goto hx hb dX9_seatOf_48 (tgt := 2) rfl ?_
              exact ih1 (table + 1) ls _ _ (lv_sub hl [1, 2, 0] rfl) hP hD hS (by omega) (by omega) hE
            · rw [if_neg b3] at hE
              refine lv_aload_n hx hb dX9_seatOf_22 rfl (lv_at hl 0 rfl) ?_
              refine lv_iload_n hx hb dX9_seatOf_23 rfl (lv_at hl 2 rfl) ?_
              refine lv_iload_n hx hb dX9_seatOf_24 rfl (lv_at hl 3 rfl) ?_
              refine ct_Vi (VG_fix E cI cC) hZo hZb hZ S0 (kX9_at l D E cI cC Z hZo hZb M table place (by omega) (by omega) (fX9_at M table place) rfl) (cwV 2 hts gX9_seatOf_X9_at rfl rfl rfl (by decide +kernel) ⟨(Nat.le_of_ble_eq_true rfl), (Nat.le_of_ble_eq_true rfl)⟩) hK hP hD hS rfl rfl VG_0 rfl hl.1 rfl (Nat.le_of_ble_eq_true rfl) dX9_seatOf_25 ⟨Nat.zero_le _, Nat.zero_le _⟩ (fun H locs hP hD hS => ?_)
              have q4 := rg_X9_at hG table place (by omega) (by omega)
              refine lv_iload_n hx hb dX9_seatOf_28 rfl (lv_at hl 1 rfl) ?_
              refine z_icmp_ne hx hb dX9_seatOf_29 (tgt := 39) rfl (by omega) (by omega) (fun b5 => ?_) (fun b5 => ?_)
              · rw [if_neg b5] at hE
                refine z_iinc hx hb dX9_seatOf_39 hl (k := 3) rfl (Nat.le_of_ble_eq_true rfl) (lv' := [(3, .int (iI (place + 1))), (0, .ref (E 0)), (1, .int (iI napkin)), (2, .int (iI table))]) rfl (fun ls hl => ?_)
                refine lv_goto hx hb dX9_seatOf_42 (tgt := 9) rfl ?_
                exact ih2 (place + 1) ls _ _ (lv_sub hl [1, 2, 3, 0] rfl) hP hD hS (by omega) (by omega) hE
              · rw [if_pos b5] at hE
                refine z_bipush hx hb dX9_seatOf_32 (by decide +kernel) ?_
                refine lv_iload_n hx hb dX9_seatOf_34 rfl (lv_at hl 2 rfl) ?_
                refine z_imul hx hb dX9_seatOf_35 ?_
                refine lv_iload_n hx hb dX9_seatOf_36 rfl (lv_at hl 3 rfl) ?_
                refine z_iadd hx hb dX9_seatOf_37 ?_
                exact ci_i hx hb hr hlocks hE rfl hS hP dX9_seatOf_38
        exact L2 7 (0) ls _ _ (lv_sub hl [1, 2, 3, 0] rfl) hP hD hS (by omega) (by omega) hE
  exact L1 4 (0) ls _ _ (lv_sub hl [1, 2, 0] rfl) hP hD hS (by omega) (by omega) hE


theorem rg_X9_seatOf_L2 {M : Mem} (h : GI M) (n t : Int) (K : Int → Int) (ht : 0 ≤ t ∧ t < 3) (hK : ∀ x : Int, 0 ≤ x → -1 ≤ K x ∧ K x ≤ 25) : ∀ (k : Nat) (p : Int), 0 ≤ p → p ≤ 6 → -1 ≤ fX9_seatOf_L2 M n t K k p ∧ fX9_seatOf_L2 M n t K k p ≤ 25 := by
  have g := GI_55 h (55 + t) (by omega) (by omega)
  intro k
  induction k with
  | zero => intro p _ _; exact ⟨(by decide : (-1 : Int) ≤ 0), (by decide : (0 : Int) ≤ 25)⟩
  | succ k ih =>
    intro p h1 h2
    rw [fX9_seatOf_L2]
    split
    · exact hK _ (by omega)
    · split
      · omega
      · exact ih _ (by omega) (by omega)
theorem rg_X9_seatOf_L1 {M : Mem} (h : GI M) (n : Int) : ∀ (k : Nat) (t : Int), 0 ≤ t → -1 ≤ fX9_seatOf_L1 M n k t ∧ fX9_seatOf_L1 M n k t ≤ 25 := by
  intro k
  induction k with
  | zero => intro t _; exact ⟨(by decide : (-1 : Int) ≤ 0), (by decide : (0 : Int) ≤ 25)⟩
  | succ k ih =>
    intro t h1
    rw [fX9_seatOf_L1]
    split
    · exact ⟨(by decide : (-1 : Int) ≤ -1), (by decide : (-1 : Int) ≤ 25)⟩
    · exact rg_X9_seatOf_L2 h n t _ (by omega) (fun x hx => ih x hx) 7 0 (by decide) (by decide)
theorem rg_X9_seatOf {M : Mem} (h : GI M) (n : Int) : -1 ≤ fX9_seatOf M n ∧ fX9_seatOf M n ≤ 25 := rg_X9_seatOf_L1 h n 4 0 (by decide)

def fX9_comes (M : Mem) (colour : Int) : Int × Mem := if ((fX9_in colour (0) (3)) = 0) then ((fX9_fails M (1)).1, (fX9_fails M (1)).2) else if ((M 0 (0)) = (10)) then ((fX9_refused M (1) (10) (2)).1, (fX9_refused M (1) (10) (2)).2) else ((fX9_done (mst (mst M 0 ((5) + (M 0 (0))) colour) 0 (0) (((mst M 0 ((5) + (M 0 (0))) colour) 0 (0)) + (1))) (M 0 (0))).1, (fX9_done (mst (mst M 0 ((5) + (M 0 (0))) colour) 0 (0) (((mst M 0 ((5) + (M 0 (0))) colour) 0 (0)) + (1))) (M 0 (0))).2)
set_option maxRecDepth 100000 in
set_option maxHeartbeats 4000000 in
theorem kX9_comes (l : Launch) (D : va_G) (E : Nat → Nat) (cI cC : ClassId) (Z : State → Prop) (hZo : ∀ M : Mem, ZOk (VG E cI cC M) Z) (hZb : ZBl Z) (M : Mem) (colour : Int) (h1 : -2147483648 ≤ colour ∧ colour < 2147483648) (hG : GI M) (r : Int) (M' : Mem) (hE : fX9_comes M colour = (r, M')) : Ci l yX9_comes wsX9_comes 1 23 [.ref (E 0), .int (iI colour)] D (TY cI cC) (VG E cI cC) Z M r M' := by
  refine Ci.of (cc := cX9_comes) (maxL := 3) (ret := (some .int)) (by decide +kernel) rfl (Nat.le_of_ble_eq_true rfl) ?_
  intro p e s m args below meth c ls hx hb hml hr hown hts hlocks hP hK hD hZ hS hl
  have hl : lv_has ls 3 [(0, .ref (E 0)), (1, .int (iI colour))] := hl
  have S0 : CallFix p m c cX9_comes 3 s args wsX9_comes RX9 := ⟨hx, hb, hml, hown, hts⟩
  have hinX9 : ∀ w ∈ u_ws RX9 TX9 20, w ∈ wsX9_comes := by decide +kernel
  rw [fX9_comes] at hE
  refine lv_iload_n hx hb dX9_comes_0 rfl (lv_at hl 1 rfl) ?_
  refine z_iconst hx hb dX9_comes_1 ?_
  refine z_iconst hx hb dX9_comes_2 ?_
  refine ct_Si (VG_fix E cI cC) hZo hZb hZ S0 (kX9_in l D E cI cC Z hZo hZb M colour (0) (3) (by omega) (by omega) (by omega) (fX9_in colour (0) (3)) rfl) (va_cwS 3 hts gX9_comes_X9_in rfl rfl rfl (by decide +kernel) ⟨(Nat.le_of_ble_eq_true rfl), (Nat.le_of_ble_eq_true rfl)⟩) hK hP hD hS rfl hl.1 rfl (Nat.le_of_ble_eq_true rfl) dX9_comes_3 ⟨Nat.zero_le _, Nat.zero_le _⟩ (fun H locs hP hD hS => ?_)
  have q1 := dX9_in colour (0) (3)
  refine z_if_ne hx hb dX9_comes_6 (tgt := 15) rfl (by omega) (fun b2 => ?_) (fun b2 => ?_)
  · rw [if_neg b2] at hE
    refine lv_aload_n hx hb dX9_comes_15 rfl (lv_at hl 0 rfl) ?_
    refine va_get (own := RX9) (ref := "NapkinSyntaxModel") (C := RX9) (T := TX9) (N := 20) hx hb hts hinX9 hown hK hP 0 VG_0 rfl 0 (Nat.le_of_ble_eq_true rfl) (hts (.fieldLink RX9 7 "NapkinSyntaxModel" "g" "[I") (by decide +kernel)) (fun _ h => h) (v := .ref (E 1)) rfl dX9_comes_16 ?_
    refine z_iconst hx hb dX9_comes_19 ?_
    refine z_iald hx hb hK hP 1 0 VG_1 rfl (by omega) (by omega) (by decide) dX9_comes_20 ?_
    have q3 := GI_0 hG
    refine lv_istore_n hx hb dX9_comes_21 rfl hl (Nat.le_of_ble_eq_true rfl) (lv' := [(2, .int (iI (M 0 (0)))), (0, .ref (E 0)), (1, .int (iI colour))]) rfl (fun ls hl => ?_)
    refine lv_iload_n hx hb dX9_comes_22 rfl (lv_at hl 0 rfl) ?_
    refine z_bipush hx hb dX9_comes_23 (by decide +kernel) ?_
    refine z_icmp_ne hx hb dX9_comes_25 (tgt := 37) rfl (by omega) (by omega) (fun b4 => ?_) (fun b4 => ?_)
    · rw [if_neg b4] at hE
      refine lv_aload_n hx hb dX9_comes_37 rfl (lv_at hl 1 rfl) ?_
      refine va_get (own := RX9) (ref := "NapkinSyntaxModel") (C := RX9) (T := TX9) (N := 20) hx hb hts hinX9 hown hK hP 0 VG_0 rfl 0 (Nat.le_of_ble_eq_true rfl) (hts (.fieldLink RX9 7 "NapkinSyntaxModel" "g" "[I") (by decide +kernel)) (fun _ h => h) (v := .ref (E 1)) rfl dX9_comes_38 ?_
      refine z_iconst hx hb dX9_comes_41 ?_
      refine lv_iload_n hx hb dX9_comes_42 rfl (lv_at hl 0 rfl) ?_
      refine z_iadd hx hb dX9_comes_43 ?_
      refine lv_iload_n hx hb dX9_comes_44 rfl (lv_at hl 2 rfl) ?_
      refine z_iast hx hb hK hP hD hS 1 0 VG_1 rfl (by omega) (by omega) (by decide) dX9_comes_45 VGw_0 (fun H locs hP hD hS => ?_)
      refine lv_aload_n hx hb dX9_comes_46 rfl (lv_at hl 1 rfl) ?_
      refine va_get (own := RX9) (ref := "NapkinSyntaxModel") (C := RX9) (T := TX9) (N := 20) hx hb hts hinX9 hown hK hP 0 VG_0 rfl 0 (Nat.le_of_ble_eq_true rfl) (hts (.fieldLink RX9 7 "NapkinSyntaxModel" "g" "[I") (by decide +kernel)) (fun _ h => h) (v := .ref (E 1)) rfl dX9_comes_47 ?_
      refine z_iconst hx hb dX9_comes_50 ?_
      refine lv_dup2_11 hx hb dX9_comes_51 rfl rfl ?_
      refine z_iald hx hb hK hP 1 0 VG_1 rfl (by omega) (by omega) (by decide) dX9_comes_52 ?_
      refine z_iconst hx hb dX9_comes_53 ?_
      refine z_iadd hx hb dX9_comes_54 ?_
      refine z_iast hx hb hK hP hD hS 1 0 VG_1 rfl (by omega) (by omega) (by decide) dX9_comes_55 VGw_0 (fun H locs hP hD hS => ?_)
      refine lv_aload_n hx hb dX9_comes_56 rfl (lv_at hl 1 rfl) ?_
      refine lv_iload_n hx hb dX9_comes_57 rfl (lv_at hl 0 rfl) ?_
      refine ct_Vi (VG_fix E cI cC) hZo hZb hZ S0 (kX9_done l D E cI cC Z hZo hZb (mst (mst M 0 ((5) + (M 0 (0))) colour) 0 (0) (((mst M 0 ((5) + (M 0 (0))) colour) 0 (0)) + (1))) (M 0 (0))  (fX9_done (mst (mst M 0 ((5) + (M 0 (0))) colour) 0 (0) (((mst M 0 ((5) + (M 0 (0))) colour) 0 (0)) + (1))) (M 0 (0))).1 (fX9_done (mst (mst M 0 ((5) + (M 0 (0))) colour) 0 (0) (((mst M 0 ((5) + (M 0 (0))) colour) 0 (0)) + (1))) (M 0 (0))).2 (Prod.ext rfl rfl)) (cwV 1 hts gX9_comes_X9_done rfl rfl rfl (by decide +kernel) ⟨(Nat.le_of_ble_eq_true rfl), (Nat.le_of_ble_eq_true rfl)⟩) hK hP hD hS rfl rfl VG_0 rfl hl.1 rfl (Nat.le_of_ble_eq_true rfl) dX9_comes_58 ⟨Nat.zero_le _, Nat.zero_le _⟩ (fun H locs hP hD hS => ?_)
      obtain ⟨e1, e2⟩ := Prod.mk.inj hE
      subst e2
      exact ci_i hx hb hr hlocks e1 rfl hS hP dX9_comes_61
    · rw [if_pos b4] at hE
      refine lv_aload_n hx hb dX9_comes_28 rfl (lv_at hl 1 rfl) ?_
      refine z_iconst hx hb dX9_comes_29 ?_
      refine z_bipush hx hb dX9_comes_30 (by decide +kernel) ?_
      refine z_iconst hx hb dX9_comes_32 ?_
      refine ct_Vi (VG_fix E cI cC) hZo hZb hZ S0 (kX9_refused l D E cI cC Z hZo hZb M (1) (10) (2)  (fX9_refused M (1) (10) (2)).1 (fX9_refused M (1) (10) (2)).2 (Prod.ext rfl rfl)) (cwV 3 hts gX9_comes_X9_refused rfl rfl rfl (by decide +kernel) ⟨(Nat.le_of_ble_eq_true rfl), (Nat.le_of_ble_eq_true rfl)⟩) hK hP hD hS rfl rfl VG_0 rfl hl.1 rfl (Nat.le_of_ble_eq_true rfl) dX9_comes_33 ⟨Nat.zero_le _, Nat.zero_le _⟩ (fun H locs hP hD hS => ?_)
      obtain ⟨e1, e2⟩ := Prod.mk.inj hE
      subst e2
      exact ci_i hx hb hr hlocks e1 rfl hS hP dX9_comes_36
  · rw [if_pos b2] at hE
    refine lv_aload_n hx hb dX9_comes_9 rfl (lv_at hl 0 rfl) ?_
    refine z_iconst hx hb dX9_comes_10 ?_
    refine ct_Vi (VG_fix E cI cC) hZo hZb hZ S0 (kX9_fails l D E cI cC Z hZo hZb M (1)  (fX9_fails M (1)).1 (fX9_fails M (1)).2 (Prod.ext rfl rfl)) (cwV 1 hts gX9_comes_X9_fails rfl rfl rfl (by decide +kernel) ⟨(Nat.le_of_ble_eq_true rfl), (Nat.le_of_ble_eq_true rfl)⟩) hK hP hD hS rfl rfl VG_0 rfl hl.1 rfl (Nat.le_of_ble_eq_true rfl) dX9_comes_11 ⟨Nat.zero_le _, Nat.zero_le _⟩ (fun H locs hP hD hS => ?_)
    obtain ⟨e1, e2⟩ := Prod.mk.inj hE
    subst e2
    exact ci_i hx hb hr hlocks e1 rfl hS hP dX9_comes_14

theorem fr_fX9_comes {M : Mem} (colour : Int) {r : Nat} (h0 : Nat.beq r 0 = false) (h19 : Nat.beq r 19 = false) (h20 : Nat.beq r 20 = false) (h21 : Nat.beq r 21 = false) (h22 : Nat.beq r 22 = false) (h23 : Nat.beq r 23 = false) (h26 : Nat.beq r 26 = false) : (fX9_comes M colour).2 r = M r := by
  unfold fX9_comes
  (repeat' with_reducible refine frite_w (fun _ => ?_) (fun _ => ?_)) <;> first | with_reducible rfl | simp only [mst_o, msf_o, mcp_o, fr_fX9_done, fr_fX9_fails, fr_fX9_refused, h0, h19, h20, h21, h22, h23, h26]

def fX9_folds (M : Mem) (n fold : Int) : Int × Mem := if ((fX9_isNapkin M n) = 0) then ((fX9_fails M (1)).1, (fX9_fails M (1)).2) else if ((fX9_in fold (1) (4)) = 0) then ((fX9_fails M (2)).1, (fX9_fails M (2)).2) else if ((M 0 ((15) + n)) = fold) then ((fX9_refused M (2) fold (3)).1, (fX9_refused M (2) fold (3)).2) else if (fold = (1)) then if (((M 0 ((25) + n)) + (3)) ≤ (12)) then ((fX9_done (mst (mst (mst (mst M 0 ((25) + n) ((M 0 ((25) + n)) + (3))) 0 ((15) + n) fold) 0 ((45) + n) (((mst (mst M 0 ((25) + n) ((M 0 ((25) + n)) + (3))) 0 ((15) + n) fold) 0 ((45) + n)) + (1))) 0 (3) (((mst (mst (mst M 0 ((25) + n) ((M 0 ((25) + n)) + (3))) 0 ((15) + n) fold) 0 ((45) + n) (((mst (mst M 0 ((25) + n) ((M 0 ((25) + n)) + (3))) 0 ((15) + n) fold) 0 ((45) + n)) + (1))) 0 (3)) + (1))) ((mst (mst (mst (mst M 0 ((25) + n) ((M 0 ((25) + n)) + (3))) 0 ((15) + n) fold) 0 ((45) + n) (((mst (mst M 0 ((25) + n) ((M 0 ((25) + n)) + (3))) 0 ((15) + n) fold) 0 ((45) + n)) + (1))) 0 (3) (((mst (mst (mst M 0 ((25) + n) ((M 0 ((25) + n)) + (3))) 0 ((15) + n) fold) 0 ((45) + n) (((mst (mst M 0 ((25) + n) ((M 0 ((25) + n)) + (3))) 0 ((15) + n) fold) 0 ((45) + n)) + (1))) 0 (3)) + (1))) 0 ((25) + n))).1, (fX9_done (mst (mst (mst (mst M 0 ((25) + n) ((M 0 ((25) + n)) + (3))) 0 ((15) + n) fold) 0 ((45) + n) (((mst (mst M 0 ((25) + n) ((M 0 ((25) + n)) + (3))) 0 ((15) + n) fold) 0 ((45) + n)) + (1))) 0 (3) (((mst (mst (mst M 0 ((25) + n) ((M 0 ((25) + n)) + (3))) 0 ((15) + n) fold) 0 ((45) + n) (((mst (mst M 0 ((25) + n) ((M 0 ((25) + n)) + (3))) 0 ((15) + n) fold) 0 ((45) + n)) + (1))) 0 (3)) + (1))) ((mst (mst (mst (mst M 0 ((25) + n) ((M 0 ((25) + n)) + (3))) 0 ((15) + n) fold) 0 ((45) + n) (((mst (mst M 0 ((25) + n) ((M 0 ((25) + n)) + (3))) 0 ((15) + n) fold) 0 ((45) + n)) + (1))) 0 (3) (((mst (mst (mst M 0 ((25) + n) ((M 0 ((25) + n)) + (3))) 0 ((15) + n) fold) 0 ((45) + n) (((mst (mst M 0 ((25) + n) ((M 0 ((25) + n)) + (3))) 0 ((15) + n) fold) 0 ((45) + n)) + (1))) 0 (3)) + (1))) 0 ((25) + n))).2) else ((fX9_refused M (3) (M 0 ((25) + n)) (3)).1, (fX9_refused M (3) (M 0 ((25) + n)) (3)).2) else if (fold = (2)) then if (((M 0 ((25) + n)) + (1)) ≤ (12)) then ((fX9_done (mst (mst (mst (mst M 0 ((25) + n) ((M 0 ((25) + n)) + (1))) 0 ((15) + n) fold) 0 ((45) + n) (((mst (mst M 0 ((25) + n) ((M 0 ((25) + n)) + (1))) 0 ((15) + n) fold) 0 ((45) + n)) + (1))) 0 (3) (((mst (mst (mst M 0 ((25) + n) ((M 0 ((25) + n)) + (1))) 0 ((15) + n) fold) 0 ((45) + n) (((mst (mst M 0 ((25) + n) ((M 0 ((25) + n)) + (1))) 0 ((15) + n) fold) 0 ((45) + n)) + (1))) 0 (3)) + (1))) ((mst (mst (mst (mst M 0 ((25) + n) ((M 0 ((25) + n)) + (1))) 0 ((15) + n) fold) 0 ((45) + n) (((mst (mst M 0 ((25) + n) ((M 0 ((25) + n)) + (1))) 0 ((15) + n) fold) 0 ((45) + n)) + (1))) 0 (3) (((mst (mst (mst M 0 ((25) + n) ((M 0 ((25) + n)) + (1))) 0 ((15) + n) fold) 0 ((45) + n) (((mst (mst M 0 ((25) + n) ((M 0 ((25) + n)) + (1))) 0 ((15) + n) fold) 0 ((45) + n)) + (1))) 0 (3)) + (1))) 0 ((25) + n))).1, (fX9_done (mst (mst (mst (mst M 0 ((25) + n) ((M 0 ((25) + n)) + (1))) 0 ((15) + n) fold) 0 ((45) + n) (((mst (mst M 0 ((25) + n) ((M 0 ((25) + n)) + (1))) 0 ((15) + n) fold) 0 ((45) + n)) + (1))) 0 (3) (((mst (mst (mst M 0 ((25) + n) ((M 0 ((25) + n)) + (1))) 0 ((15) + n) fold) 0 ((45) + n) (((mst (mst M 0 ((25) + n) ((M 0 ((25) + n)) + (1))) 0 ((15) + n) fold) 0 ((45) + n)) + (1))) 0 (3)) + (1))) ((mst (mst (mst (mst M 0 ((25) + n) ((M 0 ((25) + n)) + (1))) 0 ((15) + n) fold) 0 ((45) + n) (((mst (mst M 0 ((25) + n) ((M 0 ((25) + n)) + (1))) 0 ((15) + n) fold) 0 ((45) + n)) + (1))) 0 (3) (((mst (mst (mst M 0 ((25) + n) ((M 0 ((25) + n)) + (1))) 0 ((15) + n) fold) 0 ((45) + n) (((mst (mst M 0 ((25) + n) ((M 0 ((25) + n)) + (1))) 0 ((15) + n) fold) 0 ((45) + n)) + (1))) 0 (3)) + (1))) 0 ((25) + n))).2) else ((fX9_refused M (3) (M 0 ((25) + n)) (3)).1, (fX9_refused M (3) (M 0 ((25) + n)) (3)).2) else if (((M 0 ((25) + n)) + (2)) ≤ (12)) then ((fX9_done (mst (mst (mst (mst M 0 ((25) + n) ((M 0 ((25) + n)) + (2))) 0 ((15) + n) fold) 0 ((45) + n) (((mst (mst M 0 ((25) + n) ((M 0 ((25) + n)) + (2))) 0 ((15) + n) fold) 0 ((45) + n)) + (1))) 0 (3) (((mst (mst (mst M 0 ((25) + n) ((M 0 ((25) + n)) + (2))) 0 ((15) + n) fold) 0 ((45) + n) (((mst (mst M 0 ((25) + n) ((M 0 ((25) + n)) + (2))) 0 ((15) + n) fold) 0 ((45) + n)) + (1))) 0 (3)) + (1))) ((mst (mst (mst (mst M 0 ((25) + n) ((M 0 ((25) + n)) + (2))) 0 ((15) + n) fold) 0 ((45) + n) (((mst (mst M 0 ((25) + n) ((M 0 ((25) + n)) + (2))) 0 ((15) + n) fold) 0 ((45) + n)) + (1))) 0 (3) (((mst (mst (mst M 0 ((25) + n) ((M 0 ((25) + n)) + (2))) 0 ((15) + n) fold) 0 ((45) + n) (((mst (mst M 0 ((25) + n) ((M 0 ((25) + n)) + (2))) 0 ((15) + n) fold) 0 ((45) + n)) + (1))) 0 (3)) + (1))) 0 ((25) + n))).1, (fX9_done (mst (mst (mst (mst M 0 ((25) + n) ((M 0 ((25) + n)) + (2))) 0 ((15) + n) fold) 0 ((45) + n) (((mst (mst M 0 ((25) + n) ((M 0 ((25) + n)) + (2))) 0 ((15) + n) fold) 0 ((45) + n)) + (1))) 0 (3) (((mst (mst (mst M 0 ((25) + n) ((M 0 ((25) + n)) + (2))) 0 ((15) + n) fold) 0 ((45) + n) (((mst (mst M 0 ((25) + n) ((M 0 ((25) + n)) + (2))) 0 ((15) + n) fold) 0 ((45) + n)) + (1))) 0 (3)) + (1))) ((mst (mst (mst (mst M 0 ((25) + n) ((M 0 ((25) + n)) + (2))) 0 ((15) + n) fold) 0 ((45) + n) (((mst (mst M 0 ((25) + n) ((M 0 ((25) + n)) + (2))) 0 ((15) + n) fold) 0 ((45) + n)) + (1))) 0 (3) (((mst (mst (mst M 0 ((25) + n) ((M 0 ((25) + n)) + (2))) 0 ((15) + n) fold) 0 ((45) + n) (((mst (mst M 0 ((25) + n) ((M 0 ((25) + n)) + (2))) 0 ((15) + n) fold) 0 ((45) + n)) + (1))) 0 (3)) + (1))) 0 ((25) + n))).2) else ((fX9_refused M (3) (M 0 ((25) + n)) (3)).1, (fX9_refused M (3) (M 0 ((25) + n)) (3)).2)
set_option maxRecDepth 100000 in
set_option maxHeartbeats 4000000 in
theorem kX9_folds (l : Launch) (D : va_G) (E : Nat → Nat) (cI cC : ClassId) (Z : State → Prop) (hZo : ∀ M : Mem, ZOk (VG E cI cC M) Z) (hZb : ZBl Z) (M : Mem) (n fold : Int) (h1 : -2147483648 ≤ n ∧ n < 2147483648) (h2 : -2147483648 ≤ fold ∧ fold < 2147483648) (hG : GI M) (r : Int) (M' : Mem) (hE : fX9_folds M n fold = (r, M')) : Ci l yX9_folds wsX9_folds 2 43 [.ref (E 0), .int (iI n), .int (iI fold)] D (TY cI cC) (VG E cI cC) Z M r M' := by
  refine Ci.of (cc := cX9_folds) (maxL := 4) (ret := (some .int)) (by decide +kernel) rfl (Nat.le_of_ble_eq_true rfl) ?_
  intro p e s m args below meth c ls hx hb hml hr hown hts hlocks hP hK hD hZ hS hl
  have hl : lv_has ls 4 [(0, .ref (E 0)), (1, .int (iI n)), (2, .int (iI fold))] := hl
  have S0 : CallFix p m c cX9_folds 4 s args wsX9_folds RX9 := ⟨hx, hb, hml, hown, hts⟩
  have hinX9 : ∀ w ∈ u_ws RX9 TX9 20, w ∈ wsX9_folds := by decide +kernel
  rw [fX9_folds] at hE
  refine lv_aload_n hx hb dX9_folds_0 rfl (lv_at hl 0 rfl) ?_
  refine lv_iload_n hx hb dX9_folds_1 rfl (lv_at hl 1 rfl) ?_
  refine ct_Vi (VG_fix E cI cC) hZo hZb hZ S0 (kX9_isNapkin l D E cI cC Z hZo hZb M n (by omega) hG (fX9_isNapkin M n) rfl) (cwV 1 hts gX9_folds_X9_isNapkin rfl rfl rfl (by decide +kernel) ⟨(Nat.le_of_ble_eq_true rfl), (Nat.le_of_ble_eq_true rfl)⟩) hK hP hD hS rfl rfl VG_0 rfl hl.1 rfl (Nat.le_of_ble_eq_true rfl) dX9_folds_2 ⟨Nat.zero_le _, Nat.zero_le _⟩ (fun H locs hP hD hS => ?_)
  have q1 := dX9_isNapkin hG n
  refine z_if_ne hx hb dX9_folds_5 (tgt := 14) rfl (by omega) (fun b2 => ?_) (fun b2 => ?_)
  · rw [if_neg b2] at hE
    refine lv_iload_n hx hb dX9_folds_14 rfl (lv_at hl 2 rfl) ?_
    refine z_iconst hx hb dX9_folds_15 ?_
    refine z_iconst hx hb dX9_folds_16 ?_
    refine ct_Si (VG_fix E cI cC) hZo hZb hZ S0 (kX9_in l D E cI cC Z hZo hZb M fold (1) (4) (by omega) (by omega) (by omega) (fX9_in fold (1) (4)) rfl) (va_cwS 3 hts gX9_folds_X9_in rfl rfl rfl (by decide +kernel) ⟨(Nat.le_of_ble_eq_true rfl), (Nat.le_of_ble_eq_true rfl)⟩) hK hP hD hS rfl hl.1 rfl (Nat.le_of_ble_eq_true rfl) dX9_folds_17 ⟨Nat.zero_le _, Nat.zero_le _⟩ (fun H locs hP hD hS => ?_)
    have q3 := dX9_in fold (1) (4)
    refine z_if_ne hx hb dX9_folds_20 (tgt := 29) rfl (by omega) (fun b4 => ?_) (fun b4 => ?_)
    · rw [if_neg b4] at hE
      refine lv_aload_n hx hb dX9_folds_29 rfl (lv_at hl 0 rfl) ?_
      refine va_get (own := RX9) (ref := "NapkinSyntaxModel") (C := RX9) (T := TX9) (N := 20) hx hb hts hinX9 hown hK hP 0 VG_0 rfl 0 (Nat.le_of_ble_eq_true rfl) (hts (.fieldLink RX9 7 "NapkinSyntaxModel" "g" "[I") (by decide +kernel)) (fun _ h => h) (v := .ref (E 1)) rfl dX9_folds_30 ?_
      refine z_bipush hx hb dX9_folds_33 (by decide +kernel) ?_
      refine lv_iload_n hx hb dX9_folds_35 rfl (lv_at hl 1 rfl) ?_
      refine z_iadd hx hb dX9_folds_36 ?_
      refine z_iald hx hb hK hP 1 0 VG_1 rfl (by omega) (by omega) (by decide) dX9_folds_37 ?_
      have q5 := GI_15 hG ((15) + n) (by omega) (by omega)
      refine lv_iload_n hx hb dX9_folds_38 rfl (lv_at hl 2 rfl) ?_
      refine z_icmp_ne hx hb dX9_folds_39 (tgt := 50) rfl (by omega) (by omega) (fun b6 => ?_) (fun b6 => ?_)
      · rw [if_neg b6] at hE
        refine lv_iload_n hx hb dX9_folds_50 rfl (lv_at hl 2 rfl) ?_
        refine z_iconst hx hb dX9_folds_51 ?_
        refine z_icmp_ne hx hb dX9_folds_52 (tgt := 59) rfl (by omega) (by omega) (fun b7 => ?_) (fun b7 => ?_)
        · rw [if_neg b7] at hE
          refine lv_iload_n hx hb dX9_folds_59 rfl (lv_at hl 2 rfl) ?_
          refine z_iconst hx hb dX9_folds_60 ?_
          refine z_icmp_ne hx hb dX9_folds_61 (tgt := 68) rfl (by omega) (by omega) (fun b8 => ?_) (fun b8 => ?_)
          · rw [if_neg b8] at hE
            refine z_iconst hx hb dX9_folds_68 ?_
            refine lv_istore_n hx hb dX9_folds_69 rfl hl (Nat.le_of_ble_eq_true rfl) (lv' := [(3, .int (iI (2))), (0, .ref (E 0)), (1, .int (iI n)), (2, .int (iI fold))]) rfl (fun ls hl => ?_)
            refine lv_aload_n hx hb dX9_folds_70 rfl (lv_at hl 1 rfl) ?_
            refine va_get (own := RX9) (ref := "NapkinSyntaxModel") (C := RX9) (T := TX9) (N := 20) hx hb hts hinX9 hown hK hP 0 VG_0 rfl 0 (Nat.le_of_ble_eq_true rfl) (hts (.fieldLink RX9 7 "NapkinSyntaxModel" "g" "[I") (by decide +kernel)) (fun _ h => h) (v := .ref (E 1)) rfl dX9_folds_71 ?_
            refine z_bipush hx hb dX9_folds_74 (by decide +kernel) ?_
            refine lv_iload_n hx hb dX9_folds_76 rfl (lv_at hl 2 rfl) ?_
            refine z_iadd hx hb dX9_folds_77 ?_
            refine z_iald hx hb hK hP 1 0 VG_1 rfl (by omega) (by omega) (by decide) dX9_folds_78 ?_
            have q9 := GI_25 hG ((25) + n) (by omega) (by omega)
            refine lv_iload_n hx hb dX9_folds_79 rfl (lv_at hl 0 rfl) ?_
            refine z_iadd hx hb dX9_folds_80 ?_
            refine z_bipush hx hb dX9_folds_81 (by decide +kernel) ?_
            refine z_icmp_le hx hb dX9_folds_83 (tgt := 102) rfl (by omega) (by omega) (fun b10 => ?_) (fun b10 => ?_)
            · rw [if_pos b10] at hE
              refine lv_aload_n hx hb dX9_folds_102 rfl (lv_at hl 1 rfl) ?_
              refine va_get (own := RX9) (ref := "NapkinSyntaxModel") (C := RX9) (T := TX9) (N := 20) hx hb hts hinX9 hown hK hP 0 VG_0 rfl 0 (Nat.le_of_ble_eq_true rfl) (hts (.fieldLink RX9 7 "NapkinSyntaxModel" "g" "[I") (by decide +kernel)) (fun _ h => h) (v := .ref (E 1)) rfl dX9_folds_103 ?_
              refine z_bipush hx hb dX9_folds_106 (by decide +kernel) ?_
              refine lv_iload_n hx hb dX9_folds_108 rfl (lv_at hl 2 rfl) ?_
              refine z_iadd hx hb dX9_folds_109 ?_
              refine lv_dup2_11 hx hb dX9_folds_110 rfl rfl ?_
              refine z_iald hx hb hK hP 1 0 VG_1 rfl (by omega) (by omega) (by decide) dX9_folds_111 ?_
              have q11 := GI_25 hG ((25) + n) (by omega) (by omega)
              refine lv_iload_n hx hb dX9_folds_112 rfl (lv_at hl 0 rfl) ?_
              refine z_iadd hx hb dX9_folds_113 ?_
              refine z_iast hx hb hK hP hD hS 1 0 VG_1 rfl (by omega) (by omega) (by decide) dX9_folds_114 VGw_0 (fun H locs hP hD hS => ?_)
              refine lv_aload_n hx hb dX9_folds_115 rfl (lv_at hl 1 rfl) ?_
              refine va_get (own := RX9) (ref := "NapkinSyntaxModel") (C := RX9) (T := TX9) (N := 20) hx hb hts hinX9 hown hK hP 0 VG_0 rfl 0 (Nat.le_of_ble_eq_true rfl) (hts (.fieldLink RX9 7 "NapkinSyntaxModel" "g" "[I") (by decide +kernel)) (fun _ h => h) (v := .ref (E 1)) rfl dX9_folds_116 ?_
              refine z_bipush hx hb dX9_folds_119 (by decide +kernel) ?_
              refine lv_iload_n hx hb dX9_folds_121 rfl (lv_at hl 2 rfl) ?_
              refine z_iadd hx hb dX9_folds_122 ?_
              refine lv_iload_n hx hb dX9_folds_123 rfl (lv_at hl 3 rfl) ?_
              refine z_iast hx hb hK hP hD hS 1 0 VG_1 rfl (by omega) (by omega) (by decide) dX9_folds_124 VGw_0 (fun H locs hP hD hS => ?_)
              refine lv_aload_n hx hb dX9_folds_125 rfl (lv_at hl 1 rfl) ?_
              refine va_get (own := RX9) (ref := "NapkinSyntaxModel") (C := RX9) (T := TX9) (N := 20) hx hb hts hinX9 hown hK hP 0 VG_0 rfl 0 (Nat.le_of_ble_eq_true rfl) (hts (.fieldLink RX9 7 "NapkinSyntaxModel" "g" "[I") (by decide +kernel)) (fun _ h => h) (v := .ref (E 1)) rfl dX9_folds_126 ?_
              refine z_bipush hx hb dX9_folds_129 (by decide +kernel) ?_
              refine lv_iload_n hx hb dX9_folds_131 rfl (lv_at hl 2 rfl) ?_
              refine z_iadd hx hb dX9_folds_132 ?_
              refine lv_dup2_11 hx hb dX9_folds_133 rfl rfl ?_
              refine z_iald hx hb hK hP 1 0 VG_1 rfl (by omega) (by omega) (by decide) dX9_folds_134 ?_
              refine z_iconst hx hb dX9_folds_135 ?_
              refine z_iadd hx hb dX9_folds_136 ?_
              refine z_iast hx hb hK hP hD hS 1 0 VG_1 rfl (by omega) (by omega) (by decide) dX9_folds_137 VGw_0 (fun H locs hP hD hS => ?_)
              refine lv_aload_n hx hb dX9_folds_138 rfl (lv_at hl 1 rfl) ?_
              refine va_get (own := RX9) (ref := "NapkinSyntaxModel") (C := RX9) (T := TX9) (N := 20) hx hb hts hinX9 hown hK hP 0 VG_0 rfl 0 (Nat.le_of_ble_eq_true rfl) (hts (.fieldLink RX9 7 "NapkinSyntaxModel" "g" "[I") (by decide +kernel)) (fun _ h => h) (v := .ref (E 1)) rfl dX9_folds_139 ?_
              refine z_iconst hx hb dX9_folds_142 ?_
              refine lv_dup2_11 hx hb dX9_folds_143 rfl rfl ?_
              refine z_iald hx hb hK hP 1 0 VG_1 rfl (by omega) (by omega) (by decide) dX9_folds_144 ?_
              refine z_iconst hx hb dX9_folds_145 ?_
              refine z_iadd hx hb dX9_folds_146 ?_
              refine z_iast hx hb hK hP hD hS 1 0 VG_1 rfl (by omega) (by omega) (by decide) dX9_folds_147 VGw_0 (fun H locs hP hD hS => ?_)
              refine lv_aload_n hx hb dX9_folds_148 rfl (lv_at hl 1 rfl) ?_
              refine lv_aload_n hx hb dX9_folds_149 rfl (lv_at hl 1 rfl) ?_
              refine va_get (own := RX9) (ref := "NapkinSyntaxModel") (C := RX9) (T := TX9) (N := 20) hx hb hts hinX9 hown hK hP 0 VG_0 rfl 0 (Nat.le_of_ble_eq_true rfl) (hts (.fieldLink RX9 7 "NapkinSyntaxModel" "g" "[I") (by decide +kernel)) (fun _ h => h) (v := .ref (E 1)) rfl dX9_folds_150 ?_
              refine z_bipush hx hb dX9_folds_153 (by decide +kernel) ?_
              refine lv_iload_n hx hb dX9_folds_155 rfl (lv_at hl 2 rfl) ?_
              refine z_iadd hx hb dX9_folds_156 ?_
              refine z_iald hx hb hK hP 1 0 VG_1 rfl (by omega) (by omega) (by decide) dX9_folds_157 ?_
              refine ct_Vi (VG_fix E cI cC) hZo hZb hZ S0 (kX9_done l D E cI cC Z hZo hZb (mst (mst (mst (mst M 0 ((25) + n) ((M 0 ((25) + n)) + (2))) 0 ((15) + n) fold) 0 ((45) + n) (((mst (mst M 0 ((25) + n) ((M 0 ((25) + n)) + (2))) 0 ((15) + n) fold) 0 ((45) + n)) + (1))) 0 (3) (((mst (mst (mst M 0 ((25) + n) ((M 0 ((25) + n)) + (2))) 0 ((15) + n) fold) 0 ((45) + n) (((mst (mst M 0 ((25) + n) ((M 0 ((25) + n)) + (2))) 0 ((15) + n) fold) 0 ((45) + n)) + (1))) 0 (3)) + (1))) ((mst (mst (mst (mst M 0 ((25) + n) ((M 0 ((25) + n)) + (2))) 0 ((15) + n) fold) 0 ((45) + n) (((mst (mst M 0 ((25) + n) ((M 0 ((25) + n)) + (2))) 0 ((15) + n) fold) 0 ((45) + n)) + (1))) 0 (3) (((mst (mst (mst M 0 ((25) + n) ((M 0 ((25) + n)) + (2))) 0 ((15) + n) fold) 0 ((45) + n) (((mst (mst M 0 ((25) + n) ((M 0 ((25) + n)) + (2))) 0 ((15) + n) fold) 0 ((45) + n)) + (1))) 0 (3)) + (1))) 0 ((25) + n))  (fX9_done (mst (mst (mst (mst M 0 ((25) + n) ((M 0 ((25) + n)) + (2))) 0 ((15) + n) fold) 0 ((45) + n) (((mst (mst M 0 ((25) + n) ((M 0 ((25) + n)) + (2))) 0 ((15) + n) fold) 0 ((45) + n)) + (1))) 0 (3) (((mst (mst (mst M 0 ((25) + n) ((M 0 ((25) + n)) + (2))) 0 ((15) + n) fold) 0 ((45) + n) (((mst (mst M 0 ((25) + n) ((M 0 ((25) + n)) + (2))) 0 ((15) + n) fold) 0 ((45) + n)) + (1))) 0 (3)) + (1))) ((mst (mst (mst (mst M 0 ((25) + n) ((M 0 ((25) + n)) + (2))) 0 ((15) + n) fold) 0 ((45) + n) (((mst (mst M 0 ((25) + n) ((M 0 ((25) + n)) + (2))) 0 ((15) + n) fold) 0 ((45) + n)) + (1))) 0 (3) (((mst (mst (mst M 0 ((25) + n) ((M 0 ((25) + n)) + (2))) 0 ((15) + n) fold) 0 ((45) + n) (((mst (mst M 0 ((25) + n) ((M 0 ((25) + n)) + (2))) 0 ((15) + n) fold) 0 ((45) + n)) + (1))) 0 (3)) + (1))) 0 ((25) + n))).1 (fX9_done (mst (mst (mst (mst M 0 ((25) + n) ((M 0 ((25) + n)) + (2))) 0 ((15) + n) fold) 0 ((45) + n) (((mst (mst M 0 ((25) + n) ((M 0 ((25) + n)) + (2))) 0 ((15) + n) fold) 0 ((45) + n)) + (1))) 0 (3) (((mst (mst (mst M 0 ((25) + n) ((M 0 ((25) + n)) + (2))) 0 ((15) + n) fold) 0 ((45) + n) (((mst (mst M 0 ((25) + n) ((M 0 ((25) + n)) + (2))) 0 ((15) + n) fold) 0 ((45) + n)) + (1))) 0 (3)) + (1))) ((mst (mst (mst (mst M 0 ((25) + n) ((M 0 ((25) + n)) + (2))) 0 ((15) + n) fold) 0 ((45) + n) (((mst (mst M 0 ((25) + n) ((M 0 ((25) + n)) + (2))) 0 ((15) + n) fold) 0 ((45) + n)) + (1))) 0 (3) (((mst (mst (mst M 0 ((25) + n) ((M 0 ((25) + n)) + (2))) 0 ((15) + n) fold) 0 ((45) + n) (((mst (mst M 0 ((25) + n) ((M 0 ((25) + n)) + (2))) 0 ((15) + n) fold) 0 ((45) + n)) + (1))) 0 (3)) + (1))) 0 ((25) + n))).2 (Prod.ext rfl rfl)) (cwV 1 hts gX9_folds_X9_done rfl rfl rfl (by decide +kernel) ⟨(Nat.le_of_ble_eq_true rfl), (Nat.le_of_ble_eq_true rfl)⟩) hK hP hD hS rfl rfl VG_0 rfl hl.1 rfl (Nat.le_of_ble_eq_true rfl) dX9_folds_158 ⟨Nat.zero_le _, Nat.zero_le _⟩ (fun H locs hP hD hS => ?_)
              obtain ⟨e1, e2⟩ := Prod.mk.inj hE
              subst e2
              exact ci_i hx hb hr hlocks e1 rfl hS hP dX9_folds_161
            · rw [if_neg b10] at hE
              refine lv_aload_n hx hb dX9_folds_86 rfl (lv_at hl 1 rfl) ?_
              refine z_iconst hx hb dX9_folds_87 ?_
              refine lv_aload_n hx hb dX9_folds_88 rfl (lv_at hl 1 rfl) ?_
              refine va_get (own := RX9) (ref := "NapkinSyntaxModel") (C := RX9) (T := TX9) (N := 20) hx hb hts hinX9 hown hK hP 0 VG_0 rfl 0 (Nat.le_of_ble_eq_true rfl) (hts (.fieldLink RX9 7 "NapkinSyntaxModel" "g" "[I") (by decide +kernel)) (fun _ h => h) (v := .ref (E 1)) rfl dX9_folds_89 ?_
              refine z_bipush hx hb dX9_folds_92 (by decide +kernel) ?_
              refine lv_iload_n hx hb dX9_folds_94 rfl (lv_at hl 2 rfl) ?_
              refine z_iadd hx hb dX9_folds_95 ?_
              refine z_iald hx hb hK hP 1 0 VG_1 rfl (by omega) (by omega) (by decide) dX9_folds_96 ?_
              have q12 := GI_25 hG ((25) + n) (by omega) (by omega)
              refine z_iconst hx hb dX9_folds_97 ?_
              refine ct_Vi (VG_fix E cI cC) hZo hZb hZ S0 (kX9_refused l D E cI cC Z hZo hZb M (3) (M 0 ((25) + n)) (3)  (fX9_refused M (3) (M 0 ((25) + n)) (3)).1 (fX9_refused M (3) (M 0 ((25) + n)) (3)).2 (Prod.ext rfl rfl)) (cwV 3 hts gX9_folds_X9_refused rfl rfl rfl (by decide +kernel) ⟨(Nat.le_of_ble_eq_true rfl), (Nat.le_of_ble_eq_true rfl)⟩) hK hP hD hS rfl rfl VG_0 rfl hl.1 rfl (Nat.le_of_ble_eq_true rfl) dX9_folds_98 ⟨Nat.zero_le _, Nat.zero_le _⟩ (fun H locs hP hD hS => ?_)
              obtain ⟨e1, e2⟩ := Prod.mk.inj hE
              subst e2
              exact ci_i hx hb hr hlocks e1 rfl hS hP dX9_folds_101
          · rw [if_pos b8] at hE
            refine z_iconst hx hb dX9_folds_64 ?_
            refine lv_goto hx hb dX9_folds_65 (tgt := 69) rfl ?_
            refine lv_istore_n hx hb dX9_folds_69 rfl hl (Nat.le_of_ble_eq_true rfl) (lv' := [(3, .int (iI (1))), (0, .ref (E 0)), (1, .int (iI n)), (2, .int (iI fold))]) rfl (fun ls hl => ?_)
            refine lv_aload_n hx hb dX9_folds_70 rfl (lv_at hl 1 rfl) ?_
            refine va_get (own := RX9) (ref := "NapkinSyntaxModel") (C := RX9) (T := TX9) (N := 20) hx hb hts hinX9 hown hK hP 0 VG_0 rfl 0 (Nat.le_of_ble_eq_true rfl) (hts (.fieldLink RX9 7 "NapkinSyntaxModel" "g" "[I") (by decide +kernel)) (fun _ h => h) (v := .ref (E 1)) rfl dX9_folds_71 ?_
            refine z_bipush hx hb dX9_folds_74 (by decide +kernel) ?_
            refine lv_iload_n hx hb dX9_folds_76 rfl (lv_at hl 2 rfl) ?_
            refine z_iadd hx hb dX9_folds_77 ?_
            refine z_iald hx hb hK hP 1 0 VG_1 rfl (by omega) (by omega) (by decide) dX9_folds_78 ?_
            have q13 := GI_25 hG ((25) + n) (by omega) (by omega)
            refine lv_iload_n hx hb dX9_folds_79 rfl (lv_at hl 0 rfl) ?_
            refine z_iadd hx hb dX9_folds_80 ?_
            refine z_bipush hx hb dX9_folds_81 (by decide +kernel) ?_
            refine z_icmp_le hx hb dX9_folds_83 (tgt := 102) rfl (by omega) (by omega) (fun b14 => ?_) (fun b14 => ?_)
            · rw [if_pos b14] at hE
              refine lv_aload_n hx hb dX9_folds_102 rfl (lv_at hl 1 rfl) ?_
              refine va_get (own := RX9) (ref := "NapkinSyntaxModel") (C := RX9) (T := TX9) (N := 20) hx hb hts hinX9 hown hK hP 0 VG_0 rfl 0 (Nat.le_of_ble_eq_true rfl) (hts (.fieldLink RX9 7 "NapkinSyntaxModel" "g" "[I") (by decide +kernel)) (fun _ h => h) (v := .ref (E 1)) rfl dX9_folds_103 ?_
              refine z_bipush hx hb dX9_folds_106 (by decide +kernel) ?_
              refine lv_iload_n hx hb dX9_folds_108 rfl (lv_at hl 2 rfl) ?_
              refine z_iadd hx hb dX9_folds_109 ?_
              refine lv_dup2_11 hx hb dX9_folds_110 rfl rfl ?_
              refine z_iald hx hb hK hP 1 0 VG_1 rfl (by omega) (by omega) (by decide) dX9_folds_111 ?_
              have q15 := GI_25 hG ((25) + n) (by omega) (by omega)
              refine lv_iload_n hx hb dX9_folds_112 rfl (lv_at hl 0 rfl) ?_
              refine z_iadd hx hb dX9_folds_113 ?_
              refine z_iast hx hb hK hP hD hS 1 0 VG_1 rfl (by omega) (by omega) (by decide) dX9_folds_114 VGw_0 (fun H locs hP hD hS => ?_)
              refine lv_aload_n hx hb dX9_folds_115 rfl (lv_at hl 1 rfl) ?_
              refine va_get (own := RX9) (ref := "NapkinSyntaxModel") (C := RX9) (T := TX9) (N := 20) hx hb hts hinX9 hown hK hP 0 VG_0 rfl 0 (Nat.le_of_ble_eq_true rfl) (hts (.fieldLink RX9 7 "NapkinSyntaxModel" "g" "[I") (by decide +kernel)) (fun _ h => h) (v := .ref (E 1)) rfl dX9_folds_116 ?_
              refine z_bipush hx hb dX9_folds_119 (by decide +kernel) ?_
              refine lv_iload_n hx hb dX9_folds_121 rfl (lv_at hl 2 rfl) ?_
              refine z_iadd hx hb dX9_folds_122 ?_
              refine lv_iload_n hx hb dX9_folds_123 rfl (lv_at hl 3 rfl) ?_
              refine z_iast hx hb hK hP hD hS 1 0 VG_1 rfl (by omega) (by omega) (by decide) dX9_folds_124 VGw_0 (fun H locs hP hD hS => ?_)
              refine lv_aload_n hx hb dX9_folds_125 rfl (lv_at hl 1 rfl) ?_
              refine va_get (own := RX9) (ref := "NapkinSyntaxModel") (C := RX9) (T := TX9) (N := 20) hx hb hts hinX9 hown hK hP 0 VG_0 rfl 0 (Nat.le_of_ble_eq_true rfl) (hts (.fieldLink RX9 7 "NapkinSyntaxModel" "g" "[I") (by decide +kernel)) (fun _ h => h) (v := .ref (E 1)) rfl dX9_folds_126 ?_
              refine z_bipush hx hb dX9_folds_129 (by decide +kernel) ?_
              refine lv_iload_n hx hb dX9_folds_131 rfl (lv_at hl 2 rfl) ?_
              refine z_iadd hx hb dX9_folds_132 ?_
              refine lv_dup2_11 hx hb dX9_folds_133 rfl rfl ?_
              refine z_iald hx hb hK hP 1 0 VG_1 rfl (by omega) (by omega) (by decide) dX9_folds_134 ?_
              refine z_iconst hx hb dX9_folds_135 ?_
              refine z_iadd hx hb dX9_folds_136 ?_
              refine z_iast hx hb hK hP hD hS 1 0 VG_1 rfl (by omega) (by omega) (by decide) dX9_folds_137 VGw_0 (fun H locs hP hD hS => ?_)
              refine lv_aload_n hx hb dX9_folds_138 rfl (lv_at hl 1 rfl) ?_
              refine va_get (own := RX9) (ref := "NapkinSyntaxModel") (C := RX9) (T := TX9) (N := 20) hx hb hts hinX9 hown hK hP 0 VG_0 rfl 0 (Nat.le_of_ble_eq_true rfl) (hts (.fieldLink RX9 7 "NapkinSyntaxModel" "g" "[I") (by decide +kernel)) (fun _ h => h) (v := .ref (E 1)) rfl dX9_folds_139 ?_
              refine z_iconst hx hb dX9_folds_142 ?_
              refine lv_dup2_11 hx hb dX9_folds_143 rfl rfl ?_
              refine z_iald hx hb hK hP 1 0 VG_1 rfl (by omega) (by omega) (by decide) dX9_folds_144 ?_
              refine z_iconst hx hb dX9_folds_145 ?_
              refine z_iadd hx hb dX9_folds_146 ?_
              refine z_iast hx hb hK hP hD hS 1 0 VG_1 rfl (by omega) (by omega) (by decide) dX9_folds_147 VGw_0 (fun H locs hP hD hS => ?_)
              refine lv_aload_n hx hb dX9_folds_148 rfl (lv_at hl 1 rfl) ?_
              refine lv_aload_n hx hb dX9_folds_149 rfl (lv_at hl 1 rfl) ?_
              refine va_get (own := RX9) (ref := "NapkinSyntaxModel") (C := RX9) (T := TX9) (N := 20) hx hb hts hinX9 hown hK hP 0 VG_0 rfl 0 (Nat.le_of_ble_eq_true rfl) (hts (.fieldLink RX9 7 "NapkinSyntaxModel" "g" "[I") (by decide +kernel)) (fun _ h => h) (v := .ref (E 1)) rfl dX9_folds_150 ?_
              refine z_bipush hx hb dX9_folds_153 (by decide +kernel) ?_
              refine lv_iload_n hx hb dX9_folds_155 rfl (lv_at hl 2 rfl) ?_
              refine z_iadd hx hb dX9_folds_156 ?_
              refine z_iald hx hb hK hP 1 0 VG_1 rfl (by omega) (by omega) (by decide) dX9_folds_157 ?_
              refine ct_Vi (VG_fix E cI cC) hZo hZb hZ S0 (kX9_done l D E cI cC Z hZo hZb (mst (mst (mst (mst M 0 ((25) + n) ((M 0 ((25) + n)) + (1))) 0 ((15) + n) fold) 0 ((45) + n) (((mst (mst M 0 ((25) + n) ((M 0 ((25) + n)) + (1))) 0 ((15) + n) fold) 0 ((45) + n)) + (1))) 0 (3) (((mst (mst (mst M 0 ((25) + n) ((M 0 ((25) + n)) + (1))) 0 ((15) + n) fold) 0 ((45) + n) (((mst (mst M 0 ((25) + n) ((M 0 ((25) + n)) + (1))) 0 ((15) + n) fold) 0 ((45) + n)) + (1))) 0 (3)) + (1))) ((mst (mst (mst (mst M 0 ((25) + n) ((M 0 ((25) + n)) + (1))) 0 ((15) + n) fold) 0 ((45) + n) (((mst (mst M 0 ((25) + n) ((M 0 ((25) + n)) + (1))) 0 ((15) + n) fold) 0 ((45) + n)) + (1))) 0 (3) (((mst (mst (mst M 0 ((25) + n) ((M 0 ((25) + n)) + (1))) 0 ((15) + n) fold) 0 ((45) + n) (((mst (mst M 0 ((25) + n) ((M 0 ((25) + n)) + (1))) 0 ((15) + n) fold) 0 ((45) + n)) + (1))) 0 (3)) + (1))) 0 ((25) + n))  (fX9_done (mst (mst (mst (mst M 0 ((25) + n) ((M 0 ((25) + n)) + (1))) 0 ((15) + n) fold) 0 ((45) + n) (((mst (mst M 0 ((25) + n) ((M 0 ((25) + n)) + (1))) 0 ((15) + n) fold) 0 ((45) + n)) + (1))) 0 (3) (((mst (mst (mst M 0 ((25) + n) ((M 0 ((25) + n)) + (1))) 0 ((15) + n) fold) 0 ((45) + n) (((mst (mst M 0 ((25) + n) ((M 0 ((25) + n)) + (1))) 0 ((15) + n) fold) 0 ((45) + n)) + (1))) 0 (3)) + (1))) ((mst (mst (mst (mst M 0 ((25) + n) ((M 0 ((25) + n)) + (1))) 0 ((15) + n) fold) 0 ((45) + n) (((mst (mst M 0 ((25) + n) ((M 0 ((25) + n)) + (1))) 0 ((15) + n) fold) 0 ((45) + n)) + (1))) 0 (3) (((mst (mst (mst M 0 ((25) + n) ((M 0 ((25) + n)) + (1))) 0 ((15) + n) fold) 0 ((45) + n) (((mst (mst M 0 ((25) + n) ((M 0 ((25) + n)) + (1))) 0 ((15) + n) fold) 0 ((45) + n)) + (1))) 0 (3)) + (1))) 0 ((25) + n))).1 (fX9_done (mst (mst (mst (mst M 0 ((25) + n) ((M 0 ((25) + n)) + (1))) 0 ((15) + n) fold) 0 ((45) + n) (((mst (mst M 0 ((25) + n) ((M 0 ((25) + n)) + (1))) 0 ((15) + n) fold) 0 ((45) + n)) + (1))) 0 (3) (((mst (mst (mst M 0 ((25) + n) ((M 0 ((25) + n)) + (1))) 0 ((15) + n) fold) 0 ((45) + n) (((mst (mst M 0 ((25) + n) ((M 0 ((25) + n)) + (1))) 0 ((15) + n) fold) 0 ((45) + n)) + (1))) 0 (3)) + (1))) ((mst (mst (mst (mst M 0 ((25) + n) ((M 0 ((25) + n)) + (1))) 0 ((15) + n) fold) 0 ((45) + n) (((mst (mst M 0 ((25) + n) ((M 0 ((25) + n)) + (1))) 0 ((15) + n) fold) 0 ((45) + n)) + (1))) 0 (3) (((mst (mst (mst M 0 ((25) + n) ((M 0 ((25) + n)) + (1))) 0 ((15) + n) fold) 0 ((45) + n) (((mst (mst M 0 ((25) + n) ((M 0 ((25) + n)) + (1))) 0 ((15) + n) fold) 0 ((45) + n)) + (1))) 0 (3)) + (1))) 0 ((25) + n))).2 (Prod.ext rfl rfl)) (cwV 1 hts gX9_folds_X9_done rfl rfl rfl (by decide +kernel) ⟨(Nat.le_of_ble_eq_true rfl), (Nat.le_of_ble_eq_true rfl)⟩) hK hP hD hS rfl rfl VG_0 rfl hl.1 rfl (Nat.le_of_ble_eq_true rfl) dX9_folds_158 ⟨Nat.zero_le _, Nat.zero_le _⟩ (fun H locs hP hD hS => ?_)
              obtain ⟨e1, e2⟩ := Prod.mk.inj hE
              subst e2
              exact ci_i hx hb hr hlocks e1 rfl hS hP dX9_folds_161
            · rw [if_neg b14] at hE
              refine lv_aload_n hx hb dX9_folds_86 rfl (lv_at hl 1 rfl) ?_
              refine z_iconst hx hb dX9_folds_87 ?_
              refine lv_aload_n hx hb dX9_folds_88 rfl (lv_at hl 1 rfl) ?_
              refine va_get (own := RX9) (ref := "NapkinSyntaxModel") (C := RX9) (T := TX9) (N := 20) hx hb hts hinX9 hown hK hP 0 VG_0 rfl 0 (Nat.le_of_ble_eq_true rfl) (hts (.fieldLink RX9 7 "NapkinSyntaxModel" "g" "[I") (by decide +kernel)) (fun _ h => h) (v := .ref (E 1)) rfl dX9_folds_89 ?_
              refine z_bipush hx hb dX9_folds_92 (by decide +kernel) ?_
              refine lv_iload_n hx hb dX9_folds_94 rfl (lv_at hl 2 rfl) ?_
              refine z_iadd hx hb dX9_folds_95 ?_
              refine z_iald hx hb hK hP 1 0 VG_1 rfl (by omega) (by omega) (by decide) dX9_folds_96 ?_
              have q16 := GI_25 hG ((25) + n) (by omega) (by omega)
              refine z_iconst hx hb dX9_folds_97 ?_
              refine ct_Vi (VG_fix E cI cC) hZo hZb hZ S0 (kX9_refused l D E cI cC Z hZo hZb M (3) (M 0 ((25) + n)) (3)  (fX9_refused M (3) (M 0 ((25) + n)) (3)).1 (fX9_refused M (3) (M 0 ((25) + n)) (3)).2 (Prod.ext rfl rfl)) (cwV 3 hts gX9_folds_X9_refused rfl rfl rfl (by decide +kernel) ⟨(Nat.le_of_ble_eq_true rfl), (Nat.le_of_ble_eq_true rfl)⟩) hK hP hD hS rfl rfl VG_0 rfl hl.1 rfl (Nat.le_of_ble_eq_true rfl) dX9_folds_98 ⟨Nat.zero_le _, Nat.zero_le _⟩ (fun H locs hP hD hS => ?_)
              obtain ⟨e1, e2⟩ := Prod.mk.inj hE
              subst e2
              exact ci_i hx hb hr hlocks e1 rfl hS hP dX9_folds_101
        · rw [if_pos b7] at hE
          refine z_iconst hx hb dX9_folds_55 ?_
          refine lv_goto hx hb dX9_folds_56 (tgt := 69) rfl ?_
          refine lv_istore_n hx hb dX9_folds_69 rfl hl (Nat.le_of_ble_eq_true rfl) (lv' := [(3, .int (iI (3))), (0, .ref (E 0)), (1, .int (iI n)), (2, .int (iI fold))]) rfl (fun ls hl => ?_)
          refine lv_aload_n hx hb dX9_folds_70 rfl (lv_at hl 1 rfl) ?_
          refine va_get (own := RX9) (ref := "NapkinSyntaxModel") (C := RX9) (T := TX9) (N := 20) hx hb hts hinX9 hown hK hP 0 VG_0 rfl 0 (Nat.le_of_ble_eq_true rfl) (hts (.fieldLink RX9 7 "NapkinSyntaxModel" "g" "[I") (by decide +kernel)) (fun _ h => h) (v := .ref (E 1)) rfl dX9_folds_71 ?_
          refine z_bipush hx hb dX9_folds_74 (by decide +kernel) ?_
          refine lv_iload_n hx hb dX9_folds_76 rfl (lv_at hl 2 rfl) ?_
          refine z_iadd hx hb dX9_folds_77 ?_
          refine z_iald hx hb hK hP 1 0 VG_1 rfl (by omega) (by omega) (by decide) dX9_folds_78 ?_
          have q17 := GI_25 hG ((25) + n) (by omega) (by omega)
          refine lv_iload_n hx hb dX9_folds_79 rfl (lv_at hl 0 rfl) ?_
          refine z_iadd hx hb dX9_folds_80 ?_
          refine z_bipush hx hb dX9_folds_81 (by decide +kernel) ?_
          refine z_icmp_le hx hb dX9_folds_83 (tgt := 102) rfl (by omega) (by omega) (fun b18 => ?_) (fun b18 => ?_)
          · rw [if_pos b18] at hE
            refine lv_aload_n hx hb dX9_folds_102 rfl (lv_at hl 1 rfl) ?_
            refine va_get (own := RX9) (ref := "NapkinSyntaxModel") (C := RX9) (T := TX9) (N := 20) hx hb hts hinX9 hown hK hP 0 VG_0 rfl 0 (Nat.le_of_ble_eq_true rfl) (hts (.fieldLink RX9 7 "NapkinSyntaxModel" "g" "[I") (by decide +kernel)) (fun _ h => h) (v := .ref (E 1)) rfl dX9_folds_103 ?_
            refine z_bipush hx hb dX9_folds_106 (by decide +kernel) ?_
            refine lv_iload_n hx hb dX9_folds_108 rfl (lv_at hl 2 rfl) ?_
            refine z_iadd hx hb dX9_folds_109 ?_
            refine lv_dup2_11 hx hb dX9_folds_110 rfl rfl ?_
            refine z_iald hx hb hK hP 1 0 VG_1 rfl (by omega) (by omega) (by decide) dX9_folds_111 ?_
            have q19 := GI_25 hG ((25) + n) (by omega) (by omega)
            refine lv_iload_n hx hb dX9_folds_112 rfl (lv_at hl 0 rfl) ?_
            refine z_iadd hx hb dX9_folds_113 ?_
            refine z_iast hx hb hK hP hD hS 1 0 VG_1 rfl (by omega) (by omega) (by decide) dX9_folds_114 VGw_0 (fun H locs hP hD hS => ?_)
            refine lv_aload_n hx hb dX9_folds_115 rfl (lv_at hl 1 rfl) ?_
            refine va_get (own := RX9) (ref := "NapkinSyntaxModel") (C := RX9) (T := TX9) (N := 20) hx hb hts hinX9 hown hK hP 0 VG_0 rfl 0 (Nat.le_of_ble_eq_true rfl) (hts (.fieldLink RX9 7 "NapkinSyntaxModel" "g" "[I") (by decide +kernel)) (fun _ h => h) (v := .ref (E 1)) rfl dX9_folds_116 ?_
            refine z_bipush hx hb dX9_folds_119 (by decide +kernel) ?_
            refine lv_iload_n hx hb dX9_folds_121 rfl (lv_at hl 2 rfl) ?_
            refine z_iadd hx hb dX9_folds_122 ?_
            refine lv_iload_n hx hb dX9_folds_123 rfl (lv_at hl 3 rfl) ?_
            refine z_iast hx hb hK hP hD hS 1 0 VG_1 rfl (by omega) (by omega) (by decide) dX9_folds_124 VGw_0 (fun H locs hP hD hS => ?_)
            refine lv_aload_n hx hb dX9_folds_125 rfl (lv_at hl 1 rfl) ?_
            refine va_get (own := RX9) (ref := "NapkinSyntaxModel") (C := RX9) (T := TX9) (N := 20) hx hb hts hinX9 hown hK hP 0 VG_0 rfl 0 (Nat.le_of_ble_eq_true rfl) (hts (.fieldLink RX9 7 "NapkinSyntaxModel" "g" "[I") (by decide +kernel)) (fun _ h => h) (v := .ref (E 1)) rfl dX9_folds_126 ?_
            refine z_bipush hx hb dX9_folds_129 (by decide +kernel) ?_
            refine lv_iload_n hx hb dX9_folds_131 rfl (lv_at hl 2 rfl) ?_
            refine z_iadd hx hb dX9_folds_132 ?_
            refine lv_dup2_11 hx hb dX9_folds_133 rfl rfl ?_
            refine z_iald hx hb hK hP 1 0 VG_1 rfl (by omega) (by omega) (by decide) dX9_folds_134 ?_
            refine z_iconst hx hb dX9_folds_135 ?_
            refine z_iadd hx hb dX9_folds_136 ?_
            refine z_iast hx hb hK hP hD hS 1 0 VG_1 rfl (by omega) (by omega) (by decide) dX9_folds_137 VGw_0 (fun H locs hP hD hS => ?_)
            refine lv_aload_n hx hb dX9_folds_138 rfl (lv_at hl 1 rfl) ?_
            refine va_get (own := RX9) (ref := "NapkinSyntaxModel") (C := RX9) (T := TX9) (N := 20) hx hb hts hinX9 hown hK hP 0 VG_0 rfl 0 (Nat.le_of_ble_eq_true rfl) (hts (.fieldLink RX9 7 "NapkinSyntaxModel" "g" "[I") (by decide +kernel)) (fun _ h => h) (v := .ref (E 1)) rfl dX9_folds_139 ?_
            refine z_iconst hx hb dX9_folds_142 ?_
            refine lv_dup2_11 hx hb dX9_folds_143 rfl rfl ?_
            refine z_iald hx hb hK hP 1 0 VG_1 rfl (by omega) (by omega) (by decide) dX9_folds_144 ?_
            refine z_iconst hx hb dX9_folds_145 ?_
            refine z_iadd hx hb dX9_folds_146 ?_
            refine z_iast hx hb hK hP hD hS 1 0 VG_1 rfl (by omega) (by omega) (by decide) dX9_folds_147 VGw_0 (fun H locs hP hD hS => ?_)
            refine lv_aload_n hx hb dX9_folds_148 rfl (lv_at hl 1 rfl) ?_
            refine lv_aload_n hx hb dX9_folds_149 rfl (lv_at hl 1 rfl) ?_
            refine va_get (own := RX9) (ref := "NapkinSyntaxModel") (C := RX9) (T := TX9) (N := 20) hx hb hts hinX9 hown hK hP 0 VG_0 rfl 0 (Nat.le_of_ble_eq_true rfl) (hts (.fieldLink RX9 7 "NapkinSyntaxModel" "g" "[I") (by decide +kernel)) (fun _ h => h) (v := .ref (E 1)) rfl dX9_folds_150 ?_
            refine z_bipush hx hb dX9_folds_153 (by decide +kernel) ?_
            refine lv_iload_n hx hb dX9_folds_155 rfl (lv_at hl 2 rfl) ?_
            refine z_iadd hx hb dX9_folds_156 ?_
            refine z_iald hx hb hK hP 1 0 VG_1 rfl (by omega) (by omega) (by decide) dX9_folds_157 ?_
            refine ct_Vi (VG_fix E cI cC) hZo hZb hZ S0 (kX9_done l D E cI cC Z hZo hZb (mst (mst (mst (mst M 0 ((25) + n) ((M 0 ((25) + n)) + (3))) 0 ((15) + n) fold) 0 ((45) + n) (((mst (mst M 0 ((25) + n) ((M 0 ((25) + n)) + (3))) 0 ((15) + n) fold) 0 ((45) + n)) + (1))) 0 (3) (((mst (mst (mst M 0 ((25) + n) ((M 0 ((25) + n)) + (3))) 0 ((15) + n) fold) 0 ((45) + n) (((mst (mst M 0 ((25) + n) ((M 0 ((25) + n)) + (3))) 0 ((15) + n) fold) 0 ((45) + n)) + (1))) 0 (3)) + (1))) ((mst (mst (mst (mst M 0 ((25) + n) ((M 0 ((25) + n)) + (3))) 0 ((15) + n) fold) 0 ((45) + n) (((mst (mst M 0 ((25) + n) ((M 0 ((25) + n)) + (3))) 0 ((15) + n) fold) 0 ((45) + n)) + (1))) 0 (3) (((mst (mst (mst M 0 ((25) + n) ((M 0 ((25) + n)) + (3))) 0 ((15) + n) fold) 0 ((45) + n) (((mst (mst M 0 ((25) + n) ((M 0 ((25) + n)) + (3))) 0 ((15) + n) fold) 0 ((45) + n)) + (1))) 0 (3)) + (1))) 0 ((25) + n))  (fX9_done (mst (mst (mst (mst M 0 ((25) + n) ((M 0 ((25) + n)) + (3))) 0 ((15) + n) fold) 0 ((45) + n) (((mst (mst M 0 ((25) + n) ((M 0 ((25) + n)) + (3))) 0 ((15) + n) fold) 0 ((45) + n)) + (1))) 0 (3) (((mst (mst (mst M 0 ((25) + n) ((M 0 ((25) + n)) + (3))) 0 ((15) + n) fold) 0 ((45) + n) (((mst (mst M 0 ((25) + n) ((M 0 ((25) + n)) + (3))) 0 ((15) + n) fold) 0 ((45) + n)) + (1))) 0 (3)) + (1))) ((mst (mst (mst (mst M 0 ((25) + n) ((M 0 ((25) + n)) + (3))) 0 ((15) + n) fold) 0 ((45) + n) (((mst (mst M 0 ((25) + n) ((M 0 ((25) + n)) + (3))) 0 ((15) + n) fold) 0 ((45) + n)) + (1))) 0 (3) (((mst (mst (mst M 0 ((25) + n) ((M 0 ((25) + n)) + (3))) 0 ((15) + n) fold) 0 ((45) + n) (((mst (mst M 0 ((25) + n) ((M 0 ((25) + n)) + (3))) 0 ((15) + n) fold) 0 ((45) + n)) + (1))) 0 (3)) + (1))) 0 ((25) + n))).1 (fX9_done (mst (mst (mst (mst M 0 ((25) + n) ((M 0 ((25) + n)) + (3))) 0 ((15) + n) fold) 0 ((45) + n) (((mst (mst M 0 ((25) + n) ((M 0 ((25) + n)) + (3))) 0 ((15) + n) fold) 0 ((45) + n)) + (1))) 0 (3) (((mst (mst (mst M 0 ((25) + n) ((M 0 ((25) + n)) + (3))) 0 ((15) + n) fold) 0 ((45) + n) (((mst (mst M 0 ((25) + n) ((M 0 ((25) + n)) + (3))) 0 ((15) + n) fold) 0 ((45) + n)) + (1))) 0 (3)) + (1))) ((mst (mst (mst (mst M 0 ((25) + n) ((M 0 ((25) + n)) + (3))) 0 ((15) + n) fold) 0 ((45) + n) (((mst (mst M 0 ((25) + n) ((M 0 ((25) + n)) + (3))) 0 ((15) + n) fold) 0 ((45) + n)) + (1))) 0 (3) (((mst (mst (mst M 0 ((25) + n) ((M 0 ((25) + n)) + (3))) 0 ((15) + n) fold) 0 ((45) + n) (((mst (mst M 0 ((25) + n) ((M 0 ((25) + n)) + (3))) 0 ((15) + n) fold) 0 ((45) + n)) + (1))) 0 (3)) + (1))) 0 ((25) + n))).2 (Prod.ext rfl rfl)) (cwV 1 hts gX9_folds_X9_done rfl rfl rfl (by decide +kernel) ⟨(Nat.le_of_ble_eq_true rfl), (Nat.le_of_ble_eq_true rfl)⟩) hK hP hD hS rfl rfl VG_0 rfl hl.1 rfl (Nat.le_of_ble_eq_true rfl) dX9_folds_158 ⟨Nat.zero_le _, Nat.zero_le _⟩ (fun H locs hP hD hS => ?_)
            obtain ⟨e1, e2⟩ := Prod.mk.inj hE
            subst e2
            exact ci_i hx hb hr hlocks e1 rfl hS hP dX9_folds_161
          · rw [if_neg b18] at hE
            refine lv_aload_n hx hb dX9_folds_86 rfl (lv_at hl 1 rfl) ?_
            refine z_iconst hx hb dX9_folds_87 ?_
            refine lv_aload_n hx hb dX9_folds_88 rfl (lv_at hl 1 rfl) ?_
            refine va_get (own := RX9) (ref := "NapkinSyntaxModel") (C := RX9) (T := TX9) (N := 20) hx hb hts hinX9 hown hK hP 0 VG_0 rfl 0 (Nat.le_of_ble_eq_true rfl) (hts (.fieldLink RX9 7 "NapkinSyntaxModel" "g" "[I") (by decide +kernel)) (fun _ h => h) (v := .ref (E 1)) rfl dX9_folds_89 ?_
            refine z_bipush hx hb dX9_folds_92 (by decide +kernel) ?_
            refine lv_iload_n hx hb dX9_folds_94 rfl (lv_at hl 2 rfl) ?_
            refine z_iadd hx hb dX9_folds_95 ?_
            refine z_iald hx hb hK hP 1 0 VG_1 rfl (by omega) (by omega) (by decide) dX9_folds_96 ?_
            have q20 := GI_25 hG ((25) + n) (by omega) (by omega)
            refine z_iconst hx hb dX9_folds_97 ?_
            refine ct_Vi (VG_fix E cI cC) hZo hZb hZ S0 (kX9_refused l D E cI cC Z hZo hZb M (3) (M 0 ((25) + n)) (3)  (fX9_refused M (3) (M 0 ((25) + n)) (3)).1 (fX9_refused M (3) (M 0 ((25) + n)) (3)).2 (Prod.ext rfl rfl)) (cwV 3 hts gX9_folds_X9_refused rfl rfl rfl (by decide +kernel) ⟨(Nat.le_of_ble_eq_true rfl), (Nat.le_of_ble_eq_true rfl)⟩) hK hP hD hS rfl rfl VG_0 rfl hl.1 rfl (Nat.le_of_ble_eq_true rfl) dX9_folds_98 ⟨Nat.zero_le _, Nat.zero_le _⟩ (fun H locs hP hD hS => ?_)
            obtain ⟨e1, e2⟩ := Prod.mk.inj hE
            subst e2
            exact ci_i hx hb hr hlocks e1 rfl hS hP dX9_folds_101
      · rw [if_pos b6] at hE
        refine lv_aload_n hx hb dX9_folds_42 rfl (lv_at hl 0 rfl) ?_
        refine z_iconst hx hb dX9_folds_43 ?_
        refine lv_iload_n hx hb dX9_folds_44 rfl (lv_at hl 2 rfl) ?_
        refine z_iconst hx hb dX9_folds_45 ?_
        refine ct_Vi (VG_fix E cI cC) hZo hZb hZ S0 (kX9_refused l D E cI cC Z hZo hZb M (2) fold (3)  (fX9_refused M (2) fold (3)).1 (fX9_refused M (2) fold (3)).2 (Prod.ext rfl rfl)) (cwV 3 hts gX9_folds_X9_refused rfl rfl rfl (by decide +kernel) ⟨(Nat.le_of_ble_eq_true rfl), (Nat.le_of_ble_eq_true rfl)⟩) hK hP hD hS rfl rfl VG_0 rfl hl.1 rfl (Nat.le_of_ble_eq_true rfl) dX9_folds_46 ⟨Nat.zero_le _, Nat.zero_le _⟩ (fun H locs hP hD hS => ?_)
        obtain ⟨e1, e2⟩ := Prod.mk.inj hE
        subst e2
        exact ci_i hx hb hr hlocks e1 rfl hS hP dX9_folds_49
    · rw [if_pos b4] at hE
      refine lv_aload_n hx hb dX9_folds_23 rfl (lv_at hl 0 rfl) ?_
      refine z_iconst hx hb dX9_folds_24 ?_
      refine ct_Vi (VG_fix E cI cC) hZo hZb hZ S0 (kX9_fails l D E cI cC Z hZo hZb M (2)  (fX9_fails M (2)).1 (fX9_fails M (2)).2 (Prod.ext rfl rfl)) (cwV 1 hts gX9_folds_X9_fails rfl rfl rfl (by decide +kernel) ⟨(Nat.le_of_ble_eq_true rfl), (Nat.le_of_ble_eq_true rfl)⟩) hK hP hD hS rfl rfl VG_0 rfl hl.1 rfl (Nat.le_of_ble_eq_true rfl) dX9_folds_25 ⟨Nat.zero_le _, Nat.zero_le _⟩ (fun H locs hP hD hS => ?_)
      obtain ⟨e1, e2⟩ := Prod.mk.inj hE
      subst e2
      exact ci_i hx hb hr hlocks e1 rfl hS hP dX9_folds_28
  · rw [if_pos b2] at hE
    refine lv_aload_n hx hb dX9_folds_8 rfl (lv_at hl 0 rfl) ?_
    refine z_iconst hx hb dX9_folds_9 ?_
    refine ct_Vi (VG_fix E cI cC) hZo hZb hZ S0 (kX9_fails l D E cI cC Z hZo hZb M (1)  (fX9_fails M (1)).1 (fX9_fails M (1)).2 (Prod.ext rfl rfl)) (cwV 1 hts gX9_folds_X9_fails rfl rfl rfl (by decide +kernel) ⟨(Nat.le_of_ble_eq_true rfl), (Nat.le_of_ble_eq_true rfl)⟩) hK hP hD hS rfl rfl VG_0 rfl hl.1 rfl (Nat.le_of_ble_eq_true rfl) dX9_folds_10 ⟨Nat.zero_le _, Nat.zero_le _⟩ (fun H locs hP hD hS => ?_)
    obtain ⟨e1, e2⟩ := Prod.mk.inj hE
    subst e2
    exact ci_i hx hb hr hlocks e1 rfl hS hP dX9_folds_13

theorem fr_fX9_folds {M : Mem} (n fold : Int) {r : Nat} (h0 : Nat.beq r 0 = false) (h19 : Nat.beq r 19 = false) (h20 : Nat.beq r 20 = false) (h21 : Nat.beq r 21 = false) (h22 : Nat.beq r 22 = false) (h23 : Nat.beq r 23 = false) (h26 : Nat.beq r 26 = false) : (fX9_folds M n fold).2 r = M r := by
  unfold fX9_folds
  (repeat' with_reducible refine frite_w (fun _ => ?_) (fun _ => ?_)) <;> first | with_reducible rfl | simp only [mst_o, msf_o, mcp_o, fr_fX9_done, fr_fX9_fails, fr_fX9_refused, h0, h19, h20, h21, h22, h23, h26]

def fX9_unfolds (M : Mem) (n : Int) : Int × Mem := if ((fX9_isNapkin M n) = 0) then ((fX9_fails M (1)).1, (fX9_fails M (1)).2) else if ((M 0 ((15) + n)) = 0) then ((fX9_refused M (2) (0) (2)).1, (fX9_refused M (2) (0) (2)).2) else ((fX9_done (mst M 0 ((15) + n) (0)) (M 0 ((15) + n))).1, (fX9_done (mst M 0 ((15) + n) (0)) (M 0 ((15) + n))).2)
set_option maxRecDepth 100000 in
set_option maxHeartbeats 4000000 in
theorem kX9_unfolds (l : Launch) (D : va_G) (E : Nat → Nat) (cI cC : ClassId) (Z : State → Prop) (hZo : ∀ M : Mem, ZOk (VG E cI cC M) Z) (hZb : ZBl Z) (M : Mem) (n : Int) (h1 : -2147483648 ≤ n ∧ n < 2147483648) (hG : GI M) (r : Int) (M' : Mem) (hE : fX9_unfolds M n = (r, M')) : Ci l yX9_unfolds wsX9_unfolds 2 43 [.ref (E 0), .int (iI n)] D (TY cI cC) (VG E cI cC) Z M r M' := by
  refine Ci.of (cc := cX9_unfolds) (maxL := 3) (ret := (some .int)) (by decide +kernel) rfl (Nat.le_of_ble_eq_true rfl) ?_
  intro p e s m args below meth c ls hx hb hml hr hown hts hlocks hP hK hD hZ hS hl
  have hl : lv_has ls 3 [(0, .ref (E 0)), (1, .int (iI n))] := hl
  have S0 : CallFix p m c cX9_unfolds 3 s args wsX9_unfolds RX9 := ⟨hx, hb, hml, hown, hts⟩
  have hinX9 : ∀ w ∈ u_ws RX9 TX9 20, w ∈ wsX9_unfolds := by decide +kernel
  rw [fX9_unfolds] at hE
  refine lv_aload_n hx hb dX9_unfolds_0 rfl (lv_at hl 0 rfl) ?_
  refine lv_iload_n hx hb dX9_unfolds_1 rfl (lv_at hl 1 rfl) ?_
  refine ct_Vi (VG_fix E cI cC) hZo hZb hZ S0 (kX9_isNapkin l D E cI cC Z hZo hZb M n (by omega) hG (fX9_isNapkin M n) rfl) (cwV 1 hts gX9_unfolds_X9_isNapkin rfl rfl rfl (by decide +kernel) ⟨(Nat.le_of_ble_eq_true rfl), (Nat.le_of_ble_eq_true rfl)⟩) hK hP hD hS rfl rfl VG_0 rfl hl.1 rfl (Nat.le_of_ble_eq_true rfl) dX9_unfolds_2 ⟨Nat.zero_le _, Nat.zero_le _⟩ (fun H locs hP hD hS => ?_)
  have q1 := dX9_isNapkin hG n
  refine z_if_ne hx hb dX9_unfolds_5 (tgt := 14) rfl (by omega) (fun b2 => ?_) (fun b2 => ?_)
  · rw [if_neg b2] at hE
    refine lv_aload_n hx hb dX9_unfolds_14 rfl (lv_at hl 0 rfl) ?_
    refine va_get (own := RX9) (ref := "NapkinSyntaxModel") (C := RX9) (T := TX9) (N := 20) hx hb hts hinX9 hown hK hP 0 VG_0 rfl 0 (Nat.le_of_ble_eq_true rfl) (hts (.fieldLink RX9 7 "NapkinSyntaxModel" "g" "[I") (by decide +kernel)) (fun _ h => h) (v := .ref (E 1)) rfl dX9_unfolds_15 ?_
    refine z_bipush hx hb dX9_unfolds_18 (by decide +kernel) ?_
    refine lv_iload_n hx hb dX9_unfolds_20 rfl (lv_at hl 1 rfl) ?_
    refine z_iadd hx hb dX9_unfolds_21 ?_
    refine z_iald hx hb hK hP 1 0 VG_1 rfl (by omega) (by omega) (by decide) dX9_unfolds_22 ?_
    have q3 := GI_15 hG ((15) + n) (by omega) (by omega)
    refine lv_istore_n hx hb dX9_unfolds_23 rfl hl (Nat.le_of_ble_eq_true rfl) (lv' := [(2, .int (iI (M 0 ((15) + n)))), (0, .ref (E 0)), (1, .int (iI n))]) rfl (fun ls hl => ?_)
    refine lv_iload_n hx hb dX9_unfolds_24 rfl (lv_at hl 0 rfl) ?_
    refine z_if_ne hx hb dX9_unfolds_25 (tgt := 36) rfl (by omega) (fun b4 => ?_) (fun b4 => ?_)
    · rw [if_neg b4] at hE
      refine lv_aload_n hx hb dX9_unfolds_36 rfl (lv_at hl 1 rfl) ?_
      refine va_get (own := RX9) (ref := "NapkinSyntaxModel") (C := RX9) (T := TX9) (N := 20) hx hb hts hinX9 hown hK hP 0 VG_0 rfl 0 (Nat.le_of_ble_eq_true rfl) (hts (.fieldLink RX9 7 "NapkinSyntaxModel" "g" "[I") (by decide +kernel)) (fun _ h => h) (v := .ref (E 1)) rfl dX9_unfolds_37 ?_
      refine z_bipush hx hb dX9_unfolds_40 (by decide +kernel) ?_
      refine lv_iload_n hx hb dX9_unfolds_42 rfl (lv_at hl 2 rfl) ?_
      refine z_iadd hx hb dX9_unfolds_43 ?_
      refine z_iconst hx hb dX9_unfolds_44 ?_
      refine z_iast hx hb hK hP hD hS 1 0 VG_1 rfl (by omega) (by omega) (by decide) dX9_unfolds_45 VGw_0 (fun H locs hP hD hS => ?_)
      refine lv_aload_n hx hb dX9_unfolds_46 rfl (lv_at hl 1 rfl) ?_
      refine lv_iload_n hx hb dX9_unfolds_47 rfl (lv_at hl 0 rfl) ?_
      refine ct_Vi (VG_fix E cI cC) hZo hZb hZ S0 (kX9_done l D E cI cC Z hZo hZb (mst M 0 ((15) + n) (0)) (M 0 ((15) + n))  (fX9_done (mst M 0 ((15) + n) (0)) (M 0 ((15) + n))).1 (fX9_done (mst M 0 ((15) + n) (0)) (M 0 ((15) + n))).2 (Prod.ext rfl rfl)) (cwV 1 hts gX9_unfolds_X9_done rfl rfl rfl (by decide +kernel) ⟨(Nat.le_of_ble_eq_true rfl), (Nat.le_of_ble_eq_true rfl)⟩) hK hP hD hS rfl rfl VG_0 rfl hl.1 rfl (Nat.le_of_ble_eq_true rfl) dX9_unfolds_48 ⟨Nat.zero_le _, Nat.zero_le _⟩ (fun H locs hP hD hS => ?_)
      obtain ⟨e1, e2⟩ := Prod.mk.inj hE
      subst e2
      exact ci_i hx hb hr hlocks e1 rfl hS hP dX9_unfolds_51
    · rw [if_pos b4] at hE
      refine lv_aload_n hx hb dX9_unfolds_28 rfl (lv_at hl 1 rfl) ?_
      refine z_iconst hx hb dX9_unfolds_29 ?_
      refine z_iconst hx hb dX9_unfolds_30 ?_
      refine z_iconst hx hb dX9_unfolds_31 ?_
      refine ct_Vi (VG_fix E cI cC) hZo hZb hZ S0 (kX9_refused l D E cI cC Z hZo hZb M (2) (0) (2)  (fX9_refused M (2) (0) (2)).1 (fX9_refused M (2) (0) (2)).2 (Prod.ext rfl rfl)) (cwV 3 hts gX9_unfolds_X9_refused rfl rfl rfl (by decide +kernel) ⟨(Nat.le_of_ble_eq_true rfl), (Nat.le_of_ble_eq_true rfl)⟩) hK hP hD hS rfl rfl VG_0 rfl hl.1 rfl (Nat.le_of_ble_eq_true rfl) dX9_unfolds_32 ⟨Nat.zero_le _, Nat.zero_le _⟩ (fun H locs hP hD hS => ?_)
      obtain ⟨e1, e2⟩ := Prod.mk.inj hE
      subst e2
      exact ci_i hx hb hr hlocks e1 rfl hS hP dX9_unfolds_35
  · rw [if_pos b2] at hE
    refine lv_aload_n hx hb dX9_unfolds_8 rfl (lv_at hl 0 rfl) ?_
    refine z_iconst hx hb dX9_unfolds_9 ?_
    refine ct_Vi (VG_fix E cI cC) hZo hZb hZ S0 (kX9_fails l D E cI cC Z hZo hZb M (1)  (fX9_fails M (1)).1 (fX9_fails M (1)).2 (Prod.ext rfl rfl)) (cwV 1 hts gX9_unfolds_X9_fails rfl rfl rfl (by decide +kernel) ⟨(Nat.le_of_ble_eq_true rfl), (Nat.le_of_ble_eq_true rfl)⟩) hK hP hD hS rfl rfl VG_0 rfl hl.1 rfl (Nat.le_of_ble_eq_true rfl) dX9_unfolds_10 ⟨Nat.zero_le _, Nat.zero_le _⟩ (fun H locs hP hD hS => ?_)
    obtain ⟨e1, e2⟩ := Prod.mk.inj hE
    subst e2
    exact ci_i hx hb hr hlocks e1 rfl hS hP dX9_unfolds_13

theorem fr_fX9_unfolds {M : Mem} (n : Int) {r : Nat} (h0 : Nat.beq r 0 = false) (h19 : Nat.beq r 19 = false) (h20 : Nat.beq r 20 = false) (h21 : Nat.beq r 21 = false) (h22 : Nat.beq r 22 = false) (h23 : Nat.beq r 23 = false) (h26 : Nat.beq r 26 = false) : (fX9_unfolds M n).2 r = M r := by
  unfold fX9_unfolds
  (repeat' with_reducible refine frite_w (fun _ => ?_) (fun _ => ?_)) <;> first | with_reducible rfl | simp only [mst_o, msf_o, mcp_o, fr_fX9_done, fr_fX9_fails, fr_fX9_refused, h0, h19, h20, h21, h22, h23, h26]

def fX9_lays (M : Mem) (n table : Int) : Int × Mem := if ((fX9_isNapkin M n) = 0) then ((fX9_fails M (1)).1, (fX9_fails M (1)).2) else if ((fX9_isTable table) = 0) then ((fX9_fails M (1)).1, (fX9_fails M (1)).2) else if ((fX9_seatOf M n) = (-1)) then if ((M 0 ((55) + table)) = (6)) then ((fX9_refused M (1) (6) (2)).1, (fX9_refused M (1) (6) (2)).2) else ((fX9_done (mst (mst M 0 (((64) + ((6) * table)) + (M 0 ((55) + table))) n) 0 ((55) + table) (((mst M 0 (((64) + ((6) * table)) + (M 0 ((55) + table))) n) 0 ((55) + table)) + (1))) (M 0 ((55) + table))).1, (fX9_done (mst (mst M 0 (((64) + ((6) * table)) + (M 0 ((55) + table))) n) 0 ((55) + table) (((mst M 0 (((64) + ((6) * table)) + (M 0 ((55) + table))) n) 0 ((55) + table)) + (1))) (M 0 ((55) + table))).2) else ((fX9_refused M (4) ((fX9_seatOf M n) / (10)) (2)).1, (fX9_refused M (4) ((fX9_seatOf M n) / (10)) (2)).2)
set_option maxRecDepth 100000 in
set_option maxHeartbeats 4000000 in
theorem kX9_lays (l : Launch) (D : va_G) (E : Nat → Nat) (cI cC : ClassId) (Z : State → Prop) (hZo : ∀ M : Mem, ZOk (VG E cI cC M) Z) (hZb : ZBl Z) (M : Mem) (n table : Int) (h1 : -2147483648 ≤ n ∧ n < 2147483648) (h2 : -2147483648 ≤ table ∧ table < 2147483648) (hG : GI M) (r : Int) (M' : Mem) (hE : fX9_lays M n table = (r, M')) : Ci l yX9_lays wsX9_lays 2 45 [.ref (E 0), .int (iI n), .int (iI table)] D (TY cI cC) (VG E cI cC) Z M r M' := by
  refine Ci.of (cc := cX9_lays) (maxL := 5) (ret := (some .int)) (by decide +kernel) rfl (Nat.le_of_ble_eq_true rfl) ?_
  intro p e s m args below meth c ls hx hb hml hr hown hts hlocks hP hK hD hZ hS hl
  have hl : lv_has ls 5 [(0, .ref (E 0)), (1, .int (iI n)), (2, .int (iI table))] := hl
  have S0 : CallFix p m c cX9_lays 5 s args wsX9_lays RX9 := ⟨hx, hb, hml, hown, hts⟩
  have hinX9 : ∀ w ∈ u_ws RX9 TX9 20, w ∈ wsX9_lays := by decide +kernel
  rw [fX9_lays] at hE
  refine lv_aload_n hx hb dX9_lays_0 rfl (lv_at hl 0 rfl) ?_
  refine lv_iload_n hx hb dX9_lays_1 rfl (lv_at hl 1 rfl) ?_
  refine ct_Vi (VG_fix E cI cC) hZo hZb hZ S0 (kX9_isNapkin l D E cI cC Z hZo hZb M n (by omega) hG (fX9_isNapkin M n) rfl) (cwV 1 hts gX9_lays_X9_isNapkin rfl rfl rfl (by decide +kernel) ⟨(Nat.le_of_ble_eq_true rfl), (Nat.le_of_ble_eq_true rfl)⟩) hK hP hD hS rfl rfl VG_0 rfl hl.1 rfl (Nat.le_of_ble_eq_true rfl) dX9_lays_2 ⟨Nat.zero_le _, Nat.zero_le _⟩ (fun H locs hP hD hS => ?_)
  have q1 := dX9_isNapkin hG n
  refine z_if_eq hx hb dX9_lays_5 (tgt := 15) rfl (by omega) (fun b2 => ?_) (fun b2 => ?_)
  · rw [if_pos b2] at hE
    refine lv_aload_n hx hb dX9_lays_15 rfl (lv_at hl 0 rfl) ?_
    refine z_iconst hx hb dX9_lays_16 ?_
    refine ct_Vi (VG_fix E cI cC) hZo hZb hZ S0 (kX9_fails l D E cI cC Z hZo hZb M (1)  (fX9_fails M (1)).1 (fX9_fails M (1)).2 (Prod.ext rfl rfl)) (cwV 1 hts gX9_lays_X9_fails rfl rfl rfl (by decide +kernel) ⟨(Nat.le_of_ble_eq_true rfl), (Nat.le_of_ble_eq_true rfl)⟩) hK hP hD hS rfl rfl VG_0 rfl hl.1 rfl (Nat.le_of_ble_eq_true rfl) dX9_lays_17 ⟨Nat.zero_le _, Nat.zero_le _⟩ (fun H locs hP hD hS => ?_)
    obtain ⟨e1, e2⟩ := Prod.mk.inj hE
    subst e2
    exact ci_i hx hb hr hlocks e1 rfl hS hP dX9_lays_20
  · rw [if_neg b2] at hE
    refine lv_iload_n hx hb dX9_lays_8 rfl (lv_at hl 2 rfl) ?_
    refine ct_Si (VG_fix E cI cC) hZo hZb hZ S0 (kX9_isTable l D E cI cC Z hZo hZb M table (by omega) (fX9_isTable table) rfl) (va_cwS 1 hts gX9_lays_X9_isTable rfl rfl rfl (by decide +kernel) ⟨(Nat.le_of_ble_eq_true rfl), (Nat.le_of_ble_eq_true rfl)⟩) hK hP hD hS rfl hl.1 rfl (Nat.le_of_ble_eq_true rfl) dX9_lays_9 ⟨Nat.zero_le _, Nat.zero_le _⟩ (fun H locs hP hD hS => ?_)
    have q3 := dX9_isTable table
    refine z_if_ne hx hb dX9_lays_12 (tgt := 21) rfl (by omega) (fun b4 => ?_) (fun b4 => ?_)
    · rw [if_neg b4] at hE
      refine lv_aload_n hx hb dX9_lays_21 rfl (lv_at hl 0 rfl) ?_
      refine lv_iload_n hx hb dX9_lays_22 rfl (lv_at hl 1 rfl) ?_
      refine ct_Vi (VG_fix E cI cC) hZo hZb hZ S0 (kX9_seatOf l D E cI cC Z hZo hZb M n (by omega) hG (fX9_seatOf M n) rfl) (cwV 1 hts gX9_lays_X9_seatOf rfl rfl rfl (by decide +kernel) ⟨(Nat.le_of_ble_eq_true rfl), (Nat.le_of_ble_eq_true rfl)⟩) hK hP hD hS rfl rfl VG_0 rfl hl.1 rfl (Nat.le_of_ble_eq_true rfl) dX9_lays_23 ⟨Nat.zero_le _, Nat.zero_le _⟩ (fun H locs hP hD hS => ?_)
      have q5 := rg_X9_seatOf hG n
      refine lv_istore_n hx hb dX9_lays_26 rfl hl (Nat.le_of_ble_eq_true rfl) (lv' := [(3, .int (iI (fX9_seatOf M n))), (0, .ref (E 0)), (1, .int (iI n)), (2, .int (iI table))]) rfl (fun ls hl => ?_)
      refine lv_iload_n hx hb dX9_lays_27 rfl (lv_at hl 0 rfl) ?_
      refine z_iconst hx hb dX9_lays_28 ?_
      refine z_icmp_eq hx hb dX9_lays_29 (tgt := 43) rfl (by omega) (by omega) (fun b6 => ?_) (fun b6 => ?_)
      · rw [if_pos b6] at hE
        refine lv_aload_n hx hb dX9_lays_43 rfl (lv_at hl 1 rfl) ?_
        refine va_get (own := RX9) (ref := "NapkinSyntaxModel") (C := RX9) (T := TX9) (N := 20) hx hb hts hinX9 hown hK hP 0 VG_0 rfl 0 (Nat.le_of_ble_eq_true rfl) (hts (.fieldLink RX9 7 "NapkinSyntaxModel" "g" "[I") (by decide +kernel)) (fun _ h => h) (v := .ref (E 1)) rfl dX9_lays_44 ?_
        refine z_bipush hx hb dX9_lays_47 (by decide +kernel) ?_
        refine lv_iload_n hx hb dX9_lays_49 rfl (lv_at hl 3 rfl) ?_
        refine z_iadd hx hb dX9_lays_50 ?_
        refine z_iald hx hb hK hP 1 0 VG_1 rfl (by omega) (by omega) (by decide) dX9_lays_51 ?_
        have q7 := GI_55 hG ((55) + table) (by omega) (by omega)
        refine lv_istore hx hb dX9_lays_52 hl (Nat.le_of_ble_eq_true rfl) (lv' := [(4, .int (iI (M 0 ((55) + table)))), (3, .int (iI (fX9_seatOf M n))), (0, .ref (E 0)), (1, .int (iI n)), (2, .int (iI table))]) rfl (fun ls hl => ?_)
        refine lv_iload hx hb dX9_lays_54 (lv_at hl 0 rfl) ?_
        refine z_bipush hx hb dX9_lays_56 (by decide +kernel) ?_
        refine z_icmp_ne hx hb dX9_lays_58 (tgt := 70) rfl (by omega) (by omega) (fun b8 => ?_) (fun b8 => ?_)
        · rw [if_neg b8] at hE
          refine lv_aload_n hx hb dX9_lays_70 rfl (lv_at hl 2 rfl) ?_
          refine va_get (own := RX9) (ref := "NapkinSyntaxModel") (C := RX9) (T := TX9) (N := 20) hx hb hts hinX9 hown hK hP 0 VG_0 rfl 0 (Nat.le_of_ble_eq_true rfl) (hts (.fieldLink RX9 7 "NapkinSyntaxModel" "g" "[I") (by decide +kernel)) (fun _ h => h) (v := .ref (E 1)) rfl dX9_lays_71 ?_
          refine z_bipush hx hb dX9_lays_74 (by decide +kernel) ?_
          refine z_bipush hx hb dX9_lays_76 (by decide +kernel) ?_
          refine lv_iload_n hx hb dX9_lays_78 rfl (lv_at hl 4 rfl) ?_
          refine z_imul hx hb dX9_lays_79 ?_
          refine z_iadd hx hb dX9_lays_80 ?_
          refine lv_iload hx hb dX9_lays_81 (lv_at hl 0 rfl) ?_
          refine z_iadd hx hb dX9_lays_83 ?_
          refine lv_iload_n hx hb dX9_lays_84 rfl (lv_at hl 3 rfl) ?_
          refine z_iast hx hb hK hP hD hS 1 0 VG_1 rfl (by omega) (by omega) (by decide) dX9_lays_85 VGw_0 (fun H locs hP hD hS => ?_)
          refine lv_aload_n hx hb dX9_lays_86 rfl (lv_at hl 2 rfl) ?_
          refine va_get (own := RX9) (ref := "NapkinSyntaxModel") (C := RX9) (T := TX9) (N := 20) hx hb hts hinX9 hown hK hP 0 VG_0 rfl 0 (Nat.le_of_ble_eq_true rfl) (hts (.fieldLink RX9 7 "NapkinSyntaxModel" "g" "[I") (by decide +kernel)) (fun _ h => h) (v := .ref (E 1)) rfl dX9_lays_87 ?_
          refine z_bipush hx hb dX9_lays_90 (by decide +kernel) ?_
          refine lv_iload_n hx hb dX9_lays_92 rfl (lv_at hl 4 rfl) ?_
          refine z_iadd hx hb dX9_lays_93 ?_
          refine lv_dup2_11 hx hb dX9_lays_94 rfl rfl ?_
          refine z_iald hx hb hK hP 1 0 VG_1 rfl (by omega) (by omega) (by decide) dX9_lays_95 ?_
          refine z_iconst hx hb dX9_lays_96 ?_
          refine z_iadd hx hb dX9_lays_97 ?_
          refine z_iast hx hb hK hP hD hS 1 0 VG_1 rfl (by omega) (by omega) (by decide) dX9_lays_98 VGw_0 (fun H locs hP hD hS => ?_)
          refine lv_aload_n hx hb dX9_lays_99 rfl (lv_at hl 2 rfl) ?_
          refine lv_iload hx hb dX9_lays_100 (lv_at hl 0 rfl) ?_
          refine ct_Vi (VG_fix E cI cC) hZo hZb hZ S0 (kX9_done l D E cI cC Z hZo hZb (mst (mst M 0 (((64) + ((6) * table)) + (M 0 ((55) + table))) n) 0 ((55) + table) (((mst M 0 (((64) + ((6) * table)) + (M 0 ((55) + table))) n) 0 ((55) + table)) + (1))) (M 0 ((55) + table))  (fX9_done (mst (mst M 0 (((64) + ((6) * table)) + (M 0 ((55) + table))) n) 0 ((55) + table) (((mst M 0 (((64) + ((6) * table)) + (M 0 ((55) + table))) n) 0 ((55) + table)) + (1))) (M 0 ((55) + table))).1 (fX9_done (mst (mst M 0 (((64) + ((6) * table)) + (M 0 ((55) + table))) n) 0 ((55) + table) (((mst M 0 (((64) + ((6) * table)) + (M 0 ((55) + table))) n) 0 ((55) + table)) + (1))) (M 0 ((55) + table))).2 (Prod.ext rfl rfl)) (cwV 1 hts gX9_lays_X9_done rfl rfl rfl (by decide +kernel) ⟨(Nat.le_of_ble_eq_true rfl), (Nat.le_of_ble_eq_true rfl)⟩) hK hP hD hS rfl rfl VG_0 rfl hl.1 rfl (Nat.le_of_ble_eq_true rfl) dX9_lays_102 ⟨Nat.zero_le _, Nat.zero_le _⟩ (fun H locs hP hD hS => ?_)
          obtain ⟨e1, e2⟩ := Prod.mk.inj hE
          subst e2
          exact ci_i hx hb hr hlocks e1 rfl hS hP dX9_lays_105
        · rw [if_pos b8] at hE
          refine lv_aload_n hx hb dX9_lays_61 rfl (lv_at hl 2 rfl) ?_
          refine z_iconst hx hb dX9_lays_62 ?_
          refine z_bipush hx hb dX9_lays_63 (by decide +kernel) ?_
          refine z_iconst hx hb dX9_lays_65 ?_
          refine ct_Vi (VG_fix E cI cC) hZo hZb hZ S0 (kX9_refused l D E cI cC Z hZo hZb M (1) (6) (2)  (fX9_refused M (1) (6) (2)).1 (fX9_refused M (1) (6) (2)).2 (Prod.ext rfl rfl)) (cwV 3 hts gX9_lays_X9_refused rfl rfl rfl (by decide +kernel) ⟨(Nat.le_of_ble_eq_true rfl), (Nat.le_of_ble_eq_true rfl)⟩) hK hP hD hS rfl rfl VG_0 rfl hl.1 rfl (Nat.le_of_ble_eq_true rfl) dX9_lays_66 ⟨Nat.zero_le _, Nat.zero_le _⟩ (fun H locs hP hD hS => ?_)
          obtain ⟨e1, e2⟩ := Prod.mk.inj hE
          subst e2
          exact ci_i hx hb hr hlocks e1 rfl hS hP dX9_lays_69
      · rw [if_neg b6] at hE
        refine lv_aload_n hx hb dX9_lays_32 rfl (lv_at hl 1 rfl) ?_
        refine z_iconst hx hb dX9_lays_33 ?_
        refine lv_iload_n hx hb dX9_lays_34 rfl (lv_at hl 0 rfl) ?_
        refine z_bipush hx hb dX9_lays_35 (by decide +kernel) ?_
        refine z_idiv hx hb dX9_lays_37 (by omega) (by omega) (by omega) (by omega) ?_
        refine z_iconst hx hb dX9_lays_38 ?_
        refine ct_Vi (VG_fix E cI cC) hZo hZb hZ S0 (kX9_refused l D E cI cC Z hZo hZb M (4) ((fX9_seatOf M n) / (10)) (2)  (fX9_refused M (4) ((fX9_seatOf M n) / (10)) (2)).1 (fX9_refused M (4) ((fX9_seatOf M n) / (10)) (2)).2 (Prod.ext rfl rfl)) (cwV 3 hts gX9_lays_X9_refused rfl rfl rfl (by decide +kernel) ⟨(Nat.le_of_ble_eq_true rfl), (Nat.le_of_ble_eq_true rfl)⟩) hK hP hD hS rfl rfl VG_0 rfl hl.1 rfl (Nat.le_of_ble_eq_true rfl) dX9_lays_39 ⟨Nat.zero_le _, Nat.zero_le _⟩ (fun H locs hP hD hS => ?_)
        obtain ⟨e1, e2⟩ := Prod.mk.inj hE
        subst e2
        exact ci_i hx hb hr hlocks e1 rfl hS hP dX9_lays_42
    · rw [if_pos b4] at hE
      refine lv_aload_n hx hb dX9_lays_15 rfl (lv_at hl 0 rfl) ?_
      refine z_iconst hx hb dX9_lays_16 ?_
      refine ct_Vi (VG_fix E cI cC) hZo hZb hZ S0 (kX9_fails l D E cI cC Z hZo hZb M (1)  (fX9_fails M (1)).1 (fX9_fails M (1)).2 (Prod.ext rfl rfl)) (cwV 1 hts gX9_lays_X9_fails rfl rfl rfl (by decide +kernel) ⟨(Nat.le_of_ble_eq_true rfl), (Nat.le_of_ble_eq_true rfl)⟩) hK hP hD hS rfl rfl VG_0 rfl hl.1 rfl (Nat.le_of_ble_eq_true rfl) dX9_lays_17 ⟨Nat.zero_le _, Nat.zero_le _⟩ (fun H locs hP hD hS => ?_)
      obtain ⟨e1, e2⟩ := Prod.mk.inj hE
      subst e2
      exact ci_i hx hb hr hlocks e1 rfl hS hP dX9_lays_20

theorem fr_fX9_lays {M : Mem} (n table : Int) {r : Nat} (h0 : Nat.beq r 0 = false) (h19 : Nat.beq r 19 = false) (h20 : Nat.beq r 20 = false) (h21 : Nat.beq r 21 = false) (h22 : Nat.beq r 22 = false) (h23 : Nat.beq r 23 = false) (h26 : Nat.beq r 26 = false) : (fX9_lays M n table).2 r = M r := by
  unfold fX9_lays
  (repeat' with_reducible refine frite_w (fun _ => ?_) (fun _ => ?_)) <;> first | with_reducible rfl | simp only [mst_o, msf_o, mcp_o, fr_fX9_done, fr_fX9_fails, fr_fX9_refused, h0, h19, h20, h21, h22, h23, h26]

def fX9_closesUp_L1 (M : Mem) (table place : Int) : Nat → Mem → Int → (Mem)
  | 0, Mx, _ => Mx
  | k1 + 1, Mx, ii => if ((6) ≤ ii) then (mst Mx 0 ((55) + table) ((Mx 0 ((55) + table)) - (1))) else if ((5) ≤ ii) then fX9_closesUp_L1 M table place k1 (mst Mx 0 (((64) + ((6) * table)) + ii) (0)) (ii + 1) else fX9_closesUp_L1 M table place k1 (mst Mx 0 (((64) + ((6) * table)) + ii) (Mx 0 ((((64) + ((6) * table)) + ii) + (1)))) (ii + 1)
def fX9_closesUp (M : Mem) (table place : Int) : Mem := fX9_closesUp_L1 M table place 8 M place
set_option maxRecDepth 100000 in
set_option maxHeartbeats 4000000 in
theorem kX9_closesUp (l : Launch) (D : va_G) (E : Nat → Nat) (cI cC : ClassId) (Z : State → Prop) (hZo : ∀ M : Mem, ZOk (VG E cI cC M) Z) (hZb : ZBl Z) (M : Mem) (table place : Int) (h1 : 0 ≤ table ∧ table < 3) (h2 : 0 ≤ place ∧ place ≤ 9) (M' : Mem) (hE : fX9_closesUp M table place = M') : Cv l yX9_closesUp wsX9_closesUp 0 0 [.ref (E 0), .int (iI table), .int (iI place)] D (TY cI cC) (VG E cI cC) Z M M' := by
  refine Cv.of (cc := cX9_closesUp) (maxL := 4) (ret := none) (by decide +kernel) rfl (Nat.le_of_ble_eq_true rfl) ?_
  intro p e s m args below meth c ls hx hb hml hr hown hts hlocks hP hK hD hZ hS hl
  have hl : lv_has ls 4 [(0, .ref (E 0)), (1, .int (iI table)), (2, .int (iI place))] := hl
  have S0 : CallFix p m c cX9_closesUp 4 s args wsX9_closesUp RX9 := ⟨hx, hb, hml, hown, hts⟩
  have hinX9 : ∀ w ∈ u_ws RX9 TX9 20, w ∈ wsX9_closesUp := by decide +kernel
  rw [fX9_closesUp] at hE
  refine lv_iload_n hx hb dX9_closesUp_0 rfl (lv_at hl 2 rfl) ?_
  refine lv_istore_n hx hb dX9_closesUp_1 rfl hl (Nat.le_of_ble_eq_true rfl) (lv' := [(3, .int (iI place)), (0, .ref (E 0)), (1, .int (iI table)), (2, .int (iI place))]) rfl (fun ls hl => ?_)
  have L1 : ∀ (k1 : Nat) (Mx : Mem) (ii : Int) (ls : Array Slot) (H : Heap) (locs : List Loc), lv_has ls 4 [(0, .ref (E 0)), (1, .int (iI table)), (2, .int (iI place)), (3, .int (iI ii))] → va_P D vwCl (VG E cI cC Mx) H → va_D (wA (VG E cI cC M)) (VG E cI cC Mx) → va_S (wA (VG E cI cC M)) s.heap H locs → (0 ≤ ii ∧ (ii ≤ 6 ∨ ii = place)) → (6 - ii < (k1 : Int) ∧ 0 < (k1 : Int)) → fX9_closesUp_L1 M table place k1 Mx ii = M' → W p l e (zRm 0 0) s m args below meth c H locs 0 0 (MQ below (cvQ D (VG E cI cC) M M') args s 0 0 (wA (VG E cI cC M))) (F0 m 2 ls []) := by
    intro k1
    induction k1 with
    | zero => intro Mx ii ls H locs hl hP hD hS i1 i3 hE; exfalso; omega
    | succ k1 ih1 =>
      intro Mx ii ls H locs hl hP hD hS i1 i3 hE
      rw [fX9_closesUp_L1] at hE
      refine lv_iload_n hx hb dX9_closesUp_2 rfl (lv_at hl 3 rfl) ?_
      refine z_bipush hx hb dX9_closesUp_3 (by decide +kernel) ?_
      refine z_icmp_ge hx hb dX9_closesUp_5 (tgt := 53) rfl (by omega) (by omega) (fun b1 => ?_) (fun b1 => ?_)
      · rw [if_pos b1] at hE
        refine lv_aload_n hx hb dX9_closesUp_53 rfl (lv_at hl 0 rfl) ?_
        refine va_get (own := RX9) (ref := "NapkinSyntaxModel") (C := RX9) (T := TX9) (N := 20) hx hb hts hinX9 hown hK hP 0 VG_0 rfl 0 (Nat.le_of_ble_eq_true rfl) (hts (.fieldLink RX9 7 "NapkinSyntaxModel" "g" "[I") (by decide +kernel)) (fun _ h => h) (v := .ref (E 1)) rfl dX9_closesUp_54 ?_
        refine z_bipush hx hb dX9_closesUp_57 (by decide +kernel) ?_
        refine lv_iload_n hx hb dX9_closesUp_59 rfl (lv_at hl 1 rfl) ?_
        refine z_iadd hx hb dX9_closesUp_60 ?_
        refine lv_dup2_11 hx hb dX9_closesUp_61 rfl rfl ?_
        refine z_iald hx hb hK hP 1 0 VG_1 rfl (by omega) (by omega) (by decide) dX9_closesUp_62 ?_
        refine z_iconst hx hb dX9_closesUp_63 ?_
        refine z_isub hx hb dX9_closesUp_64 ?_
        refine z_iast hx hb hK hP hD hS 1 0 VG_1 rfl (by omega) (by omega) (by decide) dX9_closesUp_65 VGw_0 (fun H locs hP hD hS => ?_)
        subst hE
        exact cv_v hx hb hr hlocks hS hP dX9_closesUp_66
      · rw [if_neg b1] at hE
        refine lv_aload_n hx hb dX9_closesUp_8 rfl (lv_at hl 0 rfl) ?_
        refine va_get (own := RX9) (ref := "NapkinSyntaxModel") (C := RX9) (T := TX9) (N := 20) hx hb hts hinX9 hown hK hP 0 VG_0 rfl 0 (Nat.le_of_ble_eq_true rfl) (hts (.fieldLink RX9 7 "NapkinSyntaxModel" "g" "[I") (by decide +kernel)) (fun _ h => h) (v := .ref (E 1)) rfl dX9_closesUp_9 ?_
        refine z_bipush hx hb dX9_closesUp_12 (by decide +kernel) ?_
        refine z_bipush hx hb dX9_closesUp_14 (by decide +kernel) ?_
        refine lv_iload_n hx hb dX9_closesUp_16 rfl (lv_at hl 1 rfl) ?_
        refine z_imul hx hb dX9_closesUp_17 ?_
        refine z_iadd hx hb dX9_closesUp_18 ?_
        refine lv_iload_n hx hb dX9_closesUp_19 rfl (lv_at hl 3 rfl) ?_
        refine z_iadd hx hb dX9_closesUp_20 ?_
        refine lv_iload_n hx hb dX9_closesUp_21 rfl (lv_at hl 3 rfl) ?_
        refine z_iconst hx hb dX9_closesUp_22 ?_
        refine z_icmp_ge hx hb dX9_closesUp_23 (tgt := 45) rfl (by omega) (by omega) (fun b2 => ?_) (fun b2 => ?_)
        · rw [if_pos b2] at hE
          refine z_iconst hx hb dX9_closesUp_45 ?_
          refine z_iast hx hb hK hP hD hS 1 0 VG_1 rfl (by omega) (by omega) (by decide) dX9_closesUp_46 VGw_0 (fun H locs hP hD hS => ?_)
          refine z_iinc hx hb dX9_closesUp_47 hl (k := 3) rfl (Nat.le_of_ble_eq_true rfl) (lv' := [(3, .int (iI (ii + 1))), (0, .ref (E 0)), (1, .int (iI table)), (2, .int (iI place))]) rfl (fun ls hl => ?_)
          refine lv_goto hx hb dX9_closesUp_50 (tgt := 2) rfl ?_
          exact ih1 (mst Mx 0 (((64) + ((6) * table)) + ii) (0)) (ii + 1) ls _ _ (lv_sub hl [1, 2, 3, 0] rfl) hP hD hS (by omega) (by omega) hE
        · rw [if_neg b2] at hE
          refine lv_aload_n hx hb dX9_closesUp_26 rfl (lv_at hl 0 rfl) ?_
          refine va_get (own := RX9) (ref := "NapkinSyntaxModel") (C := RX9) (T := TX9) (N := 20) hx hb hts hinX9 hown hK hP 0 VG_0 rfl 0 (Nat.le_of_ble_eq_true rfl) (hts (.fieldLink RX9 7 "NapkinSyntaxModel" "g" "[I") (by decide +kernel)) (fun _ h => h) (v := .ref (E 1)) rfl dX9_closesUp_27 ?_
          refine z_bipush hx hb dX9_closesUp_30 (by decide +kernel) ?_
          refine z_bipush hx hb dX9_closesUp_32 (by decide +kernel) ?_
          refine lv_iload_n hx hb dX9_closesUp_34 rfl (lv_at hl 1 rfl) ?_
          refine z_imul hx hb dX9_closesUp_35 ?_
          refine z_iadd hx hb dX9_closesUp_36 ?_
          refine lv_iload_n hx hb dX9_closesUp_37 rfl (lv_at hl 3 rfl) ?_
          refine z_iadd hx hb dX9_closesUp_38 ?_
          refine z_iconst hx hb dX9_closesUp_39 ?_
          refine z_iadd hx hb dX9_closesUp_40 ?_
          refine z_iald hx hb hK hP 1 0 VG_1 rfl (by omega) (by omega) (by decide) dX9_closesUp_41 ?_
          refine lv_goto hx hb dX9_closesUp_42 (tgt := 46) rfl ?_
          refine z_iast hx hb hK hP hD hS 1 0 VG_1 rfl (by omega) (by omega) (by decide) dX9_closesUp_46 VGw_0 (fun H locs hP hD hS => ?_)
          refine z_iinc hx hb dX9_closesUp_47 hl (k := 3) rfl (Nat.le_of_ble_eq_true rfl) (lv' := [(3, .int (iI (ii + 1))), (0, .ref (E 0)), (1, .int (iI table)), (2, .int (iI place))]) rfl (fun ls hl => ?_)
          refine lv_goto hx hb dX9_closesUp_50 (tgt := 2) rfl ?_
          exact ih1 (mst Mx 0 (((64) + ((6) * table)) + ii) (Mx 0 ((((64) + ((6) * table)) + ii) + (1)))) (ii + 1) ls _ _ (lv_sub hl [1, 2, 3, 0] rfl) hP hD hS (by omega) (by omega) hE
  exact L1 8 M place ls _ _ (lv_sub hl [1, 2, 3, 0] rfl) hP hD hS (by omega) (by omega) hE

theorem fr_fX9_closesUp_L1 (M : Mem) (table place : Int) {r : Nat} (h0 : Nat.beq r 0 = false) : ∀ (k : Nat) (Mx : Mem) (ii : Int), (fX9_closesUp_L1 M table place k Mx ii) r = Mx r := by
  intro k
  induction k with
  | zero => intros; rfl
  | succ k ih =>
    intro Mx ii
    rw [fX9_closesUp_L1]
    (repeat' with_reducible refine frite_v (fun _ => ?_) (fun _ => ?_)) <;> first | with_reducible rfl | simp only [ih, mst_o, msf_o, mcp_o, h0]
theorem fr_fX9_closesUp {M : Mem} (table place : Int) {r : Nat} (h0 : Nat.beq r 0 = false) : (fX9_closesUp M table place) r = M r := by
  unfold fX9_closesUp
  (repeat' with_reducible refine frite_v (fun _ => ?_) (fun _ => ?_)) <;> first | with_reducible rfl | simp only [mst_o, msf_o, mcp_o, h0, fr_fX9_closesUp_L1]

def fX9_opensAt_L1 (M : Mem) (table place napkin : Int) : Nat → Mem → Int → (Mem)
  | 0, Mx, _ => Mx
  | k1 + 1, Mx, ii => if (ii ≤ place) then (mst (mst Mx 0 (((64) + ((6) * table)) + place) napkin) 0 ((55) + table) (((mst Mx 0 (((64) + ((6) * table)) + place) napkin) 0 ((55) + table)) + (1))) else fX9_opensAt_L1 M table place napkin k1 (mst Mx 0 (((64) + ((6) * table)) + ii) (Mx 0 ((((64) + ((6) * table)) + ii) - (1)))) (ii + (-1))
def fX9_opensAt (M : Mem) (table place napkin : Int) : Mem := fX9_opensAt_L1 M table place napkin 8 M (M 0 ((55) + table))
set_option maxRecDepth 100000 in
set_option maxHeartbeats 4000000 in
theorem kX9_opensAt (l : Launch) (D : va_G) (E : Nat → Nat) (cI cC : ClassId) (Z : State → Prop) (hZo : ∀ M : Mem, ZOk (VG E cI cC M) Z) (hZb : ZBl Z) (M : Mem) (table place napkin : Int) (h1 : 0 ≤ table ∧ table < 3) (h2 : 0 ≤ place ∧ place ≤ 5) (h3 : 0 ≤ M 0 (55 + table) ∧ M 0 (55 + table) ≤ 5) (M' : Mem) (hE : fX9_opensAt M table place napkin = M') : Cv l yX9_opensAt wsX9_opensAt 0 0 [.ref (E 0), .int (iI table), .int (iI place), .int (iI napkin)] D (TY cI cC) (VG E cI cC) Z M M' := by
  refine Cv.of (cc := cX9_opensAt) (maxL := 5) (ret := none) (by decide +kernel) rfl (Nat.le_of_ble_eq_true rfl) ?_
  intro p e s m args below meth c ls hx hb hml hr hown hts hlocks hP hK hD hZ hS hl
  have hl : lv_has ls 5 [(0, .ref (E 0)), (1, .int (iI table)), (2, .int (iI place)), (3, .int (iI napkin))] := hl
  have S0 : CallFix p m c cX9_opensAt 5 s args wsX9_opensAt RX9 := ⟨hx, hb, hml, hown, hts⟩
  have hinX9 : ∀ w ∈ u_ws RX9 TX9 20, w ∈ wsX9_opensAt := by decide +kernel
  rw [fX9_opensAt] at hE
  refine lv_aload_n hx hb dX9_opensAt_0 rfl (lv_at hl 0 rfl) ?_
  refine va_get (own := RX9) (ref := "NapkinSyntaxModel") (C := RX9) (T := TX9) (N := 20) hx hb hts hinX9 hown hK hP 0 VG_0 rfl 0 (Nat.le_of_ble_eq_true rfl) (hts (.fieldLink RX9 7 "NapkinSyntaxModel" "g" "[I") (by decide +kernel)) (fun _ h => h) (v := .ref (E 1)) rfl dX9_opensAt_1 ?_
  refine z_bipush hx hb dX9_opensAt_4 (by decide +kernel) ?_
  refine lv_iload_n hx hb dX9_opensAt_6 rfl (lv_at hl 1 rfl) ?_
  refine z_iadd hx hb dX9_opensAt_7 ?_
  refine z_iald hx hb hK hP 1 0 VG_1 rfl (by omega) (by omega) (by decide) dX9_opensAt_8 ?_
  refine lv_istore hx hb dX9_opensAt_9 hl (Nat.le_of_ble_eq_true rfl) (lv' := [(4, .int (iI (M 0 ((55) + table)))), (0, .ref (E 0)), (1, .int (iI table)), (2, .int (iI place)), (3, .int (iI napkin))]) rfl (fun ls hl => ?_)
  have L1 : ∀ (k1 : Nat) (Mx : Mem) (ii : Int) (ls : Array Slot) (H : Heap) (locs : List Loc), lv_has ls 5 [(0, .ref (E 0)), (1, .int (iI table)), (2, .int (iI place)), (3, .int (iI napkin)), (4, .int (iI ii))] → va_P D vwCl (VG E cI cC Mx) H → va_D (wA (VG E cI cC M)) (VG E cI cC Mx) → va_S (wA (VG E cI cC M)) s.heap H locs → ((0 ≤ ii ∨ ii ≤ place) ∧ 0 ≤ ii ∧ ii ≤ 5) → (ii - place < (k1 : Int) ∧ 0 < (k1 : Int)) → fX9_opensAt_L1 M table place napkin k1 Mx ii = M' → W p l e (zRm 0 0) s m args below meth c H locs 0 0 (MQ below (cvQ D (VG E cI cC) M M') args s 0 0 (wA (VG E cI cC M))) (F0 m 11 ls []) := by
    intro k1
    induction k1 with
    | zero => intro Mx ii ls H locs hl hP hD hS i1 i3 hE; exfalso; omega
    | succ k1 ih1 =>
      intro Mx ii ls H locs hl hP hD hS i1 i3 hE
      rw [fX9_opensAt_L1] at hE
      refine lv_iload hx hb dX9_opensAt_11 (lv_at hl 4 rfl) ?_
      refine lv_iload_n hx hb dX9_opensAt_13 rfl (lv_at hl 2 rfl) ?_
      refine z_icmp_le hx hb dX9_opensAt_14 (tgt := 55) rfl (by omega) (by omega) (fun b1 => ?_) (fun b1 => ?_)
      · rw [if_pos b1] at hE
        refine lv_aload_n hx hb dX9_opensAt_55 rfl (lv_at hl 0 rfl) ?_
        refine va_get (own := RX9) (ref := "NapkinSyntaxModel") (C := RX9) (T := TX9) (N := 20) hx hb hts hinX9 hown hK hP 0 VG_0 rfl 0 (Nat.le_of_ble_eq_true rfl) (hts (.fieldLink RX9 7 "NapkinSyntaxModel" "g" "[I") (by decide +kernel)) (fun _ h => h) (v := .ref (E 1)) rfl dX9_opensAt_56 ?_
        refine z_bipush hx hb dX9_opensAt_59 (by decide +kernel) ?_
        refine z_bipush hx hb dX9_opensAt_61 (by decide +kernel) ?_
        refine lv_iload_n hx hb dX9_opensAt_63 rfl (lv_at hl 1 rfl) ?_
        refine z_imul hx hb dX9_opensAt_64 ?_
        refine z_iadd hx hb dX9_opensAt_65 ?_
        refine lv_iload_n hx hb dX9_opensAt_66 rfl (lv_at hl 2 rfl) ?_
        refine z_iadd hx hb dX9_opensAt_67 ?_
        refine lv_iload_n hx hb dX9_opensAt_68 rfl (lv_at hl 3 rfl) ?_
        refine z_iast hx hb hK hP hD hS 1 0 VG_1 rfl (by omega) (by omega) (by decide) dX9_opensAt_69 VGw_0 (fun H locs hP hD hS => ?_)
        refine lv_aload_n hx hb dX9_opensAt_70 rfl (lv_at hl 0 rfl) ?_
        refine va_get (own := RX9) (ref := "NapkinSyntaxModel") (C := RX9) (T := TX9) (N := 20) hx hb hts hinX9 hown hK hP 0 VG_0 rfl 0 (Nat.le_of_ble_eq_true rfl) (hts (.fieldLink RX9 7 "NapkinSyntaxModel" "g" "[I") (by decide +kernel)) (fun _ h => h) (v := .ref (E 1)) rfl dX9_opensAt_71 ?_
        refine z_bipush hx hb dX9_opensAt_74 (by decide +kernel) ?_
        refine lv_iload_n hx hb dX9_opensAt_76 rfl (lv_at hl 1 rfl) ?_
        refine z_iadd hx hb dX9_opensAt_77 ?_
        refine lv_dup2_11 hx hb dX9_opensAt_78 rfl rfl ?_
        refine z_iald hx hb hK hP 1 0 VG_1 rfl (by omega) (by omega) (by decide) dX9_opensAt_79 ?_
        refine z_iconst hx hb dX9_opensAt_80 ?_
        refine z_iadd hx hb dX9_opensAt_81 ?_
        refine z_iast hx hb hK hP hD hS 1 0 VG_1 rfl (by omega) (by omega) (by decide) dX9_opensAt_82 VGw_0 (fun H locs hP hD hS => ?_)
        subst hE
        exact cv_v hx hb hr hlocks hS hP dX9_opensAt_83
      · rw [if_neg b1] at hE
        refine lv_aload_n hx hb dX9_opensAt_17 rfl (lv_at hl 0 rfl) ?_
        refine va_get (own := RX9) (ref := "NapkinSyntaxModel") (C := RX9) (T := TX9) (N := 20) hx hb hts hinX9 hown hK hP 0 VG_0 rfl 0 (Nat.le_of_ble_eq_true rfl) (hts (.fieldLink RX9 7 "NapkinSyntaxModel" "g" "[I") (by decide +kernel)) (fun _ h => h) (v := .ref (E 1)) rfl dX9_opensAt_18 ?_
        refine z_bipush hx hb dX9_opensAt_21 (by decide +kernel) ?_
        refine z_bipush hx hb dX9_opensAt_23 (by decide +kernel) ?_
        refine lv_iload_n hx hb dX9_opensAt_25 rfl (lv_at hl 1 rfl) ?_
        refine z_imul hx hb dX9_opensAt_26 ?_
        refine z_iadd hx hb dX9_opensAt_27 ?_
        refine lv_iload hx hb dX9_opensAt_28 (lv_at hl 4 rfl) ?_
        refine z_iadd hx hb dX9_opensAt_30 ?_
        refine lv_aload_n hx hb dX9_opensAt_31 rfl (lv_at hl 0 rfl) ?_
        refine va_get (own := RX9) (ref := "NapkinSyntaxModel") (C := RX9) (T := TX9) (N := 20) hx hb hts hinX9 hown hK hP 0 VG_0 rfl 0 (Nat.le_of_ble_eq_true rfl) (hts (.fieldLink RX9 7 "NapkinSyntaxModel" "g" "[I") (by decide +kernel)) (fun _ h => h) (v := .ref (E 1)) rfl dX9_opensAt_32 ?_
        refine z_bipush hx hb dX9_opensAt_35 (by decide +kernel) ?_
        refine z_bipush hx hb dX9_opensAt_37 (by decide +kernel) ?_
        refine lv_iload_n hx hb dX9_opensAt_39 rfl (lv_at hl 1 rfl) ?_
        refine z_imul hx hb dX9_opensAt_40 ?_
        refine z_iadd hx hb dX9_opensAt_41 ?_
        refine lv_iload hx hb dX9_opensAt_42 (lv_at hl 4 rfl) ?_
        refine z_iadd hx hb dX9_opensAt_44 ?_
        refine z_iconst hx hb dX9_opensAt_45 ?_
        refine z_isub hx hb dX9_opensAt_46 ?_
        refine z_iald hx hb hK hP 1 0 VG_1 rfl (by omega) (by omega) (by decide) dX9_opensAt_47 ?_
        refine z_iast hx hb hK hP hD hS 1 0 VG_1 rfl (by omega) (by omega) (by decide) dX9_opensAt_48 VGw_0 (fun H locs hP hD hS => ?_)
        refine z_iinc hx hb dX9_opensAt_49 hl (k := 4) rfl (Nat.le_of_ble_eq_true rfl) (lv' := [(4, .int (iI (ii + (-1)))), (0, .ref (E 0)), (1, .int (iI table)), (2, .int (iI place)), (3, .int (iI napkin))]) rfl (fun ls hl => ?_)
        refine lv_goto hx hb dX9_opensAt_52 (tgt := 11) rfl ?_
        exact ih1 (mst Mx 0 (((64) + ((6) * table)) + ii) (Mx 0 ((((64) + ((6) * table)) + ii) - (1)))) (ii + (-1)) ls _ _ (lv_sub hl [1, 2, 3, 4, 0] rfl) hP hD hS (by omega) (by omega) hE
  exact L1 8 M (M 0 ((55) + table)) ls _ _ (lv_sub hl [1, 2, 3, 4, 0] rfl) hP hD hS (by omega) (by omega) hE

theorem fr_fX9_opensAt_L1 (M : Mem) (table place napkin : Int) {r : Nat} (h0 : Nat.beq r 0 = false) : ∀ (k : Nat) (Mx : Mem) (ii : Int), (fX9_opensAt_L1 M table place napkin k Mx ii) r = Mx r := by
  intro k
  induction k with
  | zero => intros; rfl
  | succ k ih =>
    intro Mx ii
    rw [fX9_opensAt_L1]
    (repeat' with_reducible refine frite_v (fun _ => ?_) (fun _ => ?_)) <;> first | with_reducible rfl | simp only [ih, mst_o, msf_o, mcp_o, h0]
theorem fr_fX9_opensAt {M : Mem} (table place napkin : Int) {r : Nat} (h0 : Nat.beq r 0 = false) : (fX9_opensAt M table place napkin) r = M r := by
  unfold fX9_opensAt
  (repeat' with_reducible refine frite_v (fun _ => ?_) (fun _ => ?_)) <;> first | with_reducible rfl | simp only [mst_o, msf_o, mcp_o, h0, fr_fX9_opensAt_L1]

def fX9_takes (M : Mem) (n : Int) : Int × Mem := if ((fX9_isNapkin M n) = 0) then ((fX9_fails M (1)).1, (fX9_fails M (1)).2) else if ((fX9_seatOf M n) = (-1)) then ((fX9_refused M (5) n (2)).1, (fX9_refused M (5) n (2)).2) else ((fX9_done (fX9_closesUp M ((fX9_seatOf M n) / (10)) ((fX9_seatOf M n) % (10))) ((fX9_seatOf M n) % (10))).1, (fX9_done (fX9_closesUp M ((fX9_seatOf M n) / (10)) ((fX9_seatOf M n) % (10))) ((fX9_seatOf M n) % (10))).2)
set_option maxRecDepth 100000 in
set_option maxHeartbeats 4000000 in
theorem kX9_takes (l : Launch) (D : va_G) (E : Nat → Nat) (cI cC : ClassId) (Z : State → Prop) (hZo : ∀ M : Mem, ZOk (VG E cI cC M) Z) (hZb : ZBl Z) (M : Mem) (n : Int) (h1 : -2147483648 ≤ n ∧ n < 2147483648) (hG : GI M) (r : Int) (M' : Mem) (hE : fX9_takes M n = (r, M')) : Ci l yX9_takes wsX9_takes 2 45 [.ref (E 0), .int (iI n)] D (TY cI cC) (VG E cI cC) Z M r M' := by
  refine Ci.of (cc := cX9_takes) (maxL := 3) (ret := (some .int)) (by decide +kernel) rfl (Nat.le_of_ble_eq_true rfl) ?_
  intro p e s m args below meth c ls hx hb hml hr hown hts hlocks hP hK hD hZ hS hl
  have hl : lv_has ls 3 [(0, .ref (E 0)), (1, .int (iI n))] := hl
  have S0 : CallFix p m c cX9_takes 3 s args wsX9_takes RX9 := ⟨hx, hb, hml, hown, hts⟩
  rw [fX9_takes] at hE
  refine lv_aload_n hx hb dX9_takes_0 rfl (lv_at hl 0 rfl) ?_
  refine lv_iload_n hx hb dX9_takes_1 rfl (lv_at hl 1 rfl) ?_
  refine ct_Vi (VG_fix E cI cC) hZo hZb hZ S0 (kX9_isNapkin l D E cI cC Z hZo hZb M n (by omega) hG (fX9_isNapkin M n) rfl) (cwV 1 hts gX9_takes_X9_isNapkin rfl rfl rfl (by decide +kernel) ⟨(Nat.le_of_ble_eq_true rfl), (Nat.le_of_ble_eq_true rfl)⟩) hK hP hD hS rfl rfl VG_0 rfl hl.1 rfl (Nat.le_of_ble_eq_true rfl) dX9_takes_2 ⟨Nat.zero_le _, Nat.zero_le _⟩ (fun H locs hP hD hS => ?_)
  have q1 := dX9_isNapkin hG n
  refine z_if_ne hx hb dX9_takes_5 (tgt := 14) rfl (by omega) (fun b2 => ?_) (fun b2 => ?_)
  · rw [if_neg b2] at hE
    refine lv_aload_n hx hb dX9_takes_14 rfl (lv_at hl 0 rfl) ?_
    refine lv_iload_n hx hb dX9_takes_15 rfl (lv_at hl 1 rfl) ?_
    refine ct_Vi (VG_fix E cI cC) hZo hZb hZ S0 (kX9_seatOf l D E cI cC Z hZo hZb M n (by omega) hG (fX9_seatOf M n) rfl) (cwV 1 hts gX9_takes_X9_seatOf rfl rfl rfl (by decide +kernel) ⟨(Nat.le_of_ble_eq_true rfl), (Nat.le_of_ble_eq_true rfl)⟩) hK hP hD hS rfl rfl VG_0 rfl hl.1 rfl (Nat.le_of_ble_eq_true rfl) dX9_takes_16 ⟨Nat.zero_le _, Nat.zero_le _⟩ (fun H locs hP hD hS => ?_)
    have q3 := rg_X9_seatOf hG n
    refine lv_istore_n hx hb dX9_takes_19 rfl hl (Nat.le_of_ble_eq_true rfl) (lv' := [(2, .int (iI (fX9_seatOf M n))), (0, .ref (E 0)), (1, .int (iI n))]) rfl (fun ls hl => ?_)
    refine lv_iload_n hx hb dX9_takes_20 rfl (lv_at hl 0 rfl) ?_
    refine z_iconst hx hb dX9_takes_21 ?_
    refine z_icmp_ne hx hb dX9_takes_22 (tgt := 33) rfl (by omega) (by omega) (fun b4 => ?_) (fun b4 => ?_)
    · rw [if_neg b4] at hE
      refine lv_aload_n hx hb dX9_takes_33 rfl (lv_at hl 1 rfl) ?_
      refine lv_iload_n hx hb dX9_takes_34 rfl (lv_at hl 0 rfl) ?_
      refine z_bipush hx hb dX9_takes_35 (by decide +kernel) ?_
      refine z_idiv hx hb dX9_takes_37 (by omega) (by omega) (by omega) (by omega) ?_
      refine lv_iload_n hx hb dX9_takes_38 rfl (lv_at hl 0 rfl) ?_
      refine z_bipush hx hb dX9_takes_39 (by decide +kernel) ?_
      refine z_irem hx hb dX9_takes_41 (by omega) (by omega) (by omega) (by omega) ?_
      refine ct_Vv (VG_fix E cI cC) hZo hZb hZ S0 (kX9_closesUp l D E cI cC Z hZo hZb M ((fX9_seatOf M n) / (10)) ((fX9_seatOf M n) % (10)) (by omega) (by omega) (fX9_closesUp M ((fX9_seatOf M n) / (10)) ((fX9_seatOf M n) % (10))) rfl) (cwV 2 hts gX9_takes_X9_closesUp rfl rfl rfl (by decide +kernel) ⟨(Nat.le_of_ble_eq_true rfl), (Nat.le_of_ble_eq_true rfl)⟩) hK hP hD hS rfl rfl VG_0 rfl hl.1 rfl (Nat.le_of_ble_eq_true rfl) dX9_takes_42 ⟨Nat.zero_le _, Nat.zero_le _⟩ (fun H locs hP hD hS => ?_)
      refine lv_aload_n hx hb dX9_takes_45 rfl (lv_at hl 1 rfl) ?_
      refine lv_iload_n hx hb dX9_takes_46 rfl (lv_at hl 0 rfl) ?_
      refine z_bipush hx hb dX9_takes_47 (by decide +kernel) ?_
      refine z_irem hx hb dX9_takes_49 (by omega) (by omega) (by omega) (by omega) ?_
      refine ct_Vi (VG_fix E cI cC) hZo hZb hZ S0 (kX9_done l D E cI cC Z hZo hZb (fX9_closesUp M ((fX9_seatOf M n) / (10)) ((fX9_seatOf M n) % (10))) ((fX9_seatOf M n) % (10))  (fX9_done (fX9_closesUp M ((fX9_seatOf M n) / (10)) ((fX9_seatOf M n) % (10))) ((fX9_seatOf M n) % (10))).1 (fX9_done (fX9_closesUp M ((fX9_seatOf M n) / (10)) ((fX9_seatOf M n) % (10))) ((fX9_seatOf M n) % (10))).2 (Prod.ext rfl rfl)) (cwV 1 hts gX9_takes_X9_done rfl rfl rfl (by decide +kernel) ⟨(Nat.le_of_ble_eq_true rfl), (Nat.le_of_ble_eq_true rfl)⟩) hK hP hD hS rfl rfl VG_0 rfl hl.1 rfl (Nat.le_of_ble_eq_true rfl) dX9_takes_50 ⟨Nat.zero_le _, Nat.zero_le _⟩ (fun H locs hP hD hS => ?_)
      obtain ⟨e1, e2⟩ := Prod.mk.inj hE
      subst e2
      exact ci_i hx hb hr hlocks e1 rfl hS hP dX9_takes_53
    · rw [if_pos b4] at hE
      refine lv_aload_n hx hb dX9_takes_25 rfl (lv_at hl 1 rfl) ?_
      refine z_iconst hx hb dX9_takes_26 ?_
      refine lv_iload_n hx hb dX9_takes_27 rfl (lv_at hl 2 rfl) ?_
      refine z_iconst hx hb dX9_takes_28 ?_
      refine ct_Vi (VG_fix E cI cC) hZo hZb hZ S0 (kX9_refused l D E cI cC Z hZo hZb M (5) n (2)  (fX9_refused M (5) n (2)).1 (fX9_refused M (5) n (2)).2 (Prod.ext rfl rfl)) (cwV 3 hts gX9_takes_X9_refused rfl rfl rfl (by decide +kernel) ⟨(Nat.le_of_ble_eq_true rfl), (Nat.le_of_ble_eq_true rfl)⟩) hK hP hD hS rfl rfl VG_0 rfl hl.1 rfl (Nat.le_of_ble_eq_true rfl) dX9_takes_29 ⟨Nat.zero_le _, Nat.zero_le _⟩ (fun H locs hP hD hS => ?_)
      obtain ⟨e1, e2⟩ := Prod.mk.inj hE
      subst e2
      exact ci_i hx hb hr hlocks e1 rfl hS hP dX9_takes_32
  · rw [if_pos b2] at hE
    refine lv_aload_n hx hb dX9_takes_8 rfl (lv_at hl 0 rfl) ?_
    refine z_iconst hx hb dX9_takes_9 ?_
    refine ct_Vi (VG_fix E cI cC) hZo hZb hZ S0 (kX9_fails l D E cI cC Z hZo hZb M (1)  (fX9_fails M (1)).1 (fX9_fails M (1)).2 (Prod.ext rfl rfl)) (cwV 1 hts gX9_takes_X9_fails rfl rfl rfl (by decide +kernel) ⟨(Nat.le_of_ble_eq_true rfl), (Nat.le_of_ble_eq_true rfl)⟩) hK hP hD hS rfl rfl VG_0 rfl hl.1 rfl (Nat.le_of_ble_eq_true rfl) dX9_takes_10 ⟨Nat.zero_le _, Nat.zero_le _⟩ (fun H locs hP hD hS => ?_)
    obtain ⟨e1, e2⟩ := Prod.mk.inj hE
    subst e2
    exact ci_i hx hb hr hlocks e1 rfl hS hP dX9_takes_13

theorem fr_fX9_takes {M : Mem} (n : Int) {r : Nat} (h0 : Nat.beq r 0 = false) (h19 : Nat.beq r 19 = false) (h20 : Nat.beq r 20 = false) (h21 : Nat.beq r 21 = false) (h22 : Nat.beq r 22 = false) (h23 : Nat.beq r 23 = false) (h26 : Nat.beq r 26 = false) : (fX9_takes M n).2 r = M r := by
  unfold fX9_takes
  (repeat' with_reducible refine frite_w (fun _ => ?_) (fun _ => ?_)) <;> first | with_reducible rfl | simp only [mst_o, msf_o, mcp_o, fr_fX9_closesUp, fr_fX9_done, fr_fX9_fails, fr_fX9_refused, h0, h19, h20, h21, h22, h23, h26]


theorem many_closesUp_L {M : Mem} (t p : Int) : ∀ (k : Nat) (Mx : Mem) (i : Int), 0 ≤ t → t < 3 → 0 ≤ i → 6 - i < k → 0 < (k : Int) → ∃ My : Mem, My 0 (55 + t) = Mx 0 (55 + t) ∧ fX9_closesUp_L1 M t p k Mx i = mst My 0 (55 + t) (My 0 (55 + t) - 1) := by
  intro k
  induction k with
  | zero => intro Mx i _ _ _ _ h; exact absurd h (by decide)
  | succ k ih =>
    intro Mx i h1 h2 h3 h4 h5
    rw [fX9_closesUp_L1]
    split
    · exact ⟨Mx, rfl, rfl⟩
    · have nq : ∀ v : Int, mst Mx 0 (64 + 6 * t + i) v 0 (55 + t) = Mx 0 (55 + t) := fun v => by
        show up (Mx 0) (64 + 6 * t + i) v (55 + t) = _
        rw [up_n (by omega)]
      split
      · obtain ⟨My, e1, e2⟩ := ih _ (i + 1) h1 h2 (by omega) (by omega) (by omega)
        exact ⟨My, e1.trans (nq _), e2⟩
      · obtain ⟨My, e1, e2⟩ := ih _ (i + 1) h1 h2 (by omega) (by omega) (by omega)
        exact ⟨My, e1.trans (nq _), e2⟩
theorem many_closesUp {M : Mem} (t p : Int) (h1 : 0 ≤ t ∧ t < 3) (h2 : 0 ≤ p) : fX9_closesUp M t p 0 (55 + t) = M 0 (55 + t) - 1 := by
  obtain ⟨My, e1, e2⟩ := many_closesUp_L (M := M) t p 8 M p h1.1 h1.2 h2 (by omega) (by decide)
  have e3 : fX9_closesUp M t p = mst My 0 (55 + t) (My 0 (55 + t) - 1) := e2
  rw [e3]
  show up (My 0) (55 + t) (My 0 (55 + t) - 1) (55 + t) = _
  rw [up_e, e1]

def fX9_moves (M : Mem) (table fro to : Int) : Int × Mem := if ((fX9_isTable table) = 0) then ((fX9_fails M (1)).1, (fX9_fails M (1)).2) else if ((fX9_in fro (0) ((M 0 ((55) + table)) - (1))) = 0) then ((fX9_fails M (1)).1, (fX9_fails M (1)).2) else if ((fX9_in to (0) ((M 0 ((55) + table)) - (1))) = 0) then ((fX9_fails M (1)).1, (fX9_fails M (1)).2) else if (fro = to) then ((fX9_refused M (2) to (2)).1, (fX9_refused M (2) to (2)).2) else ((fX9_done (fX9_opensAt (fX9_closesUp M table fro) table to (fX9_at M table fro)) (fX9_at M table fro)).1, (fX9_done (fX9_opensAt (fX9_closesUp M table fro) table to (fX9_at M table fro)) (fX9_at M table fro)).2)
set_option maxRecDepth 100000 in
set_option maxHeartbeats 4000000 in
theorem kX9_moves (l : Launch) (D : va_G) (E : Nat → Nat) (cI cC : ClassId) (Z : State → Prop) (hZo : ∀ M : Mem, ZOk (VG E cI cC M) Z) (hZb : ZBl Z) (M : Mem) (table fro to : Int) (h1 : -2147483648 ≤ table ∧ table < 2147483648) (h2 : -2147483648 ≤ fro ∧ fro < 2147483648) (h3 : -2147483648 ≤ to ∧ to < 2147483648) (hG : GI M) (r : Int) (M' : Mem) (hE : fX9_moves M table fro to = (r, M')) : Ci l yX9_moves wsX9_moves 2 42 [.ref (E 0), .int (iI table), .int (iI fro), .int (iI to)] D (TY cI cC) (VG E cI cC) Z M r M' := by
  refine Ci.of (cc := cX9_moves) (maxL := 5) (ret := (some .int)) (by decide +kernel) rfl (Nat.le_of_ble_eq_true rfl) ?_
  intro p e s m args below meth c ls hx hb hml hr hown hts hlocks hP hK hD hZ hS hl
  have hl : lv_has ls 5 [(0, .ref (E 0)), (1, .int (iI table)), (2, .int (iI fro)), (3, .int (iI to))] := hl
  have S0 : CallFix p m c cX9_moves 5 s args wsX9_moves RX9 := ⟨hx, hb, hml, hown, hts⟩
  have hinX9 : ∀ w ∈ u_ws RX9 TX9 20, w ∈ wsX9_moves := by decide +kernel
  rw [fX9_moves] at hE
  refine lv_iload_n hx hb dX9_moves_0 rfl (lv_at hl 1 rfl) ?_
  refine ct_Si (VG_fix E cI cC) hZo hZb hZ S0 (kX9_isTable l D E cI cC Z hZo hZb M table (by omega) (fX9_isTable table) rfl) (va_cwS 1 hts gX9_moves_X9_isTable rfl rfl rfl (by decide +kernel) ⟨(Nat.le_of_ble_eq_true rfl), (Nat.le_of_ble_eq_true rfl)⟩) hK hP hD hS rfl hl.1 rfl (Nat.le_of_ble_eq_true rfl) dX9_moves_1 ⟨Nat.zero_le _, Nat.zero_le _⟩ (fun H locs hP hD hS => ?_)
  have q1 := dX9_isTable table
  refine z_if_eq hx hb dX9_moves_4 (tgt := 45) rfl (by omega) (fun b2 => ?_) (fun b2 => ?_)
  · rw [if_pos b2] at hE
    refine lv_aload_n hx hb dX9_moves_45 rfl (lv_at hl 0 rfl) ?_
    refine z_iconst hx hb dX9_moves_46 ?_
    refine ct_Vi (VG_fix E cI cC) hZo hZb hZ S0 (kX9_fails l D E cI cC Z hZo hZb M (1)  (fX9_fails M (1)).1 (fX9_fails M (1)).2 (Prod.ext rfl rfl)) (cwV 1 hts gX9_moves_X9_fails rfl rfl rfl (by decide +kernel) ⟨(Nat.le_of_ble_eq_true rfl), (Nat.le_of_ble_eq_true rfl)⟩) hK hP hD hS rfl rfl VG_0 rfl hl.1 rfl (Nat.le_of_ble_eq_true rfl) dX9_moves_47 ⟨Nat.zero_le _, Nat.zero_le _⟩ (fun H locs hP hD hS => ?_)
    obtain ⟨e1, e2⟩ := Prod.mk.inj hE
    subst e2
    exact ci_i hx hb hr hlocks e1 rfl hS hP dX9_moves_50
  · rw [if_neg b2] at hE
    refine lv_iload_n hx hb dX9_moves_7 rfl (lv_at hl 2 rfl) ?_
    refine z_iconst hx hb dX9_moves_8 ?_
    refine lv_aload_n hx hb dX9_moves_9 rfl (lv_at hl 0 rfl) ?_
    refine va_get (own := RX9) (ref := "NapkinSyntaxModel") (C := RX9) (T := TX9) (N := 20) hx hb hts hinX9 hown hK hP 0 VG_0 rfl 0 (Nat.le_of_ble_eq_true rfl) (hts (.fieldLink RX9 7 "NapkinSyntaxModel" "g" "[I") (by decide +kernel)) (fun _ h => h) (v := .ref (E 1)) rfl dX9_moves_10 ?_
    refine z_bipush hx hb dX9_moves_13 (by decide +kernel) ?_
    refine lv_iload_n hx hb dX9_moves_15 rfl (lv_at hl 1 rfl) ?_
    refine z_iadd hx hb dX9_moves_16 ?_
    refine z_iald hx hb hK hP 1 0 VG_1 rfl (by omega) (by omega) (by decide) dX9_moves_17 ?_
    have q3 := GI_55 hG ((55) + table) (by omega) (by omega)
    refine z_iconst hx hb dX9_moves_18 ?_
    refine z_isub hx hb dX9_moves_19 ?_
    refine ct_Si (VG_fix E cI cC) hZo hZb hZ S0 (kX9_in l D E cI cC Z hZo hZb M fro (0) ((M 0 ((55) + table)) - (1)) (by omega) (by omega) (by omega) (fX9_in fro (0) ((M 0 ((55) + table)) - (1))) rfl) (va_cwS 3 hts gX9_moves_X9_in rfl rfl rfl (by decide +kernel) ⟨(Nat.le_of_ble_eq_true rfl), (Nat.le_of_ble_eq_true rfl)⟩) hK hP hD hS rfl hl.1 rfl (Nat.le_of_ble_eq_true rfl) dX9_moves_20 ⟨Nat.zero_le _, Nat.zero_le _⟩ (fun H locs hP hD hS => ?_)
    have q4 := dX9_in fro (0) ((M 0 ((55) + table)) - (1))
    refine z_if_eq hx hb dX9_moves_23 (tgt := 45) rfl (by omega) (fun b5 => ?_) (fun b5 => ?_)
    · rw [if_pos b5] at hE
      refine lv_aload_n hx hb dX9_moves_45 rfl (lv_at hl 0 rfl) ?_
      refine z_iconst hx hb dX9_moves_46 ?_
      refine ct_Vi (VG_fix E cI cC) hZo hZb hZ S0 (kX9_fails l D E cI cC Z hZo hZb M (1)  (fX9_fails M (1)).1 (fX9_fails M (1)).2 (Prod.ext rfl rfl)) (cwV 1 hts gX9_moves_X9_fails rfl rfl rfl (by decide +kernel) ⟨(Nat.le_of_ble_eq_true rfl), (Nat.le_of_ble_eq_true rfl)⟩) hK hP hD hS rfl rfl VG_0 rfl hl.1 rfl (Nat.le_of_ble_eq_true rfl) dX9_moves_47 ⟨Nat.zero_le _, Nat.zero_le _⟩ (fun H locs hP hD hS => ?_)
      obtain ⟨e1, e2⟩ := Prod.mk.inj hE
      subst e2
      exact ci_i hx hb hr hlocks e1 rfl hS hP dX9_moves_50
    · rw [if_neg b5] at hE
      refine lv_iload_n hx hb dX9_moves_26 rfl (lv_at hl 3 rfl) ?_
      refine z_iconst hx hb dX9_moves_27 ?_
      refine lv_aload_n hx hb dX9_moves_28 rfl (lv_at hl 0 rfl) ?_
      refine va_get (own := RX9) (ref := "NapkinSyntaxModel") (C := RX9) (T := TX9) (N := 20) hx hb hts hinX9 hown hK hP 0 VG_0 rfl 0 (Nat.le_of_ble_eq_true rfl) (hts (.fieldLink RX9 7 "NapkinSyntaxModel" "g" "[I") (by decide +kernel)) (fun _ h => h) (v := .ref (E 1)) rfl dX9_moves_29 ?_
      refine z_bipush hx hb dX9_moves_32 (by decide +kernel) ?_
      refine lv_iload_n hx hb dX9_moves_34 rfl (lv_at hl 1 rfl) ?_
      refine z_iadd hx hb dX9_moves_35 ?_
      refine z_iald hx hb hK hP 1 0 VG_1 rfl (by omega) (by omega) (by decide) dX9_moves_36 ?_
      have q6 := GI_55 hG ((55) + table) (by omega) (by omega)
      refine z_iconst hx hb dX9_moves_37 ?_
      refine z_isub hx hb dX9_moves_38 ?_
      refine ct_Si (VG_fix E cI cC) hZo hZb hZ S0 (kX9_in l D E cI cC Z hZo hZb M to (0) ((M 0 ((55) + table)) - (1)) (by omega) (by omega) (by omega) (fX9_in to (0) ((M 0 ((55) + table)) - (1))) rfl) (va_cwS 3 hts gX9_moves_X9_in rfl rfl rfl (by decide +kernel) ⟨(Nat.le_of_ble_eq_true rfl), (Nat.le_of_ble_eq_true rfl)⟩) hK hP hD hS rfl hl.1 rfl (Nat.le_of_ble_eq_true rfl) dX9_moves_39 ⟨Nat.zero_le _, Nat.zero_le _⟩ (fun H locs hP hD hS => ?_)
      have q7 := dX9_in to (0) ((M 0 ((55) + table)) - (1))
      refine z_if_ne hx hb dX9_moves_42 (tgt := 51) rfl (by omega) (fun b8 => ?_) (fun b8 => ?_)
      · rw [if_neg b8] at hE
        refine lv_iload_n hx hb dX9_moves_51 rfl (lv_at hl 2 rfl) ?_
        refine lv_iload_n hx hb dX9_moves_52 rfl (lv_at hl 3 rfl) ?_
        refine z_icmp_ne hx hb dX9_moves_53 (tgt := 64) rfl (by omega) (by omega) (fun b9 => ?_) (fun b9 => ?_)
        · rw [if_neg b9] at hE
          refine lv_aload_n hx hb dX9_moves_64 rfl (lv_at hl 0 rfl) ?_
          refine lv_iload_n hx hb dX9_moves_65 rfl (lv_at hl 1 rfl) ?_
          refine lv_iload_n hx hb dX9_moves_66 rfl (lv_at hl 2 rfl) ?_
          refine ct_Vi (VG_fix E cI cC) hZo hZb hZ S0 (kX9_at l D E cI cC Z hZo hZb M table fro (by omega) (by omega) (fX9_at M table fro) rfl) (cwV 2 hts gX9_moves_X9_at rfl rfl rfl (by decide +kernel) ⟨(Nat.le_of_ble_eq_true rfl), (Nat.le_of_ble_eq_true rfl)⟩) hK hP hD hS rfl rfl VG_0 rfl hl.1 rfl (Nat.le_of_ble_eq_true rfl) dX9_moves_67 ⟨Nat.zero_le _, Nat.zero_le _⟩ (fun H locs hP hD hS => ?_)
          have q10 := rg_X9_at hG table fro (by omega) (by omega)
          refine lv_istore hx hb dX9_moves_70 hl (Nat.le_of_ble_eq_true rfl) (lv' := [(4, .int (iI (fX9_at M table fro))), (0, .ref (E 0)), (1, .int (iI table)), (2, .int (iI fro)), (3, .int (iI to))]) rfl (fun ls hl => ?_)
          refine lv_aload_n hx hb dX9_moves_72 rfl (lv_at hl 1 rfl) ?_
          refine lv_iload_n hx hb dX9_moves_73 rfl (lv_at hl 2 rfl) ?_
          refine lv_iload_n hx hb dX9_moves_74 rfl (lv_at hl 3 rfl) ?_
          refine ct_Vv (VG_fix E cI cC) hZo hZb hZ S0 (kX9_closesUp l D E cI cC Z hZo hZb M table fro (by omega) (by omega) (fX9_closesUp M table fro) rfl) (cwV 2 hts gX9_moves_X9_closesUp rfl rfl rfl (by decide +kernel) ⟨(Nat.le_of_ble_eq_true rfl), (Nat.le_of_ble_eq_true rfl)⟩) hK hP hD hS rfl rfl VG_0 rfl hl.1 rfl (Nat.le_of_ble_eq_true rfl) dX9_moves_75 ⟨Nat.zero_le _, Nat.zero_le _⟩ (fun H locs hP hD hS => ?_)
          refine lv_aload_n hx hb dX9_moves_78 rfl (lv_at hl 1 rfl) ?_
          refine lv_iload_n hx hb dX9_moves_79 rfl (lv_at hl 2 rfl) ?_
          refine lv_iload_n hx hb dX9_moves_80 rfl (lv_at hl 4 rfl) ?_
          refine lv_iload hx hb dX9_moves_81 (lv_at hl 0 rfl) ?_
          refine ct_Vv (VG_fix E cI cC) hZo hZb hZ S0 (kX9_opensAt l D E cI cC Z hZo hZb (fX9_closesUp M table fro) table to (fX9_at M table fro) (by omega) (by omega) (by have := many_closesUp (M := M) table fro (by omega) (by omega); have := GI_55 hG (55 + table) (by omega) (by omega); omega) (fX9_opensAt (fX9_closesUp M table fro) table to (fX9_at M table fro)) rfl) (cwV 3 hts gX9_moves_X9_opensAt rfl rfl rfl (by decide +kernel) ⟨(Nat.le_of_ble_eq_true rfl), (Nat.le_of_ble_eq_true rfl)⟩) hK hP hD hS rfl rfl VG_0 rfl hl.1 rfl (Nat.le_of_ble_eq_true rfl) dX9_moves_83 ⟨Nat.zero_le _, Nat.zero_le _⟩ (fun H locs hP hD hS => ?_)
          refine lv_aload_n hx hb dX9_moves_86 rfl (lv_at hl 1 rfl) ?_
          refine lv_iload hx hb dX9_moves_87 (lv_at hl 0 rfl) ?_
          refine ct_Vi (VG_fix E cI cC) hZo hZb hZ S0 (kX9_done l D E cI cC Z hZo hZb (fX9_opensAt (fX9_closesUp M table fro) table to (fX9_at M table fro)) (fX9_at M table fro)  (fX9_done (fX9_opensAt (fX9_closesUp M table fro) table to (fX9_at M table fro)) (fX9_at M table fro)).1 (fX9_done (fX9_opensAt (fX9_closesUp M table fro) table to (fX9_at M table fro)) (fX9_at M table fro)).2 (Prod.ext rfl rfl)) (cwV 1 hts gX9_moves_X9_done rfl rfl rfl (by decide +kernel) ⟨(Nat.le_of_ble_eq_true rfl), (Nat.le_of_ble_eq_true rfl)⟩) hK hP hD hS rfl rfl VG_0 rfl hl.1 rfl (Nat.le_of_ble_eq_true rfl) dX9_moves_89 ⟨Nat.zero_le _, Nat.zero_le _⟩ (fun H locs hP hD hS => ?_)
          obtain ⟨e1, e2⟩ := Prod.mk.inj hE
          subst e2
          exact ci_i hx hb hr hlocks e1 rfl hS hP dX9_moves_92
        · rw [if_pos b9] at hE
          refine lv_aload_n hx hb dX9_moves_56 rfl (lv_at hl 0 rfl) ?_
          refine z_iconst hx hb dX9_moves_57 ?_
          refine lv_iload_n hx hb dX9_moves_58 rfl (lv_at hl 3 rfl) ?_
          refine z_iconst hx hb dX9_moves_59 ?_
          refine ct_Vi (VG_fix E cI cC) hZo hZb hZ S0 (kX9_refused l D E cI cC Z hZo hZb M (2) to (2)  (fX9_refused M (2) to (2)).1 (fX9_refused M (2) to (2)).2 (Prod.ext rfl rfl)) (cwV 3 hts gX9_moves_X9_refused rfl rfl rfl (by decide +kernel) ⟨(Nat.le_of_ble_eq_true rfl), (Nat.le_of_ble_eq_true rfl)⟩) hK hP hD hS rfl rfl VG_0 rfl hl.1 rfl (Nat.le_of_ble_eq_true rfl) dX9_moves_60 ⟨Nat.zero_le _, Nat.zero_le _⟩ (fun H locs hP hD hS => ?_)
          obtain ⟨e1, e2⟩ := Prod.mk.inj hE
          subst e2
          exact ci_i hx hb hr hlocks e1 rfl hS hP dX9_moves_63
      · rw [if_pos b8] at hE
        refine lv_aload_n hx hb dX9_moves_45 rfl (lv_at hl 0 rfl) ?_
        refine z_iconst hx hb dX9_moves_46 ?_
        refine ct_Vi (VG_fix E cI cC) hZo hZb hZ S0 (kX9_fails l D E cI cC Z hZo hZb M (1)  (fX9_fails M (1)).1 (fX9_fails M (1)).2 (Prod.ext rfl rfl)) (cwV 1 hts gX9_moves_X9_fails rfl rfl rfl (by decide +kernel) ⟨(Nat.le_of_ble_eq_true rfl), (Nat.le_of_ble_eq_true rfl)⟩) hK hP hD hS rfl rfl VG_0 rfl hl.1 rfl (Nat.le_of_ble_eq_true rfl) dX9_moves_47 ⟨Nat.zero_le _, Nat.zero_le _⟩ (fun H locs hP hD hS => ?_)
        obtain ⟨e1, e2⟩ := Prod.mk.inj hE
        subst e2
        exact ci_i hx hb hr hlocks e1 rfl hS hP dX9_moves_50

theorem fr_fX9_moves {M : Mem} (table fro to : Int) {r : Nat} (h0 : Nat.beq r 0 = false) (h19 : Nat.beq r 19 = false) (h20 : Nat.beq r 20 = false) (h21 : Nat.beq r 21 = false) (h22 : Nat.beq r 22 = false) (h23 : Nat.beq r 23 = false) (h26 : Nat.beq r 26 = false) : (fX9_moves M table fro to).2 r = M r := by
  unfold fX9_moves
  (repeat' with_reducible refine frite_w (fun _ => ?_) (fun _ => ?_)) <;> first | with_reducible rfl | simp only [mst_o, msf_o, mcp_o, fr_fX9_closesUp, fr_fX9_done, fr_fX9_fails, fr_fX9_opensAt, fr_fX9_refused, h0, h19, h20, h21, h22, h23, h26]

def fX9_stains (M : Mem) (n much : Int) : Int × Mem := if ((fX9_isNapkin M n) = 0) then ((fX9_fails M (1)).1, (fX9_fails M (1)).2) else if ((fX9_in much (1) (9)) = 0) then ((fX9_fails M (2)).1, (fX9_fails M (2)).2) else if (((M 0 ((35) + n)) + much) ≤ (9)) then ((fX9_done (mst M 0 ((35) + n) ((M 0 ((35) + n)) + much)) ((mst M 0 ((35) + n) ((M 0 ((35) + n)) + much)) 0 ((35) + n))).1, (fX9_done (mst M 0 ((35) + n) ((M 0 ((35) + n)) + much)) ((mst M 0 ((35) + n) ((M 0 ((35) + n)) + much)) 0 ((35) + n))).2) else ((fX9_refused M (6) (M 0 ((35) + n)) (3)).1, (fX9_refused M (6) (M 0 ((35) + n)) (3)).2)
set_option maxRecDepth 100000 in
set_option maxHeartbeats 4000000 in
theorem kX9_stains (l : Launch) (D : va_G) (E : Nat → Nat) (cI cC : ClassId) (Z : State → Prop) (hZo : ∀ M : Mem, ZOk (VG E cI cC M) Z) (hZb : ZBl Z) (M : Mem) (n much : Int) (h1 : -2147483648 ≤ n ∧ n < 2147483648) (h2 : -2147483648 ≤ much ∧ much < 2147483648) (hG : GI M) (r : Int) (M' : Mem) (hE : fX9_stains M n much = (r, M')) : Ci l yX9_stains wsX9_stains 2 43 [.ref (E 0), .int (iI n), .int (iI much)] D (TY cI cC) (VG E cI cC) Z M r M' := by
  refine Ci.of (cc := cX9_stains) (maxL := 3) (ret := (some .int)) (by decide +kernel) rfl (Nat.le_of_ble_eq_true rfl) ?_
  intro p e s m args below meth c ls hx hb hml hr hown hts hlocks hP hK hD hZ hS hl
  have hl : lv_has ls 3 [(0, .ref (E 0)), (1, .int (iI n)), (2, .int (iI much))] := hl
  have S0 : CallFix p m c cX9_stains 3 s args wsX9_stains RX9 := ⟨hx, hb, hml, hown, hts⟩
  have hinX9 : ∀ w ∈ u_ws RX9 TX9 20, w ∈ wsX9_stains := by decide +kernel
  rw [fX9_stains] at hE
  refine lv_aload_n hx hb dX9_stains_0 rfl (lv_at hl 0 rfl) ?_
  refine lv_iload_n hx hb dX9_stains_1 rfl (lv_at hl 1 rfl) ?_
  refine ct_Vi (VG_fix E cI cC) hZo hZb hZ S0 (kX9_isNapkin l D E cI cC Z hZo hZb M n (by omega) hG (fX9_isNapkin M n) rfl) (cwV 1 hts gX9_stains_X9_isNapkin rfl rfl rfl (by decide +kernel) ⟨(Nat.le_of_ble_eq_true rfl), (Nat.le_of_ble_eq_true rfl)⟩) hK hP hD hS rfl rfl VG_0 rfl hl.1 rfl (Nat.le_of_ble_eq_true rfl) dX9_stains_2 ⟨Nat.zero_le _, Nat.zero_le _⟩ (fun H locs hP hD hS => ?_)
  have q1 := dX9_isNapkin hG n
  refine z_if_ne hx hb dX9_stains_5 (tgt := 14) rfl (by omega) (fun b2 => ?_) (fun b2 => ?_)
  · rw [if_neg b2] at hE
    refine lv_iload_n hx hb dX9_stains_14 rfl (lv_at hl 2 rfl) ?_
    refine z_iconst hx hb dX9_stains_15 ?_
    refine z_bipush hx hb dX9_stains_16 (by decide +kernel) ?_
    refine ct_Si (VG_fix E cI cC) hZo hZb hZ S0 (kX9_in l D E cI cC Z hZo hZb M much (1) (9) (by omega) (by omega) (by omega) (fX9_in much (1) (9)) rfl) (va_cwS 3 hts gX9_stains_X9_in rfl rfl rfl (by decide +kernel) ⟨(Nat.le_of_ble_eq_true rfl), (Nat.le_of_ble_eq_true rfl)⟩) hK hP hD hS rfl hl.1 rfl (Nat.le_of_ble_eq_true rfl) dX9_stains_18 ⟨Nat.zero_le _, Nat.zero_le _⟩ (fun H locs hP hD hS => ?_)
    have q3 := dX9_in much (1) (9)
    refine z_if_ne hx hb dX9_stains_21 (tgt := 30) rfl (by omega) (fun b4 => ?_) (fun b4 => ?_)
    · rw [if_neg b4] at hE
      refine lv_aload_n hx hb dX9_stains_30 rfl (lv_at hl 0 rfl) ?_
      refine va_get (own := RX9) (ref := "NapkinSyntaxModel") (C := RX9) (T := TX9) (N := 20) hx hb hts hinX9 hown hK hP 0 VG_0 rfl 0 (Nat.le_of_ble_eq_true rfl) (hts (.fieldLink RX9 7 "NapkinSyntaxModel" "g" "[I") (by decide +kernel)) (fun _ h => h) (v := .ref (E 1)) rfl dX9_stains_31 ?_
      refine z_bipush hx hb dX9_stains_34 (by decide +kernel) ?_
      refine lv_iload_n hx hb dX9_stains_36 rfl (lv_at hl 1 rfl) ?_
      refine z_iadd hx hb dX9_stains_37 ?_
      refine z_iald hx hb hK hP 1 0 VG_1 rfl (by omega) (by omega) (by decide) dX9_stains_38 ?_
      have q5 := GI_35 hG ((35) + n) (by omega) (by omega)
      refine lv_iload_n hx hb dX9_stains_39 rfl (lv_at hl 2 rfl) ?_
      refine z_iadd hx hb dX9_stains_40 ?_
      refine z_bipush hx hb dX9_stains_41 (by decide +kernel) ?_
      refine z_icmp_le hx hb dX9_stains_43 (tgt := 63) rfl (by omega) (by omega) (fun b6 => ?_) (fun b6 => ?_)
      · rw [if_pos b6] at hE
        refine lv_aload_n hx hb dX9_stains_63 rfl (lv_at hl 0 rfl) ?_
        refine va_get (own := RX9) (ref := "NapkinSyntaxModel") (C := RX9) (T := TX9) (N := 20) hx hb hts hinX9 hown hK hP 0 VG_0 rfl 0 (Nat.le_of_ble_eq_true rfl) (hts (.fieldLink RX9 7 "NapkinSyntaxModel" "g" "[I") (by decide +kernel)) (fun _ h => h) (v := .ref (E 1)) rfl dX9_stains_64 ?_
        refine z_bipush hx hb dX9_stains_67 (by decide +kernel) ?_
        refine lv_iload_n hx hb dX9_stains_69 rfl (lv_at hl 1 rfl) ?_
        refine z_iadd hx hb dX9_stains_70 ?_
        refine lv_dup2_11 hx hb dX9_stains_71 rfl rfl ?_
        refine z_iald hx hb hK hP 1 0 VG_1 rfl (by omega) (by omega) (by decide) dX9_stains_72 ?_
        have q7 := GI_35 hG ((35) + n) (by omega) (by omega)
        refine lv_iload_n hx hb dX9_stains_73 rfl (lv_at hl 2 rfl) ?_
        refine z_iadd hx hb dX9_stains_74 ?_
        refine z_iast hx hb hK hP hD hS 1 0 VG_1 rfl (by omega) (by omega) (by decide) dX9_stains_75 VGw_0 (fun H locs hP hD hS => ?_)
        refine lv_aload_n hx hb dX9_stains_76 rfl (lv_at hl 0 rfl) ?_
        refine lv_aload_n hx hb dX9_stains_77 rfl (lv_at hl 0 rfl) ?_
        refine va_get (own := RX9) (ref := "NapkinSyntaxModel") (C := RX9) (T := TX9) (N := 20) hx hb hts hinX9 hown hK hP 0 VG_0 rfl 0 (Nat.le_of_ble_eq_true rfl) (hts (.fieldLink RX9 7 "NapkinSyntaxModel" "g" "[I") (by decide +kernel)) (fun _ h => h) (v := .ref (E 1)) rfl dX9_stains_78 ?_
        refine z_bipush hx hb dX9_stains_81 (by decide +kernel) ?_
        refine lv_iload_n hx hb dX9_stains_83 rfl (lv_at hl 1 rfl) ?_
        refine z_iadd hx hb dX9_stains_84 ?_
        refine z_iald hx hb hK hP 1 0 VG_1 rfl (by omega) (by omega) (by decide) dX9_stains_85 ?_
        refine ct_Vi (VG_fix E cI cC) hZo hZb hZ S0 (kX9_done l D E cI cC Z hZo hZb (mst M 0 ((35) + n) ((M 0 ((35) + n)) + much)) ((mst M 0 ((35) + n) ((M 0 ((35) + n)) + much)) 0 ((35) + n))  (fX9_done (mst M 0 ((35) + n) ((M 0 ((35) + n)) + much)) ((mst M 0 ((35) + n) ((M 0 ((35) + n)) + much)) 0 ((35) + n))).1 (fX9_done (mst M 0 ((35) + n) ((M 0 ((35) + n)) + much)) ((mst M 0 ((35) + n) ((M 0 ((35) + n)) + much)) 0 ((35) + n))).2 (Prod.ext rfl rfl)) (cwV 1 hts gX9_stains_X9_done rfl rfl rfl (by decide +kernel) ⟨(Nat.le_of_ble_eq_true rfl), (Nat.le_of_ble_eq_true rfl)⟩) hK hP hD hS rfl rfl VG_0 rfl hl.1 rfl (Nat.le_of_ble_eq_true rfl) dX9_stains_86 ⟨Nat.zero_le _, Nat.zero_le _⟩ (fun H locs hP hD hS => ?_)
        obtain ⟨e1, e2⟩ := Prod.mk.inj hE
        subst e2
        exact ci_i hx hb hr hlocks e1 rfl hS hP dX9_stains_89
      · rw [if_neg b6] at hE
        refine lv_aload_n hx hb dX9_stains_46 rfl (lv_at hl 0 rfl) ?_
        refine z_bipush hx hb dX9_stains_47 (by decide +kernel) ?_
        refine lv_aload_n hx hb dX9_stains_49 rfl (lv_at hl 0 rfl) ?_
        refine va_get (own := RX9) (ref := "NapkinSyntaxModel") (C := RX9) (T := TX9) (N := 20) hx hb hts hinX9 hown hK hP 0 VG_0 rfl 0 (Nat.le_of_ble_eq_true rfl) (hts (.fieldLink RX9 7 "NapkinSyntaxModel" "g" "[I") (by decide +kernel)) (fun _ h => h) (v := .ref (E 1)) rfl dX9_stains_50 ?_
        refine z_bipush hx hb dX9_stains_53 (by decide +kernel) ?_
        refine lv_iload_n hx hb dX9_stains_55 rfl (lv_at hl 1 rfl) ?_
        refine z_iadd hx hb dX9_stains_56 ?_
        refine z_iald hx hb hK hP 1 0 VG_1 rfl (by omega) (by omega) (by decide) dX9_stains_57 ?_
        have q8 := GI_35 hG ((35) + n) (by omega) (by omega)
        refine z_iconst hx hb dX9_stains_58 ?_
        refine ct_Vi (VG_fix E cI cC) hZo hZb hZ S0 (kX9_refused l D E cI cC Z hZo hZb M (6) (M 0 ((35) + n)) (3)  (fX9_refused M (6) (M 0 ((35) + n)) (3)).1 (fX9_refused M (6) (M 0 ((35) + n)) (3)).2 (Prod.ext rfl rfl)) (cwV 3 hts gX9_stains_X9_refused rfl rfl rfl (by decide +kernel) ⟨(Nat.le_of_ble_eq_true rfl), (Nat.le_of_ble_eq_true rfl)⟩) hK hP hD hS rfl rfl VG_0 rfl hl.1 rfl (Nat.le_of_ble_eq_true rfl) dX9_stains_59 ⟨Nat.zero_le _, Nat.zero_le _⟩ (fun H locs hP hD hS => ?_)
        obtain ⟨e1, e2⟩ := Prod.mk.inj hE
        subst e2
        exact ci_i hx hb hr hlocks e1 rfl hS hP dX9_stains_62
    · rw [if_pos b4] at hE
      refine lv_aload_n hx hb dX9_stains_24 rfl (lv_at hl 0 rfl) ?_
      refine z_iconst hx hb dX9_stains_25 ?_
      refine ct_Vi (VG_fix E cI cC) hZo hZb hZ S0 (kX9_fails l D E cI cC Z hZo hZb M (2)  (fX9_fails M (2)).1 (fX9_fails M (2)).2 (Prod.ext rfl rfl)) (cwV 1 hts gX9_stains_X9_fails rfl rfl rfl (by decide +kernel) ⟨(Nat.le_of_ble_eq_true rfl), (Nat.le_of_ble_eq_true rfl)⟩) hK hP hD hS rfl rfl VG_0 rfl hl.1 rfl (Nat.le_of_ble_eq_true rfl) dX9_stains_26 ⟨Nat.zero_le _, Nat.zero_le _⟩ (fun H locs hP hD hS => ?_)
      obtain ⟨e1, e2⟩ := Prod.mk.inj hE
      subst e2
      exact ci_i hx hb hr hlocks e1 rfl hS hP dX9_stains_29
  · rw [if_pos b2] at hE
    refine lv_aload_n hx hb dX9_stains_8 rfl (lv_at hl 0 rfl) ?_
    refine z_iconst hx hb dX9_stains_9 ?_
    refine ct_Vi (VG_fix E cI cC) hZo hZb hZ S0 (kX9_fails l D E cI cC Z hZo hZb M (1)  (fX9_fails M (1)).1 (fX9_fails M (1)).2 (Prod.ext rfl rfl)) (cwV 1 hts gX9_stains_X9_fails rfl rfl rfl (by decide +kernel) ⟨(Nat.le_of_ble_eq_true rfl), (Nat.le_of_ble_eq_true rfl)⟩) hK hP hD hS rfl rfl VG_0 rfl hl.1 rfl (Nat.le_of_ble_eq_true rfl) dX9_stains_10 ⟨Nat.zero_le _, Nat.zero_le _⟩ (fun H locs hP hD hS => ?_)
    obtain ⟨e1, e2⟩ := Prod.mk.inj hE
    subst e2
    exact ci_i hx hb hr hlocks e1 rfl hS hP dX9_stains_13

theorem fr_fX9_stains {M : Mem} (n much : Int) {r : Nat} (h0 : Nat.beq r 0 = false) (h19 : Nat.beq r 19 = false) (h20 : Nat.beq r 20 = false) (h21 : Nat.beq r 21 = false) (h22 : Nat.beq r 22 = false) (h23 : Nat.beq r 23 = false) (h26 : Nat.beq r 26 = false) : (fX9_stains M n much).2 r = M r := by
  unfold fX9_stains
  (repeat' with_reducible refine frite_w (fun _ => ?_) (fun _ => ?_)) <;> first | with_reducible rfl | simp only [mst_o, msf_o, mcp_o, fr_fX9_done, fr_fX9_fails, fr_fX9_refused, h0, h19, h20, h21, h22, h23, h26]

def fX9_washes (M : Mem) (n : Int) : Int × Mem := if ((fX9_isNapkin M n) = 0) then ((fX9_fails M (1)).1, (fX9_fails M (1)).2) else if ((fX9_seatOf M n) = (-1)) then if ((M 0 ((35) + n)) = 0) then ((fX9_refused M (7) n (2)).1, (fX9_refused M (7) n (2)).2) else ((fX9_done (mst (mst (mst M 0 ((35) + n) (0)) 0 ((15) + n) (0)) 0 (4) (((mst (mst M 0 ((35) + n) (0)) 0 ((15) + n) (0)) 0 (4)) + (M 0 ((35) + n)))) (M 0 ((35) + n))).1, (fX9_done (mst (mst (mst M 0 ((35) + n) (0)) 0 ((15) + n) (0)) 0 (4) (((mst (mst M 0 ((35) + n) (0)) 0 ((15) + n) (0)) 0 (4)) + (M 0 ((35) + n)))) (M 0 ((35) + n))).2) else ((fX9_refused M (4) ((fX9_seatOf M n) / (10)) (2)).1, (fX9_refused M (4) ((fX9_seatOf M n) / (10)) (2)).2)
set_option maxRecDepth 100000 in
set_option maxHeartbeats 4000000 in
theorem kX9_washes (l : Launch) (D : va_G) (E : Nat → Nat) (cI cC : ClassId) (Z : State → Prop) (hZo : ∀ M : Mem, ZOk (VG E cI cC M) Z) (hZb : ZBl Z) (M : Mem) (n : Int) (h1 : -2147483648 ≤ n ∧ n < 2147483648) (hG : GI M) (r : Int) (M' : Mem) (hE : fX9_washes M n = (r, M')) : Ci l yX9_washes wsX9_washes 2 45 [.ref (E 0), .int (iI n)] D (TY cI cC) (VG E cI cC) Z M r M' := by
  refine Ci.of (cc := cX9_washes) (maxL := 4) (ret := (some .int)) (by decide +kernel) rfl (Nat.le_of_ble_eq_true rfl) ?_
  intro p e s m args below meth c ls hx hb hml hr hown hts hlocks hP hK hD hZ hS hl
  have hl : lv_has ls 4 [(0, .ref (E 0)), (1, .int (iI n))] := hl
  have S0 : CallFix p m c cX9_washes 4 s args wsX9_washes RX9 := ⟨hx, hb, hml, hown, hts⟩
  have hinX9 : ∀ w ∈ u_ws RX9 TX9 20, w ∈ wsX9_washes := by decide +kernel
  rw [fX9_washes] at hE
  refine lv_aload_n hx hb dX9_washes_0 rfl (lv_at hl 0 rfl) ?_
  refine lv_iload_n hx hb dX9_washes_1 rfl (lv_at hl 1 rfl) ?_
  refine ct_Vi (VG_fix E cI cC) hZo hZb hZ S0 (kX9_isNapkin l D E cI cC Z hZo hZb M n (by omega) hG (fX9_isNapkin M n) rfl) (cwV 1 hts gX9_washes_X9_isNapkin rfl rfl rfl (by decide +kernel) ⟨(Nat.le_of_ble_eq_true rfl), (Nat.le_of_ble_eq_true rfl)⟩) hK hP hD hS rfl rfl VG_0 rfl hl.1 rfl (Nat.le_of_ble_eq_true rfl) dX9_washes_2 ⟨Nat.zero_le _, Nat.zero_le _⟩ (fun H locs hP hD hS => ?_)
  have q1 := dX9_isNapkin hG n
  refine z_if_ne hx hb dX9_washes_5 (tgt := 14) rfl (by omega) (fun b2 => ?_) (fun b2 => ?_)
  · rw [if_neg b2] at hE
    refine lv_aload_n hx hb dX9_washes_14 rfl (lv_at hl 0 rfl) ?_
    refine lv_iload_n hx hb dX9_washes_15 rfl (lv_at hl 1 rfl) ?_
    refine ct_Vi (VG_fix E cI cC) hZo hZb hZ S0 (kX9_seatOf l D E cI cC Z hZo hZb M n (by omega) hG (fX9_seatOf M n) rfl) (cwV 1 hts gX9_washes_X9_seatOf rfl rfl rfl (by decide +kernel) ⟨(Nat.le_of_ble_eq_true rfl), (Nat.le_of_ble_eq_true rfl)⟩) hK hP hD hS rfl rfl VG_0 rfl hl.1 rfl (Nat.le_of_ble_eq_true rfl) dX9_washes_16 ⟨Nat.zero_le _, Nat.zero_le _⟩ (fun H locs hP hD hS => ?_)
    have q3 := rg_X9_seatOf hG n
    refine lv_istore_n hx hb dX9_washes_19 rfl hl (Nat.le_of_ble_eq_true rfl) (lv' := [(2, .int (iI (fX9_seatOf M n))), (0, .ref (E 0)), (1, .int (iI n))]) rfl (fun ls hl => ?_)
    refine lv_iload_n hx hb dX9_washes_20 rfl (lv_at hl 0 rfl) ?_
    refine z_iconst hx hb dX9_washes_21 ?_
    refine z_icmp_eq hx hb dX9_washes_22 (tgt := 36) rfl (by omega) (by omega) (fun b4 => ?_) (fun b4 => ?_)
    · rw [if_pos b4] at hE
      refine lv_aload_n hx hb dX9_washes_36 rfl (lv_at hl 1 rfl) ?_
      refine va_get (own := RX9) (ref := "NapkinSyntaxModel") (C := RX9) (T := TX9) (N := 20) hx hb hts hinX9 hown hK hP 0 VG_0 rfl 0 (Nat.le_of_ble_eq_true rfl) (hts (.fieldLink RX9 7 "NapkinSyntaxModel" "g" "[I") (by decide +kernel)) (fun _ h => h) (v := .ref (E 1)) rfl dX9_washes_37 ?_
      refine z_bipush hx hb dX9_washes_40 (by decide +kernel) ?_
      refine lv_iload_n hx hb dX9_washes_42 rfl (lv_at hl 2 rfl) ?_
      refine z_iadd hx hb dX9_washes_43 ?_
      refine z_iald hx hb hK hP 1 0 VG_1 rfl (by omega) (by omega) (by decide) dX9_washes_44 ?_
      have q5 := GI_35 hG ((35) + n) (by omega) (by omega)
      refine lv_istore_n hx hb dX9_washes_45 rfl hl (Nat.le_of_ble_eq_true rfl) (lv' := [(3, .int (iI (M 0 ((35) + n)))), (2, .int (iI (fX9_seatOf M n))), (0, .ref (E 0)), (1, .int (iI n))]) rfl (fun ls hl => ?_)
      refine lv_iload_n hx hb dX9_washes_46 rfl (lv_at hl 0 rfl) ?_
      refine z_if_ne hx hb dX9_washes_47 (tgt := 59) rfl (by omega) (fun b6 => ?_) (fun b6 => ?_)
      · rw [if_neg b6] at hE
        refine lv_aload_n hx hb dX9_washes_59 rfl (lv_at hl 2 rfl) ?_
        refine va_get (own := RX9) (ref := "NapkinSyntaxModel") (C := RX9) (T := TX9) (N := 20) hx hb hts hinX9 hown hK hP 0 VG_0 rfl 0 (Nat.le_of_ble_eq_true rfl) (hts (.fieldLink RX9 7 "NapkinSyntaxModel" "g" "[I") (by decide +kernel)) (fun _ h => h) (v := .ref (E 1)) rfl dX9_washes_60 ?_
        refine z_bipush hx hb dX9_washes_63 (by decide +kernel) ?_
        refine lv_iload_n hx hb dX9_washes_65 rfl (lv_at hl 3 rfl) ?_
        refine z_iadd hx hb dX9_washes_66 ?_
        refine z_iconst hx hb dX9_washes_67 ?_
        refine z_iast hx hb hK hP hD hS 1 0 VG_1 rfl (by omega) (by omega) (by decide) dX9_washes_68 VGw_0 (fun H locs hP hD hS => ?_)
        refine lv_aload_n hx hb dX9_washes_69 rfl (lv_at hl 2 rfl) ?_
        refine va_get (own := RX9) (ref := "NapkinSyntaxModel") (C := RX9) (T := TX9) (N := 20) hx hb hts hinX9 hown hK hP 0 VG_0 rfl 0 (Nat.le_of_ble_eq_true rfl) (hts (.fieldLink RX9 7 "NapkinSyntaxModel" "g" "[I") (by decide +kernel)) (fun _ h => h) (v := .ref (E 1)) rfl dX9_washes_70 ?_
        refine z_bipush hx hb dX9_washes_73 (by decide +kernel) ?_
        refine lv_iload_n hx hb dX9_washes_75 rfl (lv_at hl 3 rfl) ?_
        refine z_iadd hx hb dX9_washes_76 ?_
        refine z_iconst hx hb dX9_washes_77 ?_
        refine z_iast hx hb hK hP hD hS 1 0 VG_1 rfl (by omega) (by omega) (by decide) dX9_washes_78 VGw_0 (fun H locs hP hD hS => ?_)
        refine lv_aload_n hx hb dX9_washes_79 rfl (lv_at hl 2 rfl) ?_
        refine va_get (own := RX9) (ref := "NapkinSyntaxModel") (C := RX9) (T := TX9) (N := 20) hx hb hts hinX9 hown hK hP 0 VG_0 rfl 0 (Nat.le_of_ble_eq_true rfl) (hts (.fieldLink RX9 7 "NapkinSyntaxModel" "g" "[I") (by decide +kernel)) (fun _ h => h) (v := .ref (E 1)) rfl dX9_washes_80 ?_
        refine z_iconst hx hb dX9_washes_83 ?_
        refine lv_dup2_11 hx hb dX9_washes_84 rfl rfl ?_
        refine z_iald hx hb hK hP 1 0 VG_1 rfl (by omega) (by omega) (by decide) dX9_washes_85 ?_
        refine lv_iload_n hx hb dX9_washes_86 rfl (lv_at hl 0 rfl) ?_
        refine z_iadd hx hb dX9_washes_87 ?_
        refine z_iast hx hb hK hP hD hS 1 0 VG_1 rfl (by omega) (by omega) (by decide) dX9_washes_88 VGw_0 (fun H locs hP hD hS => ?_)
        refine lv_aload_n hx hb dX9_washes_89 rfl (lv_at hl 2 rfl) ?_
        refine lv_iload_n hx hb dX9_washes_90 rfl (lv_at hl 0 rfl) ?_
        refine ct_Vi (VG_fix E cI cC) hZo hZb hZ S0 (kX9_done l D E cI cC Z hZo hZb (mst (mst (mst M 0 ((35) + n) (0)) 0 ((15) + n) (0)) 0 (4) (((mst (mst M 0 ((35) + n) (0)) 0 ((15) + n) (0)) 0 (4)) + (M 0 ((35) + n)))) (M 0 ((35) + n))  (fX9_done (mst (mst (mst M 0 ((35) + n) (0)) 0 ((15) + n) (0)) 0 (4) (((mst (mst M 0 ((35) + n) (0)) 0 ((15) + n) (0)) 0 (4)) + (M 0 ((35) + n)))) (M 0 ((35) + n))).1 (fX9_done (mst (mst (mst M 0 ((35) + n) (0)) 0 ((15) + n) (0)) 0 (4) (((mst (mst M 0 ((35) + n) (0)) 0 ((15) + n) (0)) 0 (4)) + (M 0 ((35) + n)))) (M 0 ((35) + n))).2 (Prod.ext rfl rfl)) (cwV 1 hts gX9_washes_X9_done rfl rfl rfl (by decide +kernel) ⟨(Nat.le_of_ble_eq_true rfl), (Nat.le_of_ble_eq_true rfl)⟩) hK hP hD hS rfl rfl VG_0 rfl hl.1 rfl (Nat.le_of_ble_eq_true rfl) dX9_washes_91 ⟨Nat.zero_le _, Nat.zero_le _⟩ (fun H locs hP hD hS => ?_)
        obtain ⟨e1, e2⟩ := Prod.mk.inj hE
        subst e2
        exact ci_i hx hb hr hlocks e1 rfl hS hP dX9_washes_94
      · rw [if_pos b6] at hE
        refine lv_aload_n hx hb dX9_washes_50 rfl (lv_at hl 2 rfl) ?_
        refine z_bipush hx hb dX9_washes_51 (by decide +kernel) ?_
        refine lv_iload_n hx hb dX9_washes_53 rfl (lv_at hl 3 rfl) ?_
        refine z_iconst hx hb dX9_washes_54 ?_
        refine ct_Vi (VG_fix E cI cC) hZo hZb hZ S0 (kX9_refused l D E cI cC Z hZo hZb M (7) n (2)  (fX9_refused M (7) n (2)).1 (fX9_refused M (7) n (2)).2 (Prod.ext rfl rfl)) (cwV 3 hts gX9_washes_X9_refused rfl rfl rfl (by decide +kernel) ⟨(Nat.le_of_ble_eq_true rfl), (Nat.le_of_ble_eq_true rfl)⟩) hK hP hD hS rfl rfl VG_0 rfl hl.1 rfl (Nat.le_of_ble_eq_true rfl) dX9_washes_55 ⟨Nat.zero_le _, Nat.zero_le _⟩ (fun H locs hP hD hS => ?_)
        obtain ⟨e1, e2⟩ := Prod.mk.inj hE
        subst e2
        exact ci_i hx hb hr hlocks e1 rfl hS hP dX9_washes_58
    · rw [if_neg b4] at hE
      refine lv_aload_n hx hb dX9_washes_25 rfl (lv_at hl 1 rfl) ?_
      refine z_iconst hx hb dX9_washes_26 ?_
      refine lv_iload_n hx hb dX9_washes_27 rfl (lv_at hl 0 rfl) ?_
      refine z_bipush hx hb dX9_washes_28 (by decide +kernel) ?_
      refine z_idiv hx hb dX9_washes_30 (by omega) (by omega) (by omega) (by omega) ?_
      refine z_iconst hx hb dX9_washes_31 ?_
      refine ct_Vi (VG_fix E cI cC) hZo hZb hZ S0 (kX9_refused l D E cI cC Z hZo hZb M (4) ((fX9_seatOf M n) / (10)) (2)  (fX9_refused M (4) ((fX9_seatOf M n) / (10)) (2)).1 (fX9_refused M (4) ((fX9_seatOf M n) / (10)) (2)).2 (Prod.ext rfl rfl)) (cwV 3 hts gX9_washes_X9_refused rfl rfl rfl (by decide +kernel) ⟨(Nat.le_of_ble_eq_true rfl), (Nat.le_of_ble_eq_true rfl)⟩) hK hP hD hS rfl rfl VG_0 rfl hl.1 rfl (Nat.le_of_ble_eq_true rfl) dX9_washes_32 ⟨Nat.zero_le _, Nat.zero_le _⟩ (fun H locs hP hD hS => ?_)
      obtain ⟨e1, e2⟩ := Prod.mk.inj hE
      subst e2
      exact ci_i hx hb hr hlocks e1 rfl hS hP dX9_washes_35
  · rw [if_pos b2] at hE
    refine lv_aload_n hx hb dX9_washes_8 rfl (lv_at hl 0 rfl) ?_
    refine z_iconst hx hb dX9_washes_9 ?_
    refine ct_Vi (VG_fix E cI cC) hZo hZb hZ S0 (kX9_fails l D E cI cC Z hZo hZb M (1)  (fX9_fails M (1)).1 (fX9_fails M (1)).2 (Prod.ext rfl rfl)) (cwV 1 hts gX9_washes_X9_fails rfl rfl rfl (by decide +kernel) ⟨(Nat.le_of_ble_eq_true rfl), (Nat.le_of_ble_eq_true rfl)⟩) hK hP hD hS rfl rfl VG_0 rfl hl.1 rfl (Nat.le_of_ble_eq_true rfl) dX9_washes_10 ⟨Nat.zero_le _, Nat.zero_le _⟩ (fun H locs hP hD hS => ?_)
    obtain ⟨e1, e2⟩ := Prod.mk.inj hE
    subst e2
    exact ci_i hx hb hr hlocks e1 rfl hS hP dX9_washes_13

theorem fr_fX9_washes {M : Mem} (n : Int) {r : Nat} (h0 : Nat.beq r 0 = false) (h19 : Nat.beq r 19 = false) (h20 : Nat.beq r 20 = false) (h21 : Nat.beq r 21 = false) (h22 : Nat.beq r 22 = false) (h23 : Nat.beq r 23 = false) (h26 : Nat.beq r 26 = false) : (fX9_washes M n).2 r = M r := by
  unfold fX9_washes
  (repeat' with_reducible refine frite_w (fun _ => ?_) (fun _ => ?_)) <;> first | with_reducible rfl | simp only [mst_o, msf_o, mcp_o, fr_fX9_done, fr_fX9_fails, fr_fX9_refused, h0, h19, h20, h21, h22, h23, h26]

def fX9_goesOn (state fold : Int) : Int := if (state = 0) then if (fold = (1)) then (1) else (4) else if (state = 1) then if (fold = (1)) then (1) else if (fold = (2)) then (2) else (4) else if (state = 2) then if (fold = (3)) then (3) else if (fold = (4)) then (0) else (4) else if (state = 3) then if (fold = (4)) then (0) else (4) else (4)
set_option maxRecDepth 100000 in
set_option maxHeartbeats 4000000 in
theorem kX9_goesOn (l : Launch) (D : va_G) (E : Nat → Nat) (cI cC : ClassId) (Z : State → Prop) (hZo : ∀ M : Mem, ZOk (VG E cI cC M) Z) (hZb : ZBl Z) (M : Mem) (state fold : Int) (h1 : 0 ≤ state ∧ state ≤ 4) (h2 : 0 ≤ fold ∧ fold ≤ 4) (r : Int) (hE : fX9_goesOn state fold = r) : Ci l yX9_goesOn wsX9_goesOn 0 0 [.int (iI state), .int (iI fold)] D (TY cI cC) (VG E cI cC) Z M r M := by
  refine Ci.of (cc := cX9_goesOn) (maxL := 2) (ret := (some .int)) (by decide +kernel) rfl (Nat.le_of_ble_eq_true rfl) ?_
  intro p e s m args below meth c ls hx hb hml hr hown hts hlocks hP hK hD hZ hS hl
  have hl : lv_has ls 2 [(0, .int (iI state)), (1, .int (iI fold))] := hl
  have S0 : CallFix p m c cX9_goesOn 2 s args wsX9_goesOn RX9 := ⟨hx, hb, hml, hown, hts⟩
  rw [fX9_goesOn] at hE
  refine lv_iload_n hx hb dX9_goesOn_0 rfl (lv_at hl 0 rfl) ?_
  by_cases b1 : (state = 0)
  · rw [if_pos b1] at hE
    refine z_table hx hb dX9_goesOn_1 (k0 := 0) (tgt := 32) (by omega) b1 (by decide) (by decide) rfl rfl ?_
    refine lv_iload_n hx hb dX9_goesOn_32 rfl (lv_at hl 1 rfl) ?_
    refine z_iconst hx hb dX9_goesOn_33 ?_
    refine z_icmp_ne hx hb dX9_goesOn_34 (tgt := 41) rfl (by omega) (by omega) (fun b2 => ?_) (fun b2 => ?_)
    · rw [if_neg b2] at hE
      refine z_iconst hx hb dX9_goesOn_41 ?_
      exact ci_i hx hb hr hlocks hE rfl hS hP dX9_goesOn_42
    · rw [if_pos b2] at hE
      refine z_iconst hx hb dX9_goesOn_37 ?_
      refine lv_goto hx hb dX9_goesOn_38 (tgt := 42) rfl ?_
      exact ci_i hx hb hr hlocks hE rfl hS hP dX9_goesOn_42
  · rw [if_neg b1] at hE
    by_cases b3 : (state = 1)
    · rw [if_pos b3] at hE
      refine z_table hx hb dX9_goesOn_1 (k0 := 1) (tgt := 43) (by omega) b3 (by decide) (by decide) rfl rfl ?_
      refine lv_iload_n hx hb dX9_goesOn_43 rfl (lv_at hl 1 rfl) ?_
      refine z_iconst hx hb dX9_goesOn_44 ?_
      refine z_icmp_ne hx hb dX9_goesOn_45 (tgt := 52) rfl (by omega) (by omega) (fun b4 => ?_) (fun b4 => ?_)
      · rw [if_neg b4] at hE
        refine lv_iload_n hx hb dX9_goesOn_52 rfl (lv_at hl 1 rfl) ?_
        refine z_iconst hx hb dX9_goesOn_53 ?_
        refine z_icmp_ne hx hb dX9_goesOn_54 (tgt := 61) rfl (by omega) (by omega) (fun b5 => ?_) (fun b5 => ?_)
        · rw [if_neg b5] at hE
          refine z_iconst hx hb dX9_goesOn_61 ?_
          exact ci_i hx hb hr hlocks hE rfl hS hP dX9_goesOn_62
        · rw [if_pos b5] at hE
          refine z_iconst hx hb dX9_goesOn_57 ?_
          refine lv_goto hx hb dX9_goesOn_58 (tgt := 62) rfl ?_
          exact ci_i hx hb hr hlocks hE rfl hS hP dX9_goesOn_62
      · rw [if_pos b4] at hE
        refine z_iconst hx hb dX9_goesOn_48 ?_
        refine lv_goto hx hb dX9_goesOn_49 (tgt := 62) rfl ?_
        exact ci_i hx hb hr hlocks hE rfl hS hP dX9_goesOn_62
    · rw [if_neg b3] at hE
      by_cases b6 : (state = 2)
      · rw [if_pos b6] at hE
        refine z_table hx hb dX9_goesOn_1 (k0 := 2) (tgt := 63) (by omega) b6 (by decide) (by decide) rfl rfl ?_
        refine lv_iload_n hx hb dX9_goesOn_63 rfl (lv_at hl 1 rfl) ?_
        refine z_iconst hx hb dX9_goesOn_64 ?_
        refine z_icmp_ne hx hb dX9_goesOn_65 (tgt := 72) rfl (by omega) (by omega) (fun b7 => ?_) (fun b7 => ?_)
        · rw [if_neg b7] at hE
          refine lv_iload_n hx hb dX9_goesOn_72 rfl (lv_at hl 1 rfl) ?_
          refine z_iconst hx hb dX9_goesOn_73 ?_
          refine z_icmp_ne hx hb dX9_goesOn_74 (tgt := 81) rfl (by omega) (by omega) (fun b8 => ?_) (fun b8 => ?_)
          · rw [if_neg b8] at hE
            refine z_iconst hx hb dX9_goesOn_81 ?_
            exact ci_i hx hb hr hlocks hE rfl hS hP dX9_goesOn_82
          · rw [if_pos b8] at hE
            refine z_iconst hx hb dX9_goesOn_77 ?_
            refine lv_goto hx hb dX9_goesOn_78 (tgt := 82) rfl ?_
            exact ci_i hx hb hr hlocks hE rfl hS hP dX9_goesOn_82
        · rw [if_pos b7] at hE
          refine z_iconst hx hb dX9_goesOn_68 ?_
          refine lv_goto hx hb dX9_goesOn_69 (tgt := 82) rfl ?_
          exact ci_i hx hb hr hlocks hE rfl hS hP dX9_goesOn_82
      · rw [if_neg b6] at hE
        by_cases b9 : (state = 3)
        · rw [if_pos b9] at hE
          refine z_table hx hb dX9_goesOn_1 (k0 := 3) (tgt := 83) (by omega) b9 (by decide) (by decide) rfl rfl ?_
          refine lv_iload_n hx hb dX9_goesOn_83 rfl (lv_at hl 1 rfl) ?_
          refine z_iconst hx hb dX9_goesOn_84 ?_
          refine z_icmp_ne hx hb dX9_goesOn_85 (tgt := 92) rfl (by omega) (by omega) (fun b10 => ?_) (fun b10 => ?_)
          · rw [if_neg b10] at hE
            refine z_iconst hx hb dX9_goesOn_92 ?_
            exact ci_i hx hb hr hlocks hE rfl hS hP dX9_goesOn_93
          · rw [if_pos b10] at hE
            refine z_iconst hx hb dX9_goesOn_88 ?_
            refine lv_goto hx hb dX9_goesOn_89 (tgt := 93) rfl ?_
            exact ci_i hx hb hr hlocks hE rfl hS hP dX9_goesOn_93
        · rw [if_neg b9] at hE
          refine z_tableD hx hb dX9_goesOn_1 (tgt := 94) (by omega) (by omega) rfl ?_
          refine z_iconst hx hb dX9_goesOn_94 ?_
          exact ci_i hx hb hr hlocks hE rfl hS hP dX9_goesOn_95

def fX9_isEnd (state : Int) : Int := if (state = (2)) then (1) else if (state = (3)) then (1) else (0)
set_option maxRecDepth 100000 in
set_option maxHeartbeats 4000000 in
theorem kX9_isEnd (l : Launch) (D : va_G) (E : Nat → Nat) (cI cC : ClassId) (Z : State → Prop) (hZo : ∀ M : Mem, ZOk (VG E cI cC M) Z) (hZb : ZBl Z) (M : Mem) (state : Int) (h1 : 0 ≤ state ∧ state ≤ 4) (r : Int) (hE : fX9_isEnd state = r) : Ci l yX9_isEnd wsX9_isEnd 0 0 [.int (iI state)] D (TY cI cC) (VG E cI cC) Z M r M := by
  refine Ci.of (cc := cX9_isEnd) (maxL := 1) (ret := (some .boolean)) (by decide +kernel) rfl (Nat.le_of_ble_eq_true rfl) ?_
  intro p e s m args below meth c ls hx hb hml hr hown hts hlocks hP hK hD hZ hS hl
  have hl : lv_has ls 1 [(0, .int (iI state))] := hl
  have S0 : CallFix p m c cX9_isEnd 1 s args wsX9_isEnd RX9 := ⟨hx, hb, hml, hown, hts⟩
  rw [fX9_isEnd] at hE
  refine lv_iload_n hx hb dX9_isEnd_0 rfl (lv_at hl 0 rfl) ?_
  refine z_iconst hx hb dX9_isEnd_1 ?_
  refine z_icmp_eq hx hb dX9_isEnd_2 (tgt := 10) rfl (by omega) (by omega) (fun b1 => ?_) (fun b1 => ?_)
  · rw [if_pos b1] at hE
    refine z_iconst hx hb dX9_isEnd_10 ?_
    refine lv_goto hx hb dX9_isEnd_11 (tgt := 15) rfl ?_
    exact ci_i hx hb hr hlocks hE nr_b1 hS hP dX9_isEnd_15
  · rw [if_neg b1] at hE
    refine lv_iload_n hx hb dX9_isEnd_5 rfl (lv_at hl 0 rfl) ?_
    refine z_iconst hx hb dX9_isEnd_6 ?_
    refine z_icmp_ne hx hb dX9_isEnd_7 (tgt := 14) rfl (by omega) (by omega) (fun b2 => ?_) (fun b2 => ?_)
    · rw [if_neg b2] at hE
      refine z_iconst hx hb dX9_isEnd_14 ?_
      exact ci_i hx hb hr hlocks hE nr_b0 hS hP dX9_isEnd_15
    · rw [if_pos b2] at hE
      refine z_iconst hx hb dX9_isEnd_10 ?_
      refine lv_goto hx hb dX9_isEnd_11 (tgt := 15) rfl ?_
      exact ci_i hx hb hr hlocks hE nr_b1 hS hP dX9_isEnd_15


theorem rg_X9_goesOn (s f : Int) : 0 ≤ fX9_goesOn s f ∧ fX9_goesOn s f ≤ 4 := by unfold fX9_goesOn; (repeat' split) <;> omega
theorem bX9_isEnd (p : Int) : 0 ≤ fX9_isEnd p ∧ fX9_isEnd p ≤ 1 := by unfold fX9_isEnd; (repeat' split) <;> omega

def fX9_countOf_L1 (M : Mem) (table fold : Int) : Nat → Int → Int → (Int)
  | 0, _, _ => 0
  | k1 + 1, n, place => if ((M 0 ((55) + table)) ≤ place) then n else if ((M 0 ((15) + (fX9_at M table place))) ≤ 0) then fX9_countOf_L1 M table fold k1 (n + (0)) (place + 1) else if (fold = 0) then fX9_countOf_L1 M table fold k1 (n + (1)) (place + 1) else if ((M 0 ((15) + (fX9_at M table place))) = fold) then fX9_countOf_L1 M table fold k1 (n + (1)) (place + 1) else fX9_countOf_L1 M table fold k1 (n + (0)) (place + 1)
def fX9_countOf (M : Mem) (table fold : Int) : Int := fX9_countOf_L1 M table fold 7 (0) (0)
set_option maxRecDepth 100000 in
set_option maxHeartbeats 4000000 in
theorem kX9_countOf (l : Launch) (D : va_G) (E : Nat → Nat) (cI cC : ClassId) (Z : State → Prop) (hZo : ∀ M : Mem, ZOk (VG E cI cC M) Z) (hZb : ZBl Z) (M : Mem) (table fold : Int) (h1 : 0 ≤ table ∧ table < 3) (h2 : -2147483648 ≤ fold ∧ fold < 2147483648) (hG : GI M) (r : Int) (hE : fX9_countOf M table fold = r) : Ci l yX9_countOf wsX9_countOf 1 22 [.ref (E 0), .int (iI table), .int (iI fold)] D (TY cI cC) (VG E cI cC) Z M r M := by
  refine Ci.of (cc := cX9_countOf) (maxL := 6) (ret := (some .int)) (by decide +kernel) rfl (Nat.le_of_ble_eq_true rfl) ?_
  intro p e s m args below meth c ls hx hb hml hr hown hts hlocks hP hK hD hZ hS hl
  have hl : lv_has ls 6 [(0, .ref (E 0)), (1, .int (iI table)), (2, .int (iI fold))] := hl
  have S0 : CallFix p m c cX9_countOf 6 s args wsX9_countOf RX9 := ⟨hx, hb, hml, hown, hts⟩
  have hinX9 : ∀ w ∈ u_ws RX9 TX9 20, w ∈ wsX9_countOf := by decide +kernel
  rw [fX9_countOf] at hE
  refine z_iconst hx hb dX9_countOf_0 ?_
  refine lv_istore_n hx hb dX9_countOf_1 rfl hl (Nat.le_of_ble_eq_true rfl) (lv' := [(3, .int (iI (0))), (0, .ref (E 0)), (1, .int (iI table)), (2, .int (iI fold))]) rfl (fun ls hl => ?_)
  refine z_iconst hx hb dX9_countOf_2 ?_
  refine lv_istore hx hb dX9_countOf_3 hl (Nat.le_of_ble_eq_true rfl) (lv' := [(4, .int (iI (0))), (3, .int (iI (0))), (0, .ref (E 0)), (1, .int (iI table)), (2, .int (iI fold))]) rfl (fun ls hl => ?_)
  have L1 : ∀ (k1 : Nat) (n place : Int) (ls : Array Slot) (H : Heap) (locs : List Loc), lv_has ls 6 [(0, .ref (E 0)), (1, .int (iI table)), (2, .int (iI fold)), (3, .int (iI n)), (4, .int (iI place))] → va_P D vwCl (VG E cI cC M) H → va_D (wA (VG E cI cC M)) (VG E cI cC M) → va_S (wA (VG E cI cC M)) s.heap H locs → (0 ≤ place ∧ place ≤ 6) → (6 - place < (k1 : Int)) → fX9_countOf_L1 M table fold k1 n place = r → W p l e (zRm 1 22) s m args below meth c H locs 0 0 (MQ below (ciQ D (VG E cI cC) M r M) args s 0 0 (wA (VG E cI cC M))) (F0 m 5 ls []) := by
    intro k1
    induction k1 with
    | zero => intro n place ls H locs hl hP hD hS j1 j3 hE; exfalso; omega
    | succ k1 ih1 =>
      intro n place ls H locs hl hP hD hS j1 j3 hE
      have q98 := GI_55 hG ((55) + table) (by omega) (by omega)
      rw [fX9_countOf_L1] at hE
      refine lv_iload hx hb dX9_countOf_5 (lv_at hl 4 rfl) ?_
      refine lv_aload_n hx hb dX9_countOf_7 rfl (lv_at hl 0 rfl) ?_
      refine va_get (own := RX9) (ref := "NapkinSyntaxModel") (C := RX9) (T := TX9) (N := 20) hx hb hts hinX9 hown hK hP 0 VG_0 rfl 0 (Nat.le_of_ble_eq_true rfl) (hts (.fieldLink RX9 7 "NapkinSyntaxModel" "g" "[I") (by decide +kernel)) (fun _ h => h) (v := .ref (E 1)) rfl dX9_countOf_8 ?_
      refine z_bipush hx hb dX9_countOf_11 (by decide +kernel) ?_
      refine lv_iload_n hx hb dX9_countOf_13 rfl (lv_at hl 1 rfl) ?_
      refine z_iadd hx hb dX9_countOf_14 ?_
      refine z_iald hx hb hK hP 1 0 VG_1 rfl (by omega) (by omega) (by decide) dX9_countOf_15 ?_
      have q1 := GI_55 hG ((55) + table) (by omega) (by omega)
      refine z_icmp_ge hx hb dX9_countOf_16 (tgt := 65) rfl (by omega) (by omega) (fun b2 => ?_) (fun b2 => ?_)
      · rw [if_pos b2] at hE
        refine lv_iload_n hx hb dX9_countOf_65 rfl (lv_at hl 3 rfl) ?_
        exact ci_i hx hb hr hlocks hE rfl hS hP dX9_countOf_66
      · rw [if_neg b2] at hE
        refine lv_aload_n hx hb dX9_countOf_19 rfl (lv_at hl 0 rfl) ?_
        refine va_get (own := RX9) (ref := "NapkinSyntaxModel") (C := RX9) (T := TX9) (N := 20) hx hb hts hinX9 hown hK hP 0 VG_0 rfl 0 (Nat.le_of_ble_eq_true rfl) (hts (.fieldLink RX9 7 "NapkinSyntaxModel" "g" "[I") (by decide +kernel)) (fun _ h => h) (v := .ref (E 1)) rfl dX9_countOf_20 ?_
        refine z_bipush hx hb dX9_countOf_23 (by decide +kernel) ?_
        refine lv_aload_n hx hb dX9_countOf_25 rfl (lv_at hl 0 rfl) ?_
        refine lv_iload_n hx hb dX9_countOf_26 rfl (lv_at hl 1 rfl) ?_
        refine lv_iload hx hb dX9_countOf_27 (lv_at hl 4 rfl) ?_
        refine ct_Vi (VG_fix E cI cC) hZo hZb hZ S0 (kX9_at l D E cI cC Z hZo hZb M table place (by omega) (by omega) (fX9_at M table place) rfl) (cwV 2 hts gX9_countOf_X9_at rfl rfl rfl (by decide +kernel) ⟨(Nat.le_of_ble_eq_true rfl), (Nat.le_of_ble_eq_true rfl)⟩) hK hP hD hS rfl rfl VG_0 rfl hl.1 rfl (Nat.le_of_ble_eq_true rfl) dX9_countOf_29 ⟨Nat.zero_le _, Nat.zero_le _⟩ (fun H locs hP hD hS => ?_)
        have q3 := rg_X9_at hG table place (by omega) (by omega)
        refine z_iadd hx hb dX9_countOf_32 ?_
        refine z_iald hx hb hK hP 1 0 VG_1 rfl (by omega) (by omega) (by decide) dX9_countOf_33 ?_
        have q4 := GI_15 hG ((15) + (fX9_at M table place)) (by omega) (by omega)
        refine lv_istore hx hb dX9_countOf_34 hl (Nat.le_of_ble_eq_true rfl) (lv' := [(5, .int (iI (M 0 ((15) + (fX9_at M table place))))), (0, .ref (E 0)), (1, .int (iI table)), (2, .int (iI fold)), (3, .int (iI n)), (4, .int (iI place))]) rfl (fun ls hl => ?_)
        refine lv_iload_n hx hb dX9_countOf_36 rfl (lv_at hl 4 rfl) ?_
        refine lv_iload hx hb dX9_countOf_37 (lv_at hl 0 rfl) ?_
        refine z_if_le hx hb dX9_countOf_39 (tgt := 56) rfl (by omega) (fun b5 => ?_) (fun b5 => ?_)
        · rw [if_pos b5] at hE
          refine z_iconst hx hb dX9_countOf_56 ?_
          refine z_iadd hx hb dX9_countOf_57 ?_
          refine lv_istore_n hx hb dX9_countOf_58 rfl hl (Nat.le_of_ble_eq_true rfl) (lv' := [(3, .int (iI (n + (0)))), (5, .int (iI (M 0 ((15) + (fX9_at M table place))))), (0, .ref (E 0)), (1, .int (iI table)), (2, .int (iI fold)), (4, .int (iI place))]) rfl (fun ls hl => ?_)
          refine z_iinc hx hb dX9_countOf_59 hl (k := 5) rfl (Nat.le_of_ble_eq_true rfl) (lv' := [(4, .int (iI (place + 1))), (3, .int (iI (n + (0)))), (5, .int (iI (M 0 ((15) + (fX9_at M table place))))), (0, .ref (E 0)), (1, .int (iI table)), (2, .int (iI fold))]) rfl (fun ls hl => ?_)
          refine lv_goto hx hb dX9_countOf_62 (tgt := 5) rfl ?_
          exact ih1 (n + (0)) (place + 1) ls _ _ (lv_sub hl [3, 4, 5, 1, 0] rfl) hP hD hS (by omega) (by omega) hE
        · rw [if_neg b5] at hE
          refine lv_iload_n hx hb dX9_countOf_42 rfl (lv_at hl 3 rfl) ?_
          refine z_if_eq hx hb dX9_countOf_43 (tgt := 52) rfl (by omega) (fun b6 => ?_) (fun b6 => ?_)
          · rw [if_pos b6] at hE
            refine z_iconst hx hb dX9_countOf_52 ?_
            refine lv_goto hx hb dX9_countOf_53 (tgt := 57) rfl ?_
            refine z_iadd hx hb dX9_countOf_57 ?_
            refine lv_istore_n hx hb dX9_countOf_58 rfl hl (Nat.le_of_ble_eq_true rfl) (lv' := [(3, .int (iI (n + (1)))), (5, .int (iI (M 0 ((15) + (fX9_at M table place))))), (0, .ref (E 0)), (1, .int (iI table)), (2, .int (iI fold)), (4, .int (iI place))]) rfl (fun ls hl => ?_)
            refine z_iinc hx hb dX9_countOf_59 hl (k := 5) rfl (Nat.le_of_ble_eq_true rfl) (lv' := [(4, .int (iI (place + 1))), (3, .int (iI (n + (1)))), (5, .int (iI (M 0 ((15) + (fX9_at M table place))))), (0, .ref (E 0)), (1, .int (iI table)), (2, .int (iI fold))]) rfl (fun ls hl => ?_)
            refine lv_goto hx hb dX9_countOf_62 (tgt := 5) rfl ?_
            exact ih1 (n + (1)) (place + 1) ls _ _ (lv_sub hl [3, 4, 5, 1, 0] rfl) hP hD hS (by omega) (by omega) hE
          · rw [if_neg b6] at hE
            refine lv_iload hx hb dX9_countOf_46 (lv_at hl 0 rfl) ?_
            refine lv_iload_n hx hb dX9_countOf_48 rfl (lv_at hl 3 rfl) ?_
            refine z_icmp_ne hx hb dX9_countOf_49 (tgt := 56) rfl (by omega) (by omega) (fun b7 => ?_) (fun b7 => ?_)
            · rw [if_neg b7] at hE
              refine z_iconst hx hb dX9_countOf_56 ?_
              refine z_iadd hx hb dX9_countOf_57 ?_
              refine lv_istore_n hx hb dX9_countOf_58 rfl hl (Nat.le_of_ble_eq_true rfl) (lv' := [(3, .int (iI (n + (0)))), (5, .int (iI (M 0 ((15) + (fX9_at M table place))))), (0, .ref (E 0)), (1, .int (iI table)), (2, .int (iI fold)), (4, .int (iI place))]) rfl (fun ls hl => ?_)
              refine z_iinc hx hb dX9_countOf_59 hl (k := 5) rfl (Nat.le_of_ble_eq_true rfl) (lv' := [(4, .int (iI (place + 1))), (3, .int (iI (n + (0)))), (5, .int (iI (M 0 ((15) + (fX9_at M table place))))), (0, .ref (E 0)), (1, .int (iI table)), (2, .int (iI fold))]) rfl (fun ls hl => ?_)
              refine lv_goto hx hb dX9_countOf_62 (tgt := 5) rfl ?_
              exact ih1 (n + (0)) (place + 1) ls _ _ (lv_sub hl [3, 4, 5, 1, 0] rfl) hP hD hS (by omega) (by omega) hE
            · rw [if_pos b7] at hE
              refine z_iconst hx hb dX9_countOf_52 ?_
              refine lv_goto hx hb dX9_countOf_53 (tgt := 57) rfl ?_
              refine z_iadd hx hb dX9_countOf_57 ?_
              refine lv_istore_n hx hb dX9_countOf_58 rfl hl (Nat.le_of_ble_eq_true rfl) (lv' := [(3, .int (iI (n + (1)))), (5, .int (iI (M 0 ((15) + (fX9_at M table place))))), (0, .ref (E 0)), (1, .int (iI table)), (2, .int (iI fold)), (4, .int (iI place))]) rfl (fun ls hl => ?_)
              refine z_iinc hx hb dX9_countOf_59 hl (k := 5) rfl (Nat.le_of_ble_eq_true rfl) (lv' := [(4, .int (iI (place + 1))), (3, .int (iI (n + (1)))), (5, .int (iI (M 0 ((15) + (fX9_at M table place))))), (0, .ref (E 0)), (1, .int (iI table)), (2, .int (iI fold))]) rfl (fun ls hl => ?_)
              refine lv_goto hx hb dX9_countOf_62 (tgt := 5) rfl ?_
              exact ih1 (n + (1)) (place + 1) ls _ _ (lv_sub hl [3, 4, 5, 1, 0] rfl) hP hD hS (by omega) (by omega) hE
  exact L1 7 (0) (0) ls _ _ (lv_sub hl [2, 3, 4, 1, 0] rfl) hP hD hS (by omega) (by omega) hE


theorem rg_X9_countOf_L {M : Mem} (h : GI M) (t f : Int) (ht : 0 ≤ t ∧ t < 3) : ∀ (k : Nat) (n p : Int), 0 ≤ p → p ≤ 6 → 0 ≤ n → n ≤ p → 0 ≤ fX9_countOf_L1 M t f k n p ∧ fX9_countOf_L1 M t f k n p ≤ 6 := by
  have g := GI_55 h (55 + t) (by omega) (by omega)
  intro k
  induction k with
  | zero => intro n p _ _ _ _; exact ⟨(by decide : (0 : Int) ≤ 0), (by decide : (0 : Int) ≤ 6)⟩
  | succ k ih =>
    intro n p h1 h2 h3 h4
    rw [fX9_countOf_L1]
    (repeat' split) <;> first | omega | exact ih _ _ (by omega) (by omega) (by omega) (by omega)
theorem rg_X9_countOf {M : Mem} (h : GI M) (t f : Int) (ht : 0 ≤ t ∧ t < 3) : 0 ≤ fX9_countOf M t f ∧ fX9_countOf M t f ≤ 6 := rg_X9_countOf_L h t f ht 7 0 0 (by decide) (by decide) (by decide) (by decide)

def fX9_saidAt_L1 (M : Mem) (table number : Int) : Nat → Int → Int → (Int)
  | 0, _, _ => 0
  | k1 + 1, n, place => if ((M 0 ((55) + table)) ≤ place) then (-1) else if ((M 0 ((15) + (fX9_at M table place))) ≤ 0) then fX9_saidAt_L1 M table number k1 n (place + 1) else if (n = number) then (fX9_at M table place) else fX9_saidAt_L1 M table number k1 (n + 1) (place + 1)
def fX9_saidAt (M : Mem) (table number : Int) : Int := fX9_saidAt_L1 M table number 7 (0) (0)
set_option maxRecDepth 100000 in
set_option maxHeartbeats 4000000 in
theorem kX9_saidAt (l : Launch) (D : va_G) (E : Nat → Nat) (cI cC : ClassId) (Z : State → Prop) (hZo : ∀ M : Mem, ZOk (VG E cI cC M) Z) (hZb : ZBl Z) (M : Mem) (table number : Int) (h1 : 0 ≤ table ∧ table < 3) (h2 : -2147483648 ≤ number ∧ number < 2147483648) (hG : GI M) (r : Int) (hE : fX9_saidAt M table number = r) : Ci l yX9_saidAt wsX9_saidAt 1 22 [.ref (E 0), .int (iI table), .int (iI number)] D (TY cI cC) (VG E cI cC) Z M r M := by
  refine Ci.of (cc := cX9_saidAt) (maxL := 6) (ret := (some .int)) (by decide +kernel) rfl (Nat.le_of_ble_eq_true rfl) ?_
  intro p e s m args below meth c ls hx hb hml hr hown hts hlocks hP hK hD hZ hS hl
  have hl : lv_has ls 6 [(0, .ref (E 0)), (1, .int (iI table)), (2, .int (iI number))] := hl
  have S0 : CallFix p m c cX9_saidAt 6 s args wsX9_saidAt RX9 := ⟨hx, hb, hml, hown, hts⟩
  have hinX9 : ∀ w ∈ u_ws RX9 TX9 20, w ∈ wsX9_saidAt := by decide +kernel
  rw [fX9_saidAt] at hE
  refine z_iconst hx hb dX9_saidAt_0 ?_
  refine lv_istore_n hx hb dX9_saidAt_1 rfl hl (Nat.le_of_ble_eq_true rfl) (lv' := [(3, .int (iI (0))), (0, .ref (E 0)), (1, .int (iI table)), (2, .int (iI number))]) rfl (fun ls hl => ?_)
  refine z_iconst hx hb dX9_saidAt_2 ?_
  refine lv_istore hx hb dX9_saidAt_3 hl (Nat.le_of_ble_eq_true rfl) (lv' := [(4, .int (iI (0))), (3, .int (iI (0))), (0, .ref (E 0)), (1, .int (iI table)), (2, .int (iI number))]) rfl (fun ls hl => ?_)
  have L1 : ∀ (k1 : Nat) (n place : Int) (ls : Array Slot) (H : Heap) (locs : List Loc), lv_has ls 6 [(0, .ref (E 0)), (1, .int (iI table)), (2, .int (iI number)), (3, .int (iI n)), (4, .int (iI place))] → va_P D vwCl (VG E cI cC M) H → va_D (wA (VG E cI cC M)) (VG E cI cC M) → va_S (wA (VG E cI cC M)) s.heap H locs → (0 ≤ place ∧ place ≤ 6) → (6 - place < (k1 : Int)) → (0 ≤ n ∧ n ≤ place) → fX9_saidAt_L1 M table number k1 n place = r → W p l e (zRm 1 22) s m args below meth c H locs 0 0 (MQ below (ciQ D (VG E cI cC) M r M) args s 0 0 (wA (VG E cI cC M))) (F0 m 5 ls []) := by
    intro k1
    induction k1 with
    | zero => intro n place ls H locs hl hP hD hS j1 j3 j4 hE; exfalso; omega
    | succ k1 ih1 =>
      intro n place ls H locs hl hP hD hS j1 j3 j4 hE
      have q98 := GI_55 hG ((55) + table) (by omega) (by omega)
      rw [fX9_saidAt_L1] at hE
      refine lv_iload hx hb dX9_saidAt_5 (lv_at hl 4 rfl) ?_
      refine lv_aload_n hx hb dX9_saidAt_7 rfl (lv_at hl 0 rfl) ?_
      refine va_get (own := RX9) (ref := "NapkinSyntaxModel") (C := RX9) (T := TX9) (N := 20) hx hb hts hinX9 hown hK hP 0 VG_0 rfl 0 (Nat.le_of_ble_eq_true rfl) (hts (.fieldLink RX9 7 "NapkinSyntaxModel" "g" "[I") (by decide +kernel)) (fun _ h => h) (v := .ref (E 1)) rfl dX9_saidAt_8 ?_
      refine z_bipush hx hb dX9_saidAt_11 (by decide +kernel) ?_
      refine lv_iload_n hx hb dX9_saidAt_13 rfl (lv_at hl 1 rfl) ?_
      refine z_iadd hx hb dX9_saidAt_14 ?_
      refine z_iald hx hb hK hP 1 0 VG_1 rfl (by omega) (by omega) (by decide) dX9_saidAt_15 ?_
      have q1 := GI_55 hG ((55) + table) (by omega) (by omega)
      refine z_icmp_ge hx hb dX9_saidAt_16 (tgt := 58) rfl (by omega) (by omega) (fun b2 => ?_) (fun b2 => ?_)
      · rw [if_pos b2] at hE
        refine z_iconst hx hb dX9_saidAt_58 ?_
        exact ci_i hx hb hr hlocks hE rfl hS hP dX9_saidAt_59
      · rw [if_neg b2] at hE
        refine lv_aload_n hx hb dX9_saidAt_19 rfl (lv_at hl 0 rfl) ?_
        refine lv_iload_n hx hb dX9_saidAt_20 rfl (lv_at hl 1 rfl) ?_
        refine lv_iload hx hb dX9_saidAt_21 (lv_at hl 4 rfl) ?_
        refine ct_Vi (VG_fix E cI cC) hZo hZb hZ S0 (kX9_at l D E cI cC Z hZo hZb M table place (by omega) (by omega) (fX9_at M table place) rfl) (cwV 2 hts gX9_saidAt_X9_at rfl rfl rfl (by decide +kernel) ⟨(Nat.le_of_ble_eq_true rfl), (Nat.le_of_ble_eq_true rfl)⟩) hK hP hD hS rfl rfl VG_0 rfl hl.1 rfl (Nat.le_of_ble_eq_true rfl) dX9_saidAt_23 ⟨Nat.zero_le _, Nat.zero_le _⟩ (fun H locs hP hD hS => ?_)
        have q3 := rg_X9_at hG table place (by omega) (by omega)
        refine lv_istore hx hb dX9_saidAt_26 hl (Nat.le_of_ble_eq_true rfl) (lv' := [(5, .int (iI (fX9_at M table place))), (0, .ref (E 0)), (1, .int (iI table)), (2, .int (iI number)), (3, .int (iI n)), (4, .int (iI place))]) rfl (fun ls hl => ?_)
        refine lv_aload_n hx hb dX9_saidAt_28 rfl (lv_at hl 1 rfl) ?_
        refine va_get (own := RX9) (ref := "NapkinSyntaxModel") (C := RX9) (T := TX9) (N := 20) hx hb hts hinX9 hown hK hP 0 VG_0 rfl 0 (Nat.le_of_ble_eq_true rfl) (hts (.fieldLink RX9 7 "NapkinSyntaxModel" "g" "[I") (by decide +kernel)) (fun _ h => h) (v := .ref (E 1)) rfl dX9_saidAt_29 ?_
        refine z_bipush hx hb dX9_saidAt_32 (by decide +kernel) ?_
        refine lv_iload hx hb dX9_saidAt_34 (lv_at hl 0 rfl) ?_
        refine z_iadd hx hb dX9_saidAt_36 ?_
        refine z_iald hx hb hK hP 1 0 VG_1 rfl (by omega) (by omega) (by decide) dX9_saidAt_37 ?_
        have q4 := GI_15 hG ((15) + (fX9_at M table place)) (by omega) (by omega)
        refine z_if_le hx hb dX9_saidAt_38 (tgt := 52) rfl (by omega) (fun b5 => ?_) (fun b5 => ?_)
        · rw [if_pos b5] at hE
          refine z_iinc hx hb dX9_saidAt_52 hl (k := 5) rfl (Nat.le_of_ble_eq_true rfl) (lv' := [(4, .int (iI (place + 1))), (5, .int (iI (fX9_at M table place))), (0, .ref (E 0)), (1, .int (iI table)), (2, .int (iI number)), (3, .int (iI n))]) rfl (fun ls hl => ?_)
          refine lv_goto hx hb dX9_saidAt_55 (tgt := 5) rfl ?_
          exact ih1 n (place + 1) ls _ _ (lv_sub hl [2, 3, 4, 5, 0] rfl) hP hD hS (by omega) (by omega) (by omega) hE
        · rw [if_neg b5] at hE
          refine lv_iload_n hx hb dX9_saidAt_41 rfl (lv_at hl 4 rfl) ?_
          refine lv_iload_n hx hb dX9_saidAt_42 rfl (lv_at hl 3 rfl) ?_
          refine z_icmp_ne hx hb dX9_saidAt_43 (tgt := 49) rfl (by omega) (by omega) (fun b6 => ?_) (fun b6 => ?_)
          · rw [if_neg b6] at hE
            refine z_iinc hx hb dX9_saidAt_49 hl (k := 4) rfl (Nat.le_of_ble_eq_true rfl) (lv' := [(3, .int (iI (n + 1))), (5, .int (iI (fX9_at M table place))), (0, .ref (E 0)), (1, .int (iI table)), (2, .int (iI number)), (4, .int (iI place))]) rfl (fun ls hl => ?_)
            refine z_iinc hx hb dX9_saidAt_52 hl (k := 5) rfl (Nat.le_of_ble_eq_true rfl) (lv' := [(4, .int (iI (place + 1))), (3, .int (iI (n + 1))), (5, .int (iI (fX9_at M table place))), (0, .ref (E 0)), (1, .int (iI table)), (2, .int (iI number))]) rfl (fun ls hl => ?_)
            refine lv_goto hx hb dX9_saidAt_55 (tgt := 5) rfl ?_
            exact ih1 (n + 1) (place + 1) ls _ _ (lv_sub hl [3, 4, 5, 1, 0] rfl) hP hD hS (by omega) (by omega) (by omega) hE
          · rw [if_pos b6] at hE
            refine lv_iload hx hb dX9_saidAt_46 (lv_at hl 0 rfl) ?_
            exact ci_i hx hb hr hlocks hE rfl hS hP dX9_saidAt_48
  exact L1 7 (0) (0) ls _ _ (lv_sub hl [2, 3, 4, 1, 0] rfl) hP hD hS (by omega) (by omega) (by omega) hE


theorem rg_X9_saidAt_L {M : Mem} (h : GI M) (t f : Int) (ht : 0 ≤ t ∧ t < 3) : ∀ (k : Nat) (n p : Int), 0 ≤ p → p ≤ 6 → -1 ≤ fX9_saidAt_L1 M t f k n p ∧ fX9_saidAt_L1 M t f k n p ≤ 9 := by
  have g := GI_55 h (55 + t) (by omega) (by omega)
  intro k
  induction k with
  | zero => intro n p _ _; exact ⟨(by decide : (-1 : Int) ≤ 0), (by decide : (0 : Int) ≤ 9)⟩
  | succ k ih =>
    intro n p h1 h2
    rw [fX9_saidAt_L1]
    by_cases he : M 0 (55 + t) ≤ p
    · rw [if_pos he]; exact ⟨(by decide : (-1 : Int) ≤ -1), (by decide : (-1 : Int) ≤ 9)⟩
    · rw [if_neg he]
      have a := rg_X9_at h t p ht (by omega)
      (repeat' split) <;> first | omega | exact ih _ _ (by omega) (by omega)
theorem rg_X9_saidAt {M : Mem} (h : GI M) (t f : Int) (ht : 0 ≤ t ∧ t < 3) : -1 ≤ fX9_saidAt M t f ∧ fX9_saidAt M t f ≤ 9 := rg_X9_saidAt_L h t f ht 7 0 0 (by decide) (by decide)

def fX9_foldAt (M : Mem) (table number : Int) : Int := (M 0 ((15) + (fX9_saidAt M table number)))
set_option maxRecDepth 100000 in
set_option maxHeartbeats 4000000 in
theorem kX9_foldAt (l : Launch) (D : va_G) (E : Nat → Nat) (cI cC : ClassId) (Z : State → Prop) (hZo : ∀ M : Mem, ZOk (VG E cI cC M) Z) (hZb : ZBl Z) (M : Mem) (table number : Int) (h1 : 0 ≤ table ∧ table < 3) (h2 : -2147483648 ≤ number ∧ number < 2147483648) (hG : GI M) (r : Int) (hE : fX9_foldAt M table number = r) : Ci l yX9_foldAt wsX9_foldAt 2 47 [.ref (E 0), .int (iI table), .int (iI number)] D (TY cI cC) (VG E cI cC) Z M r M := by
  refine Ci.of (cc := cX9_foldAt) (maxL := 3) (ret := (some .int)) (by decide +kernel) rfl (Nat.le_of_ble_eq_true rfl) ?_
  intro p e s m args below meth c ls hx hb hml hr hown hts hlocks hP hK hD hZ hS hl
  have hl : lv_has ls 3 [(0, .ref (E 0)), (1, .int (iI table)), (2, .int (iI number))] := hl
  have S0 : CallFix p m c cX9_foldAt 3 s args wsX9_foldAt RX9 := ⟨hx, hb, hml, hown, hts⟩
  have hinX9 : ∀ w ∈ u_ws RX9 TX9 20, w ∈ wsX9_foldAt := by decide +kernel
  rw [fX9_foldAt] at hE
  refine lv_aload_n hx hb dX9_foldAt_0 rfl (lv_at hl 0 rfl) ?_
  refine va_get (own := RX9) (ref := "NapkinSyntaxModel") (C := RX9) (T := TX9) (N := 20) hx hb hts hinX9 hown hK hP 0 VG_0 rfl 0 (Nat.le_of_ble_eq_true rfl) (hts (.fieldLink RX9 7 "NapkinSyntaxModel" "g" "[I") (by decide +kernel)) (fun _ h => h) (v := .ref (E 1)) rfl dX9_foldAt_1 ?_
  refine z_bipush hx hb dX9_foldAt_4 (by decide +kernel) ?_
  refine lv_aload_n hx hb dX9_foldAt_6 rfl (lv_at hl 0 rfl) ?_
  refine lv_iload_n hx hb dX9_foldAt_7 rfl (lv_at hl 1 rfl) ?_
  refine lv_iload_n hx hb dX9_foldAt_8 rfl (lv_at hl 2 rfl) ?_
  refine ct_Vi (VG_fix E cI cC) hZo hZb hZ S0 (kX9_saidAt l D E cI cC Z hZo hZb M table number (by omega) (by omega) hG (fX9_saidAt M table number) rfl) (cwV 2 hts gX9_foldAt_X9_saidAt rfl rfl rfl (by decide +kernel) ⟨(Nat.le_of_ble_eq_true rfl), (Nat.le_of_ble_eq_true rfl)⟩) hK hP hD hS rfl rfl VG_0 rfl hl.1 rfl (Nat.le_of_ble_eq_true rfl) dX9_foldAt_9 ⟨Nat.zero_le _, Nat.zero_le _⟩ (fun H locs hP hD hS => ?_)
  have q1 := rg_X9_saidAt hG table number (by omega)
  refine z_iadd hx hb dX9_foldAt_12 ?_
  refine z_iald hx hb hK hP 1 0 VG_1 rfl (by omega) (by omega) (by decide) dX9_foldAt_13 ?_
  have q2 := GI_15 hG ((15) + (fX9_saidAt M table number)) (by omega) (by omega)
  exact ci_i hx hb hr hlocks hE rfl hS hP dX9_foldAt_14


theorem rg_X9_foldAt {M : Mem} (h : GI M) (t n : Int) (ht : 0 ≤ t ∧ t < 3) : 0 ≤ fX9_foldAt M t n ∧ fX9_foldAt M t n ≤ 4 := by
  have a := rg_X9_saidAt h t n ht
  unfold fX9_foldAt
  exact GI_15 h _ (by omega) (by omega)

def fX9_stateOf_L1 (M : Mem) (table : Int) : Nat → Int → Int → (Int)
  | 0, _, _ => 0
  | k1 + 1, state, ii => if ((fX9_countOf M table (0)) ≤ ii) then state else fX9_stateOf_L1 M table k1 (fX9_goesOn state (fX9_foldAt M table ii)) (ii + 1)
def fX9_stateOf (M : Mem) (table : Int) : Int := fX9_stateOf_L1 M table 7 (0) (0)
set_option maxRecDepth 100000 in
set_option maxHeartbeats 4000000 in
theorem kX9_stateOf (l : Launch) (D : va_G) (E : Nat → Nat) (cI cC : ClassId) (Z : State → Prop) (hZo : ∀ M : Mem, ZOk (VG E cI cC M) Z) (hZb : ZBl Z) (M : Mem) (table : Int) (h1 : 0 ≤ table ∧ table < 3) (hG : GI M) (r : Int) (hE : fX9_stateOf M table = r) : Ci l yX9_stateOf wsX9_stateOf 3 69 [.ref (E 0), .int (iI table)] D (TY cI cC) (VG E cI cC) Z M r M := by
  refine Ci.of (cc := cX9_stateOf) (maxL := 4) (ret := (some .int)) (by decide +kernel) rfl (Nat.le_of_ble_eq_true rfl) ?_
  intro p e s m args below meth c ls hx hb hml hr hown hts hlocks hP hK hD hZ hS hl
  have hl : lv_has ls 4 [(0, .ref (E 0)), (1, .int (iI table))] := hl
  have S0 : CallFix p m c cX9_stateOf 4 s args wsX9_stateOf RX9 := ⟨hx, hb, hml, hown, hts⟩
  rw [fX9_stateOf] at hE
  refine z_iconst hx hb dX9_stateOf_0 ?_
  refine lv_istore_n hx hb dX9_stateOf_1 rfl hl (Nat.le_of_ble_eq_true rfl) (lv' := [(2, .int (iI (0))), (0, .ref (E 0)), (1, .int (iI table))]) rfl (fun ls hl => ?_)
  refine z_iconst hx hb dX9_stateOf_2 ?_
  refine lv_istore_n hx hb dX9_stateOf_3 rfl hl (Nat.le_of_ble_eq_true rfl) (lv' := [(3, .int (iI (0))), (2, .int (iI (0))), (0, .ref (E 0)), (1, .int (iI table))]) rfl (fun ls hl => ?_)
  have L1 : ∀ (k1 : Nat) (state ii : Int) (ls : Array Slot) (H : Heap) (locs : List Loc), lv_has ls 4 [(0, .ref (E 0)), (1, .int (iI table)), (2, .int (iI state)), (3, .int (iI ii))] → va_P D vwCl (VG E cI cC M) H → va_D (wA (VG E cI cC M)) (VG E cI cC M) → va_S (wA (VG E cI cC M)) s.heap H locs → (0 ≤ ii ∧ ii ≤ 6) → (6 - ii < (k1 : Int)) → (0 ≤ state ∧ state ≤ 4) → fX9_stateOf_L1 M table k1 state ii = r → W p l e (zRm 3 69) s m args below meth c H locs 0 0 (MQ below (ciQ D (VG E cI cC) M r M) args s 0 0 (wA (VG E cI cC M))) (F0 m 4 ls []) := by
    intro k1
    induction k1 with
    | zero => intro state ii ls H locs hl hP hD hS i1 i3 i4 hE; exfalso; omega
    | succ k1 ih1 =>
      intro state ii ls H locs hl hP hD hS i1 i3 i4 hE
      have q96 := rg_X9_countOf hG table (0) (by omega)
      rw [fX9_stateOf_L1] at hE
      refine lv_iload_n hx hb dX9_stateOf_4 rfl (lv_at hl 3 rfl) ?_
      refine lv_aload_n hx hb dX9_stateOf_5 rfl (lv_at hl 0 rfl) ?_
      refine lv_iload_n hx hb dX9_stateOf_6 rfl (lv_at hl 1 rfl) ?_
      refine z_iconst hx hb dX9_stateOf_7 ?_
      refine ct_Vi (VG_fix E cI cC) hZo hZb hZ S0 (kX9_countOf l D E cI cC Z hZo hZb M table (0) (by omega) (by omega) hG (fX9_countOf M table (0)) rfl) (cwV 2 hts gX9_stateOf_X9_countOf rfl rfl rfl (by decide +kernel) ⟨(Nat.le_of_ble_eq_true rfl), (Nat.le_of_ble_eq_true rfl)⟩) hK hP hD hS rfl rfl VG_0 rfl hl.1 rfl (Nat.le_of_ble_eq_true rfl) dX9_stateOf_8 ⟨Nat.zero_le _, Nat.zero_le _⟩ (fun H locs hP hD hS => ?_)
      have q1 := rg_X9_countOf hG table (0) (by omega)
      refine z_icmp_ge hx hb dX9_stateOf_11 (tgt := 31) rfl (by omega) (by omega) (fun b2 => ?_) (fun b2 => ?_)
      · rw [if_pos b2] at hE
        refine lv_iload_n hx hb dX9_stateOf_31 rfl (lv_at hl 2 rfl) ?_
        exact ci_i hx hb hr hlocks hE rfl hS hP dX9_stateOf_32
      · rw [if_neg b2] at hE
        refine lv_iload_n hx hb dX9_stateOf_14 rfl (lv_at hl 2 rfl) ?_
        refine lv_aload_n hx hb dX9_stateOf_15 rfl (lv_at hl 0 rfl) ?_
        refine lv_iload_n hx hb dX9_stateOf_16 rfl (lv_at hl 1 rfl) ?_
        refine lv_iload_n hx hb dX9_stateOf_17 rfl (lv_at hl 3 rfl) ?_
        refine ct_Vi (VG_fix E cI cC) hZo hZb hZ S0 (kX9_foldAt l D E cI cC Z hZo hZb M table ii (by omega) (by omega) hG (fX9_foldAt M table ii) rfl) (cwV 2 hts gX9_stateOf_X9_foldAt rfl rfl rfl (by decide +kernel) ⟨(Nat.le_of_ble_eq_true rfl), (Nat.le_of_ble_eq_true rfl)⟩) hK hP hD hS rfl rfl VG_0 rfl hl.1 rfl (Nat.le_of_ble_eq_true rfl) dX9_stateOf_18 ⟨Nat.zero_le _, Nat.zero_le _⟩ (fun H locs hP hD hS => ?_)
        have q3 := rg_X9_foldAt hG table ii (by omega)
        refine ct_Si (VG_fix E cI cC) hZo hZb hZ S0 (kX9_goesOn l D E cI cC Z hZo hZb M state (fX9_foldAt M table ii) (by omega) (by omega) (fX9_goesOn state (fX9_foldAt M table ii)) rfl) (va_cwS 2 hts gX9_stateOf_X9_goesOn rfl rfl rfl (by decide +kernel) ⟨(Nat.le_of_ble_eq_true rfl), (Nat.le_of_ble_eq_true rfl)⟩) hK hP hD hS rfl hl.1 rfl (Nat.le_of_ble_eq_true rfl) dX9_stateOf_21 ⟨Nat.zero_le _, Nat.zero_le _⟩ (fun H locs hP hD hS => ?_)
        have q4 := rg_X9_goesOn state (fX9_foldAt M table ii)
        refine lv_istore_n hx hb dX9_stateOf_24 rfl hl (Nat.le_of_ble_eq_true rfl) (lv' := [(2, .int (iI (fX9_goesOn state (fX9_foldAt M table ii)))), (0, .ref (E 0)), (1, .int (iI table)), (3, .int (iI ii))]) rfl (fun ls hl => ?_)
        refine z_iinc hx hb dX9_stateOf_25 hl (k := 3) rfl (Nat.le_of_ble_eq_true rfl) (lv' := [(3, .int (iI (ii + 1))), (2, .int (iI (fX9_goesOn state (fX9_foldAt M table ii)))), (0, .ref (E 0)), (1, .int (iI table))]) rfl (fun ls hl => ?_)
        refine lv_goto hx hb dX9_stateOf_28 (tgt := 4) rfl ?_
        exact ih1 (fX9_goesOn state (fX9_foldAt M table ii)) (ii + 1) ls _ _ (lv_sub hl [2, 3, 1, 0] rfl) hP hD hS (by omega) (by omega) (by omega) hE
  exact L1 7 (0) (0) ls _ _ (lv_sub hl [2, 3, 1, 0] rfl) hP hD hS (by omega) (by omega) (by omega) hE


theorem rg_X9_stateOf_L {M : Mem} (t : Int) : ∀ (k : Nat) (s n : Int), 0 ≤ s → s ≤ 4 → 0 ≤ fX9_stateOf_L1 M t k s n ∧ fX9_stateOf_L1 M t k s n ≤ 4 := by
  intro k
  induction k with
  | zero => intro s n _ _; exact ⟨(by decide : (0 : Int) ≤ 0), (by decide : (0 : Int) ≤ 4)⟩
  | succ k ih =>
    intro s n h1 h2
    rw [fX9_stateOf_L1]
    have := rg_X9_goesOn s (fX9_foldAt M t n)
    (repeat' split) <;> first | omega | exact ih _ _ (by omega) (by omega)
theorem rg_X9_stateOf {M : Mem} (_ : GI M) (t : Int) : 0 ≤ fX9_stateOf M t ∧ fX9_stateOf M t ≤ 4 := rg_X9_stateOf_L t 7 0 0 (by decide) (by decide)

def fX9_rightly (M : Mem) (table : Int) : Int := (fX9_isEnd (fX9_stateOf M table))
set_option maxRecDepth 100000 in
set_option maxHeartbeats 4000000 in
theorem kX9_rightly (l : Launch) (D : va_G) (E : Nat → Nat) (cI cC : ClassId) (Z : State → Prop) (hZo : ∀ M : Mem, ZOk (VG E cI cC M) Z) (hZb : ZBl Z) (M : Mem) (table : Int) (h1 : 0 ≤ table ∧ table < 3) (hG : GI M) (r : Int) (hE : fX9_rightly M table = r) : Ci l yX9_rightly wsX9_rightly 4 92 [.ref (E 0), .int (iI table)] D (TY cI cC) (VG E cI cC) Z M r M := by
  refine Ci.of (cc := cX9_rightly) (maxL := 2) (ret := (some .boolean)) (by decide +kernel) rfl (Nat.le_of_ble_eq_true rfl) ?_
  intro p e s m args below meth c ls hx hb hml hr hown hts hlocks hP hK hD hZ hS hl
  have hl : lv_has ls 2 [(0, .ref (E 0)), (1, .int (iI table))] := hl
  have S0 : CallFix p m c cX9_rightly 2 s args wsX9_rightly RX9 := ⟨hx, hb, hml, hown, hts⟩
  rw [fX9_rightly] at hE
  refine lv_aload_n hx hb dX9_rightly_0 rfl (lv_at hl 0 rfl) ?_
  refine lv_iload_n hx hb dX9_rightly_1 rfl (lv_at hl 1 rfl) ?_
  refine ct_Vi (VG_fix E cI cC) hZo hZb hZ S0 (kX9_stateOf l D E cI cC Z hZo hZb M table (by omega) hG (fX9_stateOf M table) rfl) (cwV 1 hts gX9_rightly_X9_stateOf rfl rfl rfl (by decide +kernel) ⟨(Nat.le_of_ble_eq_true rfl), (Nat.le_of_ble_eq_true rfl)⟩) hK hP hD hS rfl rfl VG_0 rfl hl.1 rfl (Nat.le_of_ble_eq_true rfl) dX9_rightly_2 ⟨Nat.zero_le _, Nat.zero_le _⟩ (fun H locs hP hD hS => ?_)
  have q1 := rg_X9_stateOf hG table
  refine ct_Si (VG_fix E cI cC) hZo hZb hZ S0 (kX9_isEnd l D E cI cC Z hZo hZb M (fX9_stateOf M table) (by omega) (fX9_isEnd (fX9_stateOf M table)) rfl) (va_cwS 1 hts gX9_rightly_X9_isEnd rfl rfl rfl (by decide +kernel) ⟨(Nat.le_of_ble_eq_true rfl), (Nat.le_of_ble_eq_true rfl)⟩) hK hP hD hS rfl hl.1 rfl (Nat.le_of_ble_eq_true rfl) dX9_rightly_5 ⟨Nat.zero_le _, Nat.zero_le _⟩ (fun H locs hP hD hS => ?_)
  have q2 := bX9_isEnd (fX9_stateOf M table)
  exact ci_i hx hb hr hlocks hE (nr_bb (by omega) (by omega)) hS hP dX9_rightly_8


theorem bX9_rightly (M : Mem) (t : Int) : 0 ≤ fX9_rightly M t ∧ fX9_rightly M t ≤ 1 := bX9_isEnd _

def fX9_wrongAt_L1 (M : Mem) (table : Int) : Nat → Int → Int → (Int)
  | 0, _, _ => 0
  | k1 + 1, state, ii => if ((fX9_countOf M table (0)) ≤ ii) then if ((fX9_isEnd state) = 0) then (fX9_countOf M table (0)) else (-1) else if ((fX9_goesOn state (fX9_foldAt M table ii)) = (4)) then ii else fX9_wrongAt_L1 M table k1 (fX9_goesOn state (fX9_foldAt M table ii)) (ii + 1)
def fX9_wrongAt (M : Mem) (table : Int) : Int := fX9_wrongAt_L1 M table 7 (0) (0)
set_option maxRecDepth 100000 in
set_option maxHeartbeats 4000000 in
theorem kX9_wrongAt (l : Launch) (D : va_G) (E : Nat → Nat) (cI cC : ClassId) (Z : State → Prop) (hZo : ∀ M : Mem, ZOk (VG E cI cC M) Z) (hZb : ZBl Z) (M : Mem) (table : Int) (h1 : 0 ≤ table ∧ table < 3) (hG : GI M) (r : Int) (hE : fX9_wrongAt M table = r) : Ci l yX9_wrongAt wsX9_wrongAt 3 69 [.ref (E 0), .int (iI table)] D (TY cI cC) (VG E cI cC) Z M r M := by
  refine Ci.of (cc := cX9_wrongAt) (maxL := 5) (ret := (some .int)) (by decide +kernel) rfl (Nat.le_of_ble_eq_true rfl) ?_
  intro p e s m args below meth c ls hx hb hml hr hown hts hlocks hP hK hD hZ hS hl
  have hl : lv_has ls 5 [(0, .ref (E 0)), (1, .int (iI table))] := hl
  have S0 : CallFix p m c cX9_wrongAt 5 s args wsX9_wrongAt RX9 := ⟨hx, hb, hml, hown, hts⟩
  rw [fX9_wrongAt] at hE
  refine z_iconst hx hb dX9_wrongAt_0 ?_
  refine lv_istore_n hx hb dX9_wrongAt_1 rfl hl (Nat.le_of_ble_eq_true rfl) (lv' := [(2, .int (iI (0))), (0, .ref (E 0)), (1, .int (iI table))]) rfl (fun ls hl => ?_)
  refine lv_aload_n hx hb dX9_wrongAt_2 rfl (lv_at hl 1 rfl) ?_
  refine lv_iload_n hx hb dX9_wrongAt_3 rfl (lv_at hl 2 rfl) ?_
  refine z_iconst hx hb dX9_wrongAt_4 ?_
  refine ct_Vi (VG_fix E cI cC) hZo hZb hZ S0 (kX9_countOf l D E cI cC Z hZo hZb M table (0) (by omega) (by omega) hG (fX9_countOf M table (0)) rfl) (cwV 2 hts gX9_wrongAt_X9_countOf rfl rfl rfl (by decide +kernel) ⟨(Nat.le_of_ble_eq_true rfl), (Nat.le_of_ble_eq_true rfl)⟩) hK hP hD hS rfl rfl VG_0 rfl hl.1 rfl (Nat.le_of_ble_eq_true rfl) dX9_wrongAt_5 ⟨Nat.zero_le _, Nat.zero_le _⟩ (fun H locs hP hD hS => ?_)
  have q1 := rg_X9_countOf hG table (0) (by omega)
  refine lv_istore_n hx hb dX9_wrongAt_8 rfl hl (Nat.le_of_ble_eq_true rfl) (lv' := [(3, .int (iI (fX9_countOf M table (0)))), (2, .int (iI (0))), (0, .ref (E 0)), (1, .int (iI table))]) rfl (fun ls hl => ?_)
  refine z_iconst hx hb dX9_wrongAt_9 ?_
  refine lv_istore hx hb dX9_wrongAt_10 hl (Nat.le_of_ble_eq_true rfl) (lv' := [(4, .int (iI (0))), (3, .int (iI (fX9_countOf M table (0)))), (2, .int (iI (0))), (0, .ref (E 0)), (1, .int (iI table))]) rfl (fun ls hl => ?_)
  have L1 : ∀ (k1 : Nat) (state ii : Int) (ls : Array Slot) (H : Heap) (locs : List Loc), lv_has ls 5 [(0, .ref (E 0)), (1, .int (iI table)), (2, .int (iI state)), (3, .int (iI (fX9_countOf M table (0)))), (4, .int (iI ii))] → va_P D vwCl (VG E cI cC M) H → va_D (wA (VG E cI cC M)) (VG E cI cC M) → va_S (wA (VG E cI cC M)) s.heap H locs → (0 ≤ ii ∧ ii ≤ 6) → (6 - ii < (k1 : Int)) → (0 ≤ state ∧ state ≤ 4) → fX9_wrongAt_L1 M table k1 state ii = r → W p l e (zRm 3 69) s m args below meth c H locs 0 0 (MQ below (ciQ D (VG E cI cC) M r M) args s 0 0 (wA (VG E cI cC M))) (F0 m 12 ls []) := by
    intro k1
    induction k1 with
    | zero => intro state ii ls H locs hl hP hD hS i1 i3 i4 hE; exfalso; omega
    | succ k1 ih1 =>
      intro state ii ls H locs hl hP hD hS i1 i3 i4 hE
      have q96 := rg_X9_countOf hG table (0) (by omega)
      rw [fX9_wrongAt_L1] at hE
      refine lv_iload hx hb dX9_wrongAt_12 (lv_at hl 4 rfl) ?_
      refine lv_iload_n hx hb dX9_wrongAt_14 rfl (lv_at hl 3 rfl) ?_
      refine z_icmp_ge hx hb dX9_wrongAt_15 (tgt := 44) rfl (by omega) (by omega) (fun b2 => ?_) (fun b2 => ?_)
      · rw [if_pos b2] at hE
        refine lv_iload_n hx hb dX9_wrongAt_44 rfl (lv_at hl 2 rfl) ?_
        refine ct_Si (VG_fix E cI cC) hZo hZb hZ S0 (kX9_isEnd l D E cI cC Z hZo hZb M state (by omega) (fX9_isEnd state) rfl) (va_cwS 1 hts gX9_wrongAt_X9_isEnd rfl rfl rfl (by decide +kernel) ⟨(Nat.le_of_ble_eq_true rfl), (Nat.le_of_ble_eq_true rfl)⟩) hK hP hD hS rfl hl.1 rfl (Nat.le_of_ble_eq_true rfl) dX9_wrongAt_45 ⟨Nat.zero_le _, Nat.zero_le _⟩ (fun H locs hP hD hS => ?_)
        have q3 := bX9_isEnd state
        refine z_if_eq hx hb dX9_wrongAt_48 (tgt := 55) rfl (by omega) (fun b4 => ?_) (fun b4 => ?_)
        · rw [if_pos b4] at hE
          refine lv_iload_n hx hb dX9_wrongAt_55 rfl (lv_at hl 3 rfl) ?_
          exact ci_i hx hb hr hlocks hE rfl hS hP dX9_wrongAt_56
        · rw [if_neg b4] at hE
          refine z_iconst hx hb dX9_wrongAt_51 ?_
          refine lv_goto hx hb dX9_wrongAt_52 (tgt := 56) rfl ?_
          exact ci_i hx hb hr hlocks hE rfl hS hP dX9_wrongAt_56
      · rw [if_neg b2] at hE
        refine lv_iload_n hx hb dX9_wrongAt_18 rfl (lv_at hl 2 rfl) ?_
        refine lv_aload_n hx hb dX9_wrongAt_19 rfl (lv_at hl 0 rfl) ?_
        refine lv_iload_n hx hb dX9_wrongAt_20 rfl (lv_at hl 1 rfl) ?_
        refine lv_iload hx hb dX9_wrongAt_21 (lv_at hl 4 rfl) ?_
        refine ct_Vi (VG_fix E cI cC) hZo hZb hZ S0 (kX9_foldAt l D E cI cC Z hZo hZb M table ii (by omega) (by omega) hG (fX9_foldAt M table ii) rfl) (cwV 2 hts gX9_wrongAt_X9_foldAt rfl rfl rfl (by decide +kernel) ⟨(Nat.le_of_ble_eq_true rfl), (Nat.le_of_ble_eq_true rfl)⟩) hK hP hD hS rfl rfl VG_0 rfl hl.1 rfl (Nat.le_of_ble_eq_true rfl) dX9_wrongAt_23 ⟨Nat.zero_le _, Nat.zero_le _⟩ (fun H locs hP hD hS => ?_)
        have q5 := rg_X9_foldAt hG table ii (by omega)
        refine ct_Si (VG_fix E cI cC) hZo hZb hZ S0 (kX9_goesOn l D E cI cC Z hZo hZb M state (fX9_foldAt M table ii) (by omega) (by omega) (fX9_goesOn state (fX9_foldAt M table ii)) rfl) (va_cwS 2 hts gX9_wrongAt_X9_goesOn rfl rfl rfl (by decide +kernel) ⟨(Nat.le_of_ble_eq_true rfl), (Nat.le_of_ble_eq_true rfl)⟩) hK hP hD hS rfl hl.1 rfl (Nat.le_of_ble_eq_true rfl) dX9_wrongAt_26 ⟨Nat.zero_le _, Nat.zero_le _⟩ (fun H locs hP hD hS => ?_)
        have q6 := rg_X9_goesOn state (fX9_foldAt M table ii)
        refine lv_istore_n hx hb dX9_wrongAt_29 rfl hl (Nat.le_of_ble_eq_true rfl) (lv' := [(2, .int (iI (fX9_goesOn state (fX9_foldAt M table ii)))), (0, .ref (E 0)), (1, .int (iI table)), (3, .int (iI (fX9_countOf M table (0)))), (4, .int (iI ii))]) rfl (fun ls hl => ?_)
        refine lv_iload_n hx hb dX9_wrongAt_30 rfl (lv_at hl 0 rfl) ?_
        refine z_iconst hx hb dX9_wrongAt_31 ?_
        refine z_icmp_ne hx hb dX9_wrongAt_32 (tgt := 38) rfl (by omega) (by omega) (fun b7 => ?_) (fun b7 => ?_)
        · rw [if_neg b7] at hE
          refine z_iinc hx hb dX9_wrongAt_38 hl (k := 4) rfl (Nat.le_of_ble_eq_true rfl) (lv' := [(4, .int (iI (ii + 1))), (2, .int (iI (fX9_goesOn state (fX9_foldAt M table ii)))), (0, .ref (E 0)), (1, .int (iI table)), (3, .int (iI (fX9_countOf M table (0))))]) rfl (fun ls hl => ?_)
          refine lv_goto hx hb dX9_wrongAt_41 (tgt := 12) rfl ?_
          exact ih1 (fX9_goesOn state (fX9_foldAt M table ii)) (ii + 1) ls _ _ (lv_sub hl [2, 3, 1, 4, 0] rfl) hP hD hS (by omega) (by omega) (by omega) hE
        · rw [if_pos b7] at hE
          refine lv_iload hx hb dX9_wrongAt_35 (lv_at hl 4 rfl) ?_
          exact ci_i hx hb hr hlocks hE rfl hS hP dX9_wrongAt_37
  exact L1 7 (0) (0) ls _ _ (lv_sub hl [3, 4, 2, 1, 0] rfl) hP hD hS (by omega) (by omega) (by omega) hE

def fX9_phrasesOf (M : Mem) (table : Int) : Int := if ((fX9_rightly M table) = 0) then (0) else ((fX9_countOf M table (4)) + (1))
set_option maxRecDepth 100000 in
set_option maxHeartbeats 4000000 in
theorem kX9_phrasesOf (l : Launch) (D : va_G) (E : Nat → Nat) (cI cC : ClassId) (Z : State → Prop) (hZo : ∀ M : Mem, ZOk (VG E cI cC M) Z) (hZb : ZBl Z) (M : Mem) (table : Int) (h1 : 0 ≤ table ∧ table < 3) (hG : GI M) (r : Int) (hE : fX9_phrasesOf M table = r) : Ci l yX9_phrasesOf wsX9_phrasesOf 5 113 [.ref (E 0), .int (iI table)] D (TY cI cC) (VG E cI cC) Z M r M := by
  refine Ci.of (cc := cX9_phrasesOf) (maxL := 2) (ret := (some .int)) (by decide +kernel) rfl (Nat.le_of_ble_eq_true rfl) ?_
  intro p e s m args below meth c ls hx hb hml hr hown hts hlocks hP hK hD hZ hS hl
  have hl : lv_has ls 2 [(0, .ref (E 0)), (1, .int (iI table))] := hl
  have S0 : CallFix p m c cX9_phrasesOf 2 s args wsX9_phrasesOf RX9 := ⟨hx, hb, hml, hown, hts⟩
  rw [fX9_phrasesOf] at hE
  refine lv_aload_n hx hb dX9_phrasesOf_0 rfl (lv_at hl 0 rfl) ?_
  refine lv_iload_n hx hb dX9_phrasesOf_1 rfl (lv_at hl 1 rfl) ?_
  refine ct_Vi (VG_fix E cI cC) hZo hZb hZ S0 (kX9_rightly l D E cI cC Z hZo hZb M table (by omega) hG (fX9_rightly M table) rfl) (cwV 1 hts gX9_phrasesOf_X9_rightly rfl rfl rfl (by decide +kernel) ⟨(Nat.le_of_ble_eq_true rfl), (Nat.le_of_ble_eq_true rfl)⟩) hK hP hD hS rfl rfl VG_0 rfl hl.1 rfl (Nat.le_of_ble_eq_true rfl) dX9_phrasesOf_2 ⟨Nat.zero_le _, Nat.zero_le _⟩ (fun H locs hP hD hS => ?_)
  have q1 := bX9_rightly M table
  refine z_if_eq hx hb dX9_phrasesOf_5 (tgt := 19) rfl (by omega) (fun b2 => ?_) (fun b2 => ?_)
  · rw [if_pos b2] at hE
    refine z_iconst hx hb dX9_phrasesOf_19 ?_
    exact ci_i hx hb hr hlocks hE rfl hS hP dX9_phrasesOf_20
  · rw [if_neg b2] at hE
    refine lv_aload_n hx hb dX9_phrasesOf_8 rfl (lv_at hl 0 rfl) ?_
    refine lv_iload_n hx hb dX9_phrasesOf_9 rfl (lv_at hl 1 rfl) ?_
    refine z_iconst hx hb dX9_phrasesOf_10 ?_
    refine ct_Vi (VG_fix E cI cC) hZo hZb hZ S0 (kX9_countOf l D E cI cC Z hZo hZb M table (4) (by omega) (by omega) hG (fX9_countOf M table (4)) rfl) (cwV 2 hts gX9_phrasesOf_X9_countOf rfl rfl rfl (by decide +kernel) ⟨(Nat.le_of_ble_eq_true rfl), (Nat.le_of_ble_eq_true rfl)⟩) hK hP hD hS rfl rfl VG_0 rfl hl.1 rfl (Nat.le_of_ble_eq_true rfl) dX9_phrasesOf_11 ⟨Nat.zero_le _, Nat.zero_le _⟩ (fun H locs hP hD hS => ?_)
    have q3 := rg_X9_countOf hG table (4) (by omega)
    refine z_iconst hx hb dX9_phrasesOf_14 ?_
    refine z_iadd hx hb dX9_phrasesOf_15 ?_
    refine lv_goto hx hb dX9_phrasesOf_16 (tgt := 20) rfl ?_
    exact ci_i hx hb hr hlocks hE rfl hS hP dX9_phrasesOf_20

def fX9_doubtOf_L1 (M : Mem) (table : Int) : Nat → Int → Int → (Int)
  | 0, _, _ => 0
  | k1 + 1, sum, ii => if ((fX9_countOf M table (0)) ≤ ii) then sum else fX9_doubtOf_L1 M table k1 (sum + (M 0 ((35) + (fX9_saidAt M table ii)))) (ii + 1)
def fX9_doubtOf (M : Mem) (table : Int) : Int := fX9_doubtOf_L1 M table 7 (0) (0)
set_option maxRecDepth 100000 in
set_option maxHeartbeats 4000000 in
theorem kX9_doubtOf (l : Launch) (D : va_G) (E : Nat → Nat) (cI cC : ClassId) (Z : State → Prop) (hZo : ∀ M : Mem, ZOk (VG E cI cC M) Z) (hZb : ZBl Z) (M : Mem) (table : Int) (h1 : 0 ≤ table ∧ table < 3) (hG : GI M) (r : Int) (hE : fX9_doubtOf M table = r) : Ci l yX9_doubtOf wsX9_doubtOf 2 47 [.ref (E 0), .int (iI table)] D (TY cI cC) (VG E cI cC) Z M r M := by
  refine Ci.of (cc := cX9_doubtOf) (maxL := 4) (ret := (some .int)) (by decide +kernel) rfl (Nat.le_of_ble_eq_true rfl) ?_
  intro p e s m args below meth c ls hx hb hml hr hown hts hlocks hP hK hD hZ hS hl
  have hl : lv_has ls 4 [(0, .ref (E 0)), (1, .int (iI table))] := hl
  have S0 : CallFix p m c cX9_doubtOf 4 s args wsX9_doubtOf RX9 := ⟨hx, hb, hml, hown, hts⟩
  have hinX9 : ∀ w ∈ u_ws RX9 TX9 20, w ∈ wsX9_doubtOf := by decide +kernel
  rw [fX9_doubtOf] at hE
  refine z_iconst hx hb dX9_doubtOf_0 ?_
  refine lv_istore_n hx hb dX9_doubtOf_1 rfl hl (Nat.le_of_ble_eq_true rfl) (lv' := [(2, .int (iI (0))), (0, .ref (E 0)), (1, .int (iI table))]) rfl (fun ls hl => ?_)
  refine z_iconst hx hb dX9_doubtOf_2 ?_
  refine lv_istore_n hx hb dX9_doubtOf_3 rfl hl (Nat.le_of_ble_eq_true rfl) (lv' := [(3, .int (iI (0))), (2, .int (iI (0))), (0, .ref (E 0)), (1, .int (iI table))]) rfl (fun ls hl => ?_)
  have L1 : ∀ (k1 : Nat) (sum ii : Int) (ls : Array Slot) (H : Heap) (locs : List Loc), lv_has ls 4 [(0, .ref (E 0)), (1, .int (iI table)), (2, .int (iI sum)), (3, .int (iI ii))] → va_P D vwCl (VG E cI cC M) H → va_D (wA (VG E cI cC M)) (VG E cI cC M) → va_S (wA (VG E cI cC M)) s.heap H locs → (0 ≤ ii ∧ ii ≤ 6) → (6 - ii < (k1 : Int)) → fX9_doubtOf_L1 M table k1 sum ii = r → W p l e (zRm 2 47) s m args below meth c H locs 0 0 (MQ below (ciQ D (VG E cI cC) M r M) args s 0 0 (wA (VG E cI cC M))) (F0 m 4 ls []) := by
    intro k1
    induction k1 with
    | zero => intro sum ii ls H locs hl hP hD hS i1 i3 hE; exfalso; omega
    | succ k1 ih1 =>
      intro sum ii ls H locs hl hP hD hS i1 i3 hE
      have q96 := rg_X9_countOf hG table (0) (by omega)
      rw [fX9_doubtOf_L1] at hE
      refine lv_iload_n hx hb dX9_doubtOf_4 rfl (lv_at hl 3 rfl) ?_
      refine lv_aload_n hx hb dX9_doubtOf_5 rfl (lv_at hl 0 rfl) ?_
      refine lv_iload_n hx hb dX9_doubtOf_6 rfl (lv_at hl 1 rfl) ?_
      refine z_iconst hx hb dX9_doubtOf_7 ?_
      refine ct_Vi (VG_fix E cI cC) hZo hZb hZ S0 (kX9_countOf l D E cI cC Z hZo hZb M table (0) (by omega) (by omega) hG (fX9_countOf M table (0)) rfl) (cwV 2 hts gX9_doubtOf_X9_countOf rfl rfl rfl (by decide +kernel) ⟨(Nat.le_of_ble_eq_true rfl), (Nat.le_of_ble_eq_true rfl)⟩) hK hP hD hS rfl rfl VG_0 rfl hl.1 rfl (Nat.le_of_ble_eq_true rfl) dX9_doubtOf_8 ⟨Nat.zero_le _, Nat.zero_le _⟩ (fun H locs hP hD hS => ?_)
      have q1 := rg_X9_countOf hG table (0) (by omega)
      refine z_icmp_ge hx hb dX9_doubtOf_11 (tgt := 37) rfl (by omega) (by omega) (fun b2 => ?_) (fun b2 => ?_)
      · rw [if_pos b2] at hE
        refine lv_iload_n hx hb dX9_doubtOf_37 rfl (lv_at hl 2 rfl) ?_
        exact ci_i hx hb hr hlocks hE rfl hS hP dX9_doubtOf_38
      · rw [if_neg b2] at hE
        refine lv_iload_n hx hb dX9_doubtOf_14 rfl (lv_at hl 2 rfl) ?_
        refine lv_aload_n hx hb dX9_doubtOf_15 rfl (lv_at hl 0 rfl) ?_
        refine va_get (own := RX9) (ref := "NapkinSyntaxModel") (C := RX9) (T := TX9) (N := 20) hx hb hts hinX9 hown hK hP 0 VG_0 rfl 0 (Nat.le_of_ble_eq_true rfl) (hts (.fieldLink RX9 7 "NapkinSyntaxModel" "g" "[I") (by decide +kernel)) (fun _ h => h) (v := .ref (E 1)) rfl dX9_doubtOf_16 ?_
        refine z_bipush hx hb dX9_doubtOf_19 (by decide +kernel) ?_
        refine lv_aload_n hx hb dX9_doubtOf_21 rfl (lv_at hl 0 rfl) ?_
        refine lv_iload_n hx hb dX9_doubtOf_22 rfl (lv_at hl 1 rfl) ?_
        refine lv_iload_n hx hb dX9_doubtOf_23 rfl (lv_at hl 3 rfl) ?_
        refine ct_Vi (VG_fix E cI cC) hZo hZb hZ S0 (kX9_saidAt l D E cI cC Z hZo hZb M table ii (by omega) (by omega) hG (fX9_saidAt M table ii) rfl) (cwV 2 hts gX9_doubtOf_X9_saidAt rfl rfl rfl (by decide +kernel) ⟨(Nat.le_of_ble_eq_true rfl), (Nat.le_of_ble_eq_true rfl)⟩) hK hP hD hS rfl rfl VG_0 rfl hl.1 rfl (Nat.le_of_ble_eq_true rfl) dX9_doubtOf_24 ⟨Nat.zero_le _, Nat.zero_le _⟩ (fun H locs hP hD hS => ?_)
        have q3 := rg_X9_saidAt hG table ii (by omega)
        refine z_iadd hx hb dX9_doubtOf_27 ?_
        refine z_iald hx hb hK hP 1 0 VG_1 rfl (by omega) (by omega) (by decide) dX9_doubtOf_28 ?_
        have q4 := GI_35 hG ((35) + (fX9_saidAt M table ii)) (by omega) (by omega)
        refine z_iadd hx hb dX9_doubtOf_29 ?_
        refine lv_istore_n hx hb dX9_doubtOf_30 rfl hl (Nat.le_of_ble_eq_true rfl) (lv' := [(2, .int (iI (sum + (M 0 ((35) + (fX9_saidAt M table ii)))))), (0, .ref (E 0)), (1, .int (iI table)), (3, .int (iI ii))]) rfl (fun ls hl => ?_)
        refine z_iinc hx hb dX9_doubtOf_31 hl (k := 3) rfl (Nat.le_of_ble_eq_true rfl) (lv' := [(3, .int (iI (ii + 1))), (2, .int (iI (sum + (M 0 ((35) + (fX9_saidAt M table ii)))))), (0, .ref (E 0)), (1, .int (iI table))]) rfl (fun ls hl => ?_)
        refine lv_goto hx hb dX9_doubtOf_34 (tgt := 4) rfl ?_
        exact ih1 (sum + (M 0 ((35) + (fX9_saidAt M table ii)))) (ii + 1) ls _ _ (lv_sub hl [2, 3, 1, 0] rfl) hP hD hS (by omega) (by omega) hE
  exact L1 7 (0) (0) ls _ _ (lv_sub hl [2, 3, 1, 0] rfl) hP hD hS (by omega) (by omega) hE


theorem rg_X9_phrasesOf {M : Mem} (h : GI M) (t : Int) (ht : 0 ≤ t ∧ t < 3) : 0 ≤ fX9_phrasesOf M t ∧ fX9_phrasesOf M t ≤ 7 := by
  have := rg_X9_countOf h t 4 ht
  unfold fX9_phrasesOf
  (repeat' split) <;> omega
theorem rg_X9_doubtOf_L {M : Mem} (h : GI M) (t : Int) (ht : 0 ≤ t ∧ t < 3) : ∀ (k : Nat) (s n : Int), 0 ≤ s → s + 12 * k ≤ 100 → 0 ≤ fX9_doubtOf_L1 M t k s n ∧ fX9_doubtOf_L1 M t k s n ≤ 100 := by
  intro k
  induction k with
  | zero => intro s n _ _; exact ⟨(by decide : (0 : Int) ≤ 0), (by decide : (0 : Int) ≤ 100)⟩
  | succ k ih =>
    intro s n h1 h2
    rw [fX9_doubtOf_L1]
    have a := rg_X9_saidAt h t n ht
    have b := GI_35 h (35 + fX9_saidAt M t n) (by omega) (by omega)
    (repeat' split) <;> first | omega | exact ih _ _ (by omega) (by omega)
theorem rg_X9_doubtOf {M : Mem} (h : GI M) (t : Int) (ht : 0 ≤ t ∧ t < 3) : 0 ≤ fX9_doubtOf M t ∧ fX9_doubtOf M t ≤ 100 := rg_X9_doubtOf_L h t ht 7 0 0 (by decide) (by decide)

def fX9_hosts (M : Mem) (table : Int) : Int × Mem := if ((fX9_isTable table) = 0) then ((fX9_fails M (1)).1, (fX9_fails M (1)).2) else if ((fX9_countOf M table (0)) = 0) then ((fX9_refused M (8) (M 0 ((55) + table)) (2)).1, (fX9_refused M (8) (M 0 ((55) + table)) (2)).2) else if ((fX9_phrasesOf M table) = 0) then if ((fX9_phrasesOf M table) = 0) then ((fX9_done (mst (mst (mst (mst M 0 ((58) + table) ((M 0 ((58) + table)) + (1))) 0 (1) (((mst M 0 ((58) + table) ((M 0 ((58) + table)) + (1))) 0 (1)) + (fX9_phrasesOf M table))) 0 (2) (((mst (mst M 0 ((58) + table) ((M 0 ((58) + table)) + (1))) 0 (1) (((mst M 0 ((58) + table) ((M 0 ((58) + table)) + (1))) 0 (1)) + (fX9_phrasesOf M table))) 0 (2)) + (1))) 0 ((61) + table) (((mst (mst (mst M 0 ((58) + table) ((M 0 ((58) + table)) + (1))) 0 (1) (((mst M 0 ((58) + table) ((M 0 ((58) + table)) + (1))) 0 (1)) + (fX9_phrasesOf M table))) 0 (2) (((mst (mst M 0 ((58) + table) ((M 0 ((58) + table)) + (1))) 0 (1) (((mst M 0 ((58) + table) ((M 0 ((58) + table)) + (1))) 0 (1)) + (fX9_phrasesOf M table))) 0 (2)) + (1))) 0 ((61) + table)) + (1))) (fX9_phrasesOf M table)).1, (fX9_done (mst (mst (mst (mst M 0 ((58) + table) ((M 0 ((58) + table)) + (1))) 0 (1) (((mst M 0 ((58) + table) ((M 0 ((58) + table)) + (1))) 0 (1)) + (fX9_phrasesOf M table))) 0 (2) (((mst (mst M 0 ((58) + table) ((M 0 ((58) + table)) + (1))) 0 (1) (((mst M 0 ((58) + table) ((M 0 ((58) + table)) + (1))) 0 (1)) + (fX9_phrasesOf M table))) 0 (2)) + (1))) 0 ((61) + table) (((mst (mst (mst M 0 ((58) + table) ((M 0 ((58) + table)) + (1))) 0 (1) (((mst M 0 ((58) + table) ((M 0 ((58) + table)) + (1))) 0 (1)) + (fX9_phrasesOf M table))) 0 (2) (((mst (mst M 0 ((58) + table) ((M 0 ((58) + table)) + (1))) 0 (1) (((mst M 0 ((58) + table) ((M 0 ((58) + table)) + (1))) 0 (1)) + (fX9_phrasesOf M table))) 0 (2)) + (1))) 0 ((61) + table)) + (1))) (fX9_phrasesOf M table)).2) else ((fX9_done (mst (mst (mst (mst M 0 ((58) + table) ((M 0 ((58) + table)) + (1))) 0 (1) (((mst M 0 ((58) + table) ((M 0 ((58) + table)) + (1))) 0 (1)) + (fX9_phrasesOf M table))) 0 (2) (((mst (mst M 0 ((58) + table) ((M 0 ((58) + table)) + (1))) 0 (1) (((mst M 0 ((58) + table) ((M 0 ((58) + table)) + (1))) 0 (1)) + (fX9_phrasesOf M table))) 0 (2)) + (1))) 0 ((61) + table) (((mst (mst (mst M 0 ((58) + table) ((M 0 ((58) + table)) + (1))) 0 (1) (((mst M 0 ((58) + table) ((M 0 ((58) + table)) + (1))) 0 (1)) + (fX9_phrasesOf M table))) 0 (2) (((mst (mst M 0 ((58) + table) ((M 0 ((58) + table)) + (1))) 0 (1) (((mst M 0 ((58) + table) ((M 0 ((58) + table)) + (1))) 0 (1)) + (fX9_phrasesOf M table))) 0 (2)) + (1))) 0 ((61) + table)) + (0))) (fX9_phrasesOf M table)).1, (fX9_done (mst (mst (mst (mst M 0 ((58) + table) ((M 0 ((58) + table)) + (1))) 0 (1) (((mst M 0 ((58) + table) ((M 0 ((58) + table)) + (1))) 0 (1)) + (fX9_phrasesOf M table))) 0 (2) (((mst (mst M 0 ((58) + table) ((M 0 ((58) + table)) + (1))) 0 (1) (((mst M 0 ((58) + table) ((M 0 ((58) + table)) + (1))) 0 (1)) + (fX9_phrasesOf M table))) 0 (2)) + (1))) 0 ((61) + table) (((mst (mst (mst M 0 ((58) + table) ((M 0 ((58) + table)) + (1))) 0 (1) (((mst M 0 ((58) + table) ((M 0 ((58) + table)) + (1))) 0 (1)) + (fX9_phrasesOf M table))) 0 (2) (((mst (mst M 0 ((58) + table) ((M 0 ((58) + table)) + (1))) 0 (1) (((mst M 0 ((58) + table) ((M 0 ((58) + table)) + (1))) 0 (1)) + (fX9_phrasesOf M table))) 0 (2)) + (1))) 0 ((61) + table)) + (0))) (fX9_phrasesOf M table)).2) else if ((fX9_phrasesOf M table) = 0) then ((fX9_done (mst (mst (mst (mst M 0 ((58) + table) ((M 0 ((58) + table)) + (1))) 0 (1) (((mst M 0 ((58) + table) ((M 0 ((58) + table)) + (1))) 0 (1)) + (fX9_phrasesOf M table))) 0 (2) (((mst (mst M 0 ((58) + table) ((M 0 ((58) + table)) + (1))) 0 (1) (((mst M 0 ((58) + table) ((M 0 ((58) + table)) + (1))) 0 (1)) + (fX9_phrasesOf M table))) 0 (2)) + (0))) 0 ((61) + table) (((mst (mst (mst M 0 ((58) + table) ((M 0 ((58) + table)) + (1))) 0 (1) (((mst M 0 ((58) + table) ((M 0 ((58) + table)) + (1))) 0 (1)) + (fX9_phrasesOf M table))) 0 (2) (((mst (mst M 0 ((58) + table) ((M 0 ((58) + table)) + (1))) 0 (1) (((mst M 0 ((58) + table) ((M 0 ((58) + table)) + (1))) 0 (1)) + (fX9_phrasesOf M table))) 0 (2)) + (0))) 0 ((61) + table)) + (1))) (fX9_phrasesOf M table)).1, (fX9_done (mst (mst (mst (mst M 0 ((58) + table) ((M 0 ((58) + table)) + (1))) 0 (1) (((mst M 0 ((58) + table) ((M 0 ((58) + table)) + (1))) 0 (1)) + (fX9_phrasesOf M table))) 0 (2) (((mst (mst M 0 ((58) + table) ((M 0 ((58) + table)) + (1))) 0 (1) (((mst M 0 ((58) + table) ((M 0 ((58) + table)) + (1))) 0 (1)) + (fX9_phrasesOf M table))) 0 (2)) + (0))) 0 ((61) + table) (((mst (mst (mst M 0 ((58) + table) ((M 0 ((58) + table)) + (1))) 0 (1) (((mst M 0 ((58) + table) ((M 0 ((58) + table)) + (1))) 0 (1)) + (fX9_phrasesOf M table))) 0 (2) (((mst (mst M 0 ((58) + table) ((M 0 ((58) + table)) + (1))) 0 (1) (((mst M 0 ((58) + table) ((M 0 ((58) + table)) + (1))) 0 (1)) + (fX9_phrasesOf M table))) 0 (2)) + (0))) 0 ((61) + table)) + (1))) (fX9_phrasesOf M table)).2) else ((fX9_done (mst (mst (mst (mst M 0 ((58) + table) ((M 0 ((58) + table)) + (1))) 0 (1) (((mst M 0 ((58) + table) ((M 0 ((58) + table)) + (1))) 0 (1)) + (fX9_phrasesOf M table))) 0 (2) (((mst (mst M 0 ((58) + table) ((M 0 ((58) + table)) + (1))) 0 (1) (((mst M 0 ((58) + table) ((M 0 ((58) + table)) + (1))) 0 (1)) + (fX9_phrasesOf M table))) 0 (2)) + (0))) 0 ((61) + table) (((mst (mst (mst M 0 ((58) + table) ((M 0 ((58) + table)) + (1))) 0 (1) (((mst M 0 ((58) + table) ((M 0 ((58) + table)) + (1))) 0 (1)) + (fX9_phrasesOf M table))) 0 (2) (((mst (mst M 0 ((58) + table) ((M 0 ((58) + table)) + (1))) 0 (1) (((mst M 0 ((58) + table) ((M 0 ((58) + table)) + (1))) 0 (1)) + (fX9_phrasesOf M table))) 0 (2)) + (0))) 0 ((61) + table)) + (0))) (fX9_phrasesOf M table)).1, (fX9_done (mst (mst (mst (mst M 0 ((58) + table) ((M 0 ((58) + table)) + (1))) 0 (1) (((mst M 0 ((58) + table) ((M 0 ((58) + table)) + (1))) 0 (1)) + (fX9_phrasesOf M table))) 0 (2) (((mst (mst M 0 ((58) + table) ((M 0 ((58) + table)) + (1))) 0 (1) (((mst M 0 ((58) + table) ((M 0 ((58) + table)) + (1))) 0 (1)) + (fX9_phrasesOf M table))) 0 (2)) + (0))) 0 ((61) + table) (((mst (mst (mst M 0 ((58) + table) ((M 0 ((58) + table)) + (1))) 0 (1) (((mst M 0 ((58) + table) ((M 0 ((58) + table)) + (1))) 0 (1)) + (fX9_phrasesOf M table))) 0 (2) (((mst (mst M 0 ((58) + table) ((M 0 ((58) + table)) + (1))) 0 (1) (((mst M 0 ((58) + table) ((M 0 ((58) + table)) + (1))) 0 (1)) + (fX9_phrasesOf M table))) 0 (2)) + (0))) 0 ((61) + table)) + (0))) (fX9_phrasesOf M table)).2)
set_option maxRecDepth 100000 in
set_option maxHeartbeats 4000000 in
theorem kX9_hosts (l : Launch) (D : va_G) (E : Nat → Nat) (cI cC : ClassId) (Z : State → Prop) (hZo : ∀ M : Mem, ZOk (VG E cI cC M) Z) (hZb : ZBl Z) (M : Mem) (table : Int) (h1 : -2147483648 ≤ table ∧ table < 2147483648) (hG : GI M) (r : Int) (M' : Mem) (hE : fX9_hosts M table = (r, M')) : Ci l yX9_hosts wsX9_hosts 6 134 [.ref (E 0), .int (iI table)] D (TY cI cC) (VG E cI cC) Z M r M' := by
  refine Ci.of (cc := cX9_hosts) (maxL := 3) (ret := (some .int)) (by decide +kernel) rfl (Nat.le_of_ble_eq_true rfl) ?_
  intro p e s m args below meth c ls hx hb hml hr hown hts hlocks hP hK hD hZ hS hl
  have hl : lv_has ls 3 [(0, .ref (E 0)), (1, .int (iI table))] := hl
  have S0 : CallFix p m c cX9_hosts 3 s args wsX9_hosts RX9 := ⟨hx, hb, hml, hown, hts⟩
  have hinX9 : ∀ w ∈ u_ws RX9 TX9 20, w ∈ wsX9_hosts := by decide +kernel
  rw [fX9_hosts] at hE
  refine lv_iload_n hx hb dX9_hosts_0 rfl (lv_at hl 1 rfl) ?_
  refine ct_Si (VG_fix E cI cC) hZo hZb hZ S0 (kX9_isTable l D E cI cC Z hZo hZb M table (by omega) (fX9_isTable table) rfl) (va_cwS 1 hts gX9_hosts_X9_isTable rfl rfl rfl (by decide +kernel) ⟨(Nat.le_of_ble_eq_true rfl), (Nat.le_of_ble_eq_true rfl)⟩) hK hP hD hS rfl hl.1 rfl (Nat.le_of_ble_eq_true rfl) dX9_hosts_1 ⟨Nat.zero_le _, Nat.zero_le _⟩ (fun H locs hP hD hS => ?_)
  have q1 := dX9_isTable table
  refine z_if_ne hx hb dX9_hosts_4 (tgt := 13) rfl (by omega) (fun b2 => ?_) (fun b2 => ?_)
  · rw [if_neg b2] at hE
    refine lv_aload_n hx hb dX9_hosts_13 rfl (lv_at hl 0 rfl) ?_
    refine lv_iload_n hx hb dX9_hosts_14 rfl (lv_at hl 1 rfl) ?_
    refine z_iconst hx hb dX9_hosts_15 ?_
    refine ct_Vi (VG_fix E cI cC) hZo hZb hZ S0 (kX9_countOf l D E cI cC Z hZo hZb M table (0) (by omega) (by omega) hG (fX9_countOf M table (0)) rfl) (cwV 2 hts gX9_hosts_X9_countOf rfl rfl rfl (by decide +kernel) ⟨(Nat.le_of_ble_eq_true rfl), (Nat.le_of_ble_eq_true rfl)⟩) hK hP hD hS rfl rfl VG_0 rfl hl.1 rfl (Nat.le_of_ble_eq_true rfl) dX9_hosts_16 ⟨Nat.zero_le _, Nat.zero_le _⟩ (fun H locs hP hD hS => ?_)
    have q3 := rg_X9_countOf hG table (0) (by omega)
    refine z_if_ne hx hb dX9_hosts_19 (tgt := 39) rfl (by omega) (fun b4 => ?_) (fun b4 => ?_)
    · rw [if_neg b4] at hE
      refine lv_aload_n hx hb dX9_hosts_39 rfl (lv_at hl 0 rfl) ?_
      refine lv_iload_n hx hb dX9_hosts_40 rfl (lv_at hl 1 rfl) ?_
      refine ct_Vi (VG_fix E cI cC) hZo hZb hZ S0 (kX9_phrasesOf l D E cI cC Z hZo hZb M table (by omega) hG (fX9_phrasesOf M table) rfl) (cwV 1 hts gX9_hosts_X9_phrasesOf rfl rfl rfl (by decide +kernel) ⟨(Nat.le_of_ble_eq_true rfl), (Nat.le_of_ble_eq_true rfl)⟩) hK hP hD hS rfl rfl VG_0 rfl hl.1 rfl (Nat.le_of_ble_eq_true rfl) dX9_hosts_41 ⟨Nat.zero_le _, Nat.zero_le _⟩ (fun H locs hP hD hS => ?_)
      have q5 := rg_X9_phrasesOf hG table (by omega)
      refine lv_istore_n hx hb dX9_hosts_44 rfl hl (Nat.le_of_ble_eq_true rfl) (lv' := [(2, .int (iI (fX9_phrasesOf M table))), (0, .ref (E 0)), (1, .int (iI table))]) rfl (fun ls hl => ?_)
      refine lv_aload_n hx hb dX9_hosts_45 rfl (lv_at hl 1 rfl) ?_
      refine va_get (own := RX9) (ref := "NapkinSyntaxModel") (C := RX9) (T := TX9) (N := 20) hx hb hts hinX9 hown hK hP 0 VG_0 rfl 0 (Nat.le_of_ble_eq_true rfl) (hts (.fieldLink RX9 7 "NapkinSyntaxModel" "g" "[I") (by decide +kernel)) (fun _ h => h) (v := .ref (E 1)) rfl dX9_hosts_46 ?_
      refine z_bipush hx hb dX9_hosts_49 (by decide +kernel) ?_
      refine lv_iload_n hx hb dX9_hosts_51 rfl (lv_at hl 2 rfl) ?_
      refine z_iadd hx hb dX9_hosts_52 ?_
      refine lv_dup2_11 hx hb dX9_hosts_53 rfl rfl ?_
      refine z_iald hx hb hK hP 1 0 VG_1 rfl (by omega) (by omega) (by decide) dX9_hosts_54 ?_
      refine z_iconst hx hb dX9_hosts_55 ?_
      refine z_iadd hx hb dX9_hosts_56 ?_
      refine z_iast hx hb hK hP hD hS 1 0 VG_1 rfl (by omega) (by omega) (by decide) dX9_hosts_57 VGw_0 (fun H locs hP hD hS => ?_)
      refine lv_aload_n hx hb dX9_hosts_58 rfl (lv_at hl 1 rfl) ?_
      refine va_get (own := RX9) (ref := "NapkinSyntaxModel") (C := RX9) (T := TX9) (N := 20) hx hb hts hinX9 hown hK hP 0 VG_0 rfl 0 (Nat.le_of_ble_eq_true rfl) (hts (.fieldLink RX9 7 "NapkinSyntaxModel" "g" "[I") (by decide +kernel)) (fun _ h => h) (v := .ref (E 1)) rfl dX9_hosts_59 ?_
      refine z_iconst hx hb dX9_hosts_62 ?_
      refine lv_dup2_11 hx hb dX9_hosts_63 rfl rfl ?_
      refine z_iald hx hb hK hP 1 0 VG_1 rfl (by omega) (by omega) (by decide) dX9_hosts_64 ?_
      refine lv_iload_n hx hb dX9_hosts_65 rfl (lv_at hl 0 rfl) ?_
      refine z_iadd hx hb dX9_hosts_66 ?_
      refine z_iast hx hb hK hP hD hS 1 0 VG_1 rfl (by omega) (by omega) (by decide) dX9_hosts_67 VGw_0 (fun H locs hP hD hS => ?_)
      refine lv_aload_n hx hb dX9_hosts_68 rfl (lv_at hl 1 rfl) ?_
      refine va_get (own := RX9) (ref := "NapkinSyntaxModel") (C := RX9) (T := TX9) (N := 20) hx hb hts hinX9 hown hK hP 0 VG_0 rfl 0 (Nat.le_of_ble_eq_true rfl) (hts (.fieldLink RX9 7 "NapkinSyntaxModel" "g" "[I") (by decide +kernel)) (fun _ h => h) (v := .ref (E 1)) rfl dX9_hosts_69 ?_
      refine z_iconst hx hb dX9_hosts_72 ?_
      refine lv_dup2_11 hx hb dX9_hosts_73 rfl rfl ?_
      refine z_iald hx hb hK hP 1 0 VG_1 rfl (by omega) (by omega) (by decide) dX9_hosts_74 ?_
      refine lv_iload_n hx hb dX9_hosts_75 rfl (lv_at hl 0 rfl) ?_
      refine z_if_ne hx hb dX9_hosts_76 (tgt := 83) rfl (by omega) (fun b6 => ?_) (fun b6 => ?_)
      · rw [if_neg b6] at hE
        refine z_iconst hx hb dX9_hosts_83 ?_
        refine z_iadd hx hb dX9_hosts_84 ?_
        refine z_iast hx hb hK hP hD hS 1 0 VG_1 rfl (by omega) (by omega) (by decide) dX9_hosts_85 VGw_0 (fun H locs hP hD hS => ?_)
        refine lv_aload_n hx hb dX9_hosts_86 rfl (lv_at hl 1 rfl) ?_
        refine va_get (own := RX9) (ref := "NapkinSyntaxModel") (C := RX9) (T := TX9) (N := 20) hx hb hts hinX9 hown hK hP 0 VG_0 rfl 0 (Nat.le_of_ble_eq_true rfl) (hts (.fieldLink RX9 7 "NapkinSyntaxModel" "g" "[I") (by decide +kernel)) (fun _ h => h) (v := .ref (E 1)) rfl dX9_hosts_87 ?_
        refine z_bipush hx hb dX9_hosts_90 (by decide +kernel) ?_
        refine lv_iload_n hx hb dX9_hosts_92 rfl (lv_at hl 2 rfl) ?_
        refine z_iadd hx hb dX9_hosts_93 ?_
        refine lv_dup2_11 hx hb dX9_hosts_94 rfl rfl ?_
        refine z_iald hx hb hK hP 1 0 VG_1 rfl (by omega) (by omega) (by decide) dX9_hosts_95 ?_
        refine lv_iload_n hx hb dX9_hosts_96 rfl (lv_at hl 0 rfl) ?_
        refine z_if_ne hx hb dX9_hosts_97 (tgt := 104) rfl (by omega) (fun b7 => ?_) (fun b7 => ?_)
        · rw [if_neg b7] at hE
          refine z_iconst hx hb dX9_hosts_104 ?_
          refine z_iadd hx hb dX9_hosts_105 ?_
          refine z_iast hx hb hK hP hD hS 1 0 VG_1 rfl (by omega) (by omega) (by decide) dX9_hosts_106 VGw_0 (fun H locs hP hD hS => ?_)
          refine lv_aload_n hx hb dX9_hosts_107 rfl (lv_at hl 1 rfl) ?_
          refine lv_iload_n hx hb dX9_hosts_108 rfl (lv_at hl 0 rfl) ?_
          refine ct_Vi (VG_fix E cI cC) hZo hZb hZ S0 (kX9_done l D E cI cC Z hZo hZb (mst (mst (mst (mst M 0 ((58) + table) ((M 0 ((58) + table)) + (1))) 0 (1) (((mst M 0 ((58) + table) ((M 0 ((58) + table)) + (1))) 0 (1)) + (fX9_phrasesOf M table))) 0 (2) (((mst (mst M 0 ((58) + table) ((M 0 ((58) + table)) + (1))) 0 (1) (((mst M 0 ((58) + table) ((M 0 ((58) + table)) + (1))) 0 (1)) + (fX9_phrasesOf M table))) 0 (2)) + (0))) 0 ((61) + table) (((mst (mst (mst M 0 ((58) + table) ((M 0 ((58) + table)) + (1))) 0 (1) (((mst M 0 ((58) + table) ((M 0 ((58) + table)) + (1))) 0 (1)) + (fX9_phrasesOf M table))) 0 (2) (((mst (mst M 0 ((58) + table) ((M 0 ((58) + table)) + (1))) 0 (1) (((mst M 0 ((58) + table) ((M 0 ((58) + table)) + (1))) 0 (1)) + (fX9_phrasesOf M table))) 0 (2)) + (0))) 0 ((61) + table)) + (0))) (fX9_phrasesOf M table)  (fX9_done (mst (mst (mst (mst M 0 ((58) + table) ((M 0 ((58) + table)) + (1))) 0 (1) (((mst M 0 ((58) + table) ((M 0 ((58) + table)) + (1))) 0 (1)) + (fX9_phrasesOf M table))) 0 (2) (((mst (mst M 0 ((58) + table) ((M 0 ((58) + table)) + (1))) 0 (1) (((mst M 0 ((58) + table) ((M 0 ((58) + table)) + (1))) 0 (1)) + (fX9_phrasesOf M table))) 0 (2)) + (0))) 0 ((61) + table) (((mst (mst (mst M 0 ((58) + table) ((M 0 ((58) + table)) + (1))) 0 (1) (((mst M 0 ((58) + table) ((M 0 ((58) + table)) + (1))) 0 (1)) + (fX9_phrasesOf M table))) 0 (2) (((mst (mst M 0 ((58) + table) ((M 0 ((58) + table)) + (1))) 0 (1) (((mst M 0 ((58) + table) ((M 0 ((58) + table)) + (1))) 0 (1)) + (fX9_phrasesOf M table))) 0 (2)) + (0))) 0 ((61) + table)) + (0))) (fX9_phrasesOf M table)).1 (fX9_done (mst (mst (mst (mst M 0 ((58) + table) ((M 0 ((58) + table)) + (1))) 0 (1) (((mst M 0 ((58) + table) ((M 0 ((58) + table)) + (1))) 0 (1)) + (fX9_phrasesOf M table))) 0 (2) (((mst (mst M 0 ((58) + table) ((M 0 ((58) + table)) + (1))) 0 (1) (((mst M 0 ((58) + table) ((M 0 ((58) + table)) + (1))) 0 (1)) + (fX9_phrasesOf M table))) 0 (2)) + (0))) 0 ((61) + table) (((mst (mst (mst M 0 ((58) + table) ((M 0 ((58) + table)) + (1))) 0 (1) (((mst M 0 ((58) + table) ((M 0 ((58) + table)) + (1))) 0 (1)) + (fX9_phrasesOf M table))) 0 (2) (((mst (mst M 0 ((58) + table) ((M 0 ((58) + table)) + (1))) 0 (1) (((mst M 0 ((58) + table) ((M 0 ((58) + table)) + (1))) 0 (1)) + (fX9_phrasesOf M table))) 0 (2)) + (0))) 0 ((61) + table)) + (0))) (fX9_phrasesOf M table)).2 (Prod.ext rfl rfl)) (cwV 1 hts gX9_hosts_X9_done rfl rfl rfl (by decide +kernel) ⟨(Nat.le_of_ble_eq_true rfl), (Nat.le_of_ble_eq_true rfl)⟩) hK hP hD hS rfl rfl VG_0 rfl hl.1 rfl (Nat.le_of_ble_eq_true rfl) dX9_hosts_109 ⟨Nat.zero_le _, Nat.zero_le _⟩ (fun H locs hP hD hS => ?_)
          obtain ⟨e1, e2⟩ := Prod.mk.inj hE
          subst e2
          exact ci_i hx hb hr hlocks e1 rfl hS hP dX9_hosts_112
        · rw [if_pos b7] at hE
          refine z_iconst hx hb dX9_hosts_100 ?_
          refine lv_goto hx hb dX9_hosts_101 (tgt := 105) rfl ?_
          refine z_iadd hx hb dX9_hosts_105 ?_
          refine z_iast hx hb hK hP hD hS 1 0 VG_1 rfl (by omega) (by omega) (by decide) dX9_hosts_106 VGw_0 (fun H locs hP hD hS => ?_)
          refine lv_aload_n hx hb dX9_hosts_107 rfl (lv_at hl 1 rfl) ?_
          refine lv_iload_n hx hb dX9_hosts_108 rfl (lv_at hl 0 rfl) ?_
          refine ct_Vi (VG_fix E cI cC) hZo hZb hZ S0 (kX9_done l D E cI cC Z hZo hZb (mst (mst (mst (mst M 0 ((58) + table) ((M 0 ((58) + table)) + (1))) 0 (1) (((mst M 0 ((58) + table) ((M 0 ((58) + table)) + (1))) 0 (1)) + (fX9_phrasesOf M table))) 0 (2) (((mst (mst M 0 ((58) + table) ((M 0 ((58) + table)) + (1))) 0 (1) (((mst M 0 ((58) + table) ((M 0 ((58) + table)) + (1))) 0 (1)) + (fX9_phrasesOf M table))) 0 (2)) + (0))) 0 ((61) + table) (((mst (mst (mst M 0 ((58) + table) ((M 0 ((58) + table)) + (1))) 0 (1) (((mst M 0 ((58) + table) ((M 0 ((58) + table)) + (1))) 0 (1)) + (fX9_phrasesOf M table))) 0 (2) (((mst (mst M 0 ((58) + table) ((M 0 ((58) + table)) + (1))) 0 (1) (((mst M 0 ((58) + table) ((M 0 ((58) + table)) + (1))) 0 (1)) + (fX9_phrasesOf M table))) 0 (2)) + (0))) 0 ((61) + table)) + (1))) (fX9_phrasesOf M table)  (fX9_done (mst (mst (mst (mst M 0 ((58) + table) ((M 0 ((58) + table)) + (1))) 0 (1) (((mst M 0 ((58) + table) ((M 0 ((58) + table)) + (1))) 0 (1)) + (fX9_phrasesOf M table))) 0 (2) (((mst (mst M 0 ((58) + table) ((M 0 ((58) + table)) + (1))) 0 (1) (((mst M 0 ((58) + table) ((M 0 ((58) + table)) + (1))) 0 (1)) + (fX9_phrasesOf M table))) 0 (2)) + (0))) 0 ((61) + table) (((mst (mst (mst M 0 ((58) + table) ((M 0 ((58) + table)) + (1))) 0 (1) (((mst M 0 ((58) + table) ((M 0 ((58) + table)) + (1))) 0 (1)) + (fX9_phrasesOf M table))) 0 (2) (((mst (mst M 0 ((58) + table) ((M 0 ((58) + table)) + (1))) 0 (1) (((mst M 0 ((58) + table) ((M 0 ((58) + table)) + (1))) 0 (1)) + (fX9_phrasesOf M table))) 0 (2)) + (0))) 0 ((61) + table)) + (1))) (fX9_phrasesOf M table)).1 (fX9_done (mst (mst (mst (mst M 0 ((58) + table) ((M 0 ((58) + table)) + (1))) 0 (1) (((mst M 0 ((58) + table) ((M 0 ((58) + table)) + (1))) 0 (1)) + (fX9_phrasesOf M table))) 0 (2) (((mst (mst M 0 ((58) + table) ((M 0 ((58) + table)) + (1))) 0 (1) (((mst M 0 ((58) + table) ((M 0 ((58) + table)) + (1))) 0 (1)) + (fX9_phrasesOf M table))) 0 (2)) + (0))) 0 ((61) + table) (((mst (mst (mst M 0 ((58) + table) ((M 0 ((58) + table)) + (1))) 0 (1) (((mst M 0 ((58) + table) ((M 0 ((58) + table)) + (1))) 0 (1)) + (fX9_phrasesOf M table))) 0 (2) (((mst (mst M 0 ((58) + table) ((M 0 ((58) + table)) + (1))) 0 (1) (((mst M 0 ((58) + table) ((M 0 ((58) + table)) + (1))) 0 (1)) + (fX9_phrasesOf M table))) 0 (2)) + (0))) 0 ((61) + table)) + (1))) (fX9_phrasesOf M table)).2 (Prod.ext rfl rfl)) (cwV 1 hts gX9_hosts_X9_done rfl rfl rfl (by decide +kernel) ⟨(Nat.le_of_ble_eq_true rfl), (Nat.le_of_ble_eq_true rfl)⟩) hK hP hD hS rfl rfl VG_0 rfl hl.1 rfl (Nat.le_of_ble_eq_true rfl) dX9_hosts_109 ⟨Nat.zero_le _, Nat.zero_le _⟩ (fun H locs hP hD hS => ?_)
          obtain ⟨e1, e2⟩ := Prod.mk.inj hE
          subst e2
          exact ci_i hx hb hr hlocks e1 rfl hS hP dX9_hosts_112
      · rw [if_pos b6] at hE
        refine z_iconst hx hb dX9_hosts_79 ?_
        refine lv_goto hx hb dX9_hosts_80 (tgt := 84) rfl ?_
        refine z_iadd hx hb dX9_hosts_84 ?_
        refine z_iast hx hb hK hP hD hS 1 0 VG_1 rfl (by omega) (by omega) (by decide) dX9_hosts_85 VGw_0 (fun H locs hP hD hS => ?_)
        refine lv_aload_n hx hb dX9_hosts_86 rfl (lv_at hl 1 rfl) ?_
        refine va_get (own := RX9) (ref := "NapkinSyntaxModel") (C := RX9) (T := TX9) (N := 20) hx hb hts hinX9 hown hK hP 0 VG_0 rfl 0 (Nat.le_of_ble_eq_true rfl) (hts (.fieldLink RX9 7 "NapkinSyntaxModel" "g" "[I") (by decide +kernel)) (fun _ h => h) (v := .ref (E 1)) rfl dX9_hosts_87 ?_
        refine z_bipush hx hb dX9_hosts_90 (by decide +kernel) ?_
        refine lv_iload_n hx hb dX9_hosts_92 rfl (lv_at hl 2 rfl) ?_
        refine z_iadd hx hb dX9_hosts_93 ?_
        refine lv_dup2_11 hx hb dX9_hosts_94 rfl rfl ?_
        refine z_iald hx hb hK hP 1 0 VG_1 rfl (by omega) (by omega) (by decide) dX9_hosts_95 ?_
        refine lv_iload_n hx hb dX9_hosts_96 rfl (lv_at hl 0 rfl) ?_
        refine z_if_ne hx hb dX9_hosts_97 (tgt := 104) rfl (by omega) (fun b8 => ?_) (fun b8 => ?_)
        · rw [if_neg b8] at hE
          refine z_iconst hx hb dX9_hosts_104 ?_
          refine z_iadd hx hb dX9_hosts_105 ?_
          refine z_iast hx hb hK hP hD hS 1 0 VG_1 rfl (by omega) (by omega) (by decide) dX9_hosts_106 VGw_0 (fun H locs hP hD hS => ?_)
          refine lv_aload_n hx hb dX9_hosts_107 rfl (lv_at hl 1 rfl) ?_
          refine lv_iload_n hx hb dX9_hosts_108 rfl (lv_at hl 0 rfl) ?_
          refine ct_Vi (VG_fix E cI cC) hZo hZb hZ S0 (kX9_done l D E cI cC Z hZo hZb (mst (mst (mst (mst M 0 ((58) + table) ((M 0 ((58) + table)) + (1))) 0 (1) (((mst M 0 ((58) + table) ((M 0 ((58) + table)) + (1))) 0 (1)) + (fX9_phrasesOf M table))) 0 (2) (((mst (mst M 0 ((58) + table) ((M 0 ((58) + table)) + (1))) 0 (1) (((mst M 0 ((58) + table) ((M 0 ((58) + table)) + (1))) 0 (1)) + (fX9_phrasesOf M table))) 0 (2)) + (1))) 0 ((61) + table) (((mst (mst (mst M 0 ((58) + table) ((M 0 ((58) + table)) + (1))) 0 (1) (((mst M 0 ((58) + table) ((M 0 ((58) + table)) + (1))) 0 (1)) + (fX9_phrasesOf M table))) 0 (2) (((mst (mst M 0 ((58) + table) ((M 0 ((58) + table)) + (1))) 0 (1) (((mst M 0 ((58) + table) ((M 0 ((58) + table)) + (1))) 0 (1)) + (fX9_phrasesOf M table))) 0 (2)) + (1))) 0 ((61) + table)) + (0))) (fX9_phrasesOf M table)  (fX9_done (mst (mst (mst (mst M 0 ((58) + table) ((M 0 ((58) + table)) + (1))) 0 (1) (((mst M 0 ((58) + table) ((M 0 ((58) + table)) + (1))) 0 (1)) + (fX9_phrasesOf M table))) 0 (2) (((mst (mst M 0 ((58) + table) ((M 0 ((58) + table)) + (1))) 0 (1) (((mst M 0 ((58) + table) ((M 0 ((58) + table)) + (1))) 0 (1)) + (fX9_phrasesOf M table))) 0 (2)) + (1))) 0 ((61) + table) (((mst (mst (mst M 0 ((58) + table) ((M 0 ((58) + table)) + (1))) 0 (1) (((mst M 0 ((58) + table) ((M 0 ((58) + table)) + (1))) 0 (1)) + (fX9_phrasesOf M table))) 0 (2) (((mst (mst M 0 ((58) + table) ((M 0 ((58) + table)) + (1))) 0 (1) (((mst M 0 ((58) + table) ((M 0 ((58) + table)) + (1))) 0 (1)) + (fX9_phrasesOf M table))) 0 (2)) + (1))) 0 ((61) + table)) + (0))) (fX9_phrasesOf M table)).1 (fX9_done (mst (mst (mst (mst M 0 ((58) + table) ((M 0 ((58) + table)) + (1))) 0 (1) (((mst M 0 ((58) + table) ((M 0 ((58) + table)) + (1))) 0 (1)) + (fX9_phrasesOf M table))) 0 (2) (((mst (mst M 0 ((58) + table) ((M 0 ((58) + table)) + (1))) 0 (1) (((mst M 0 ((58) + table) ((M 0 ((58) + table)) + (1))) 0 (1)) + (fX9_phrasesOf M table))) 0 (2)) + (1))) 0 ((61) + table) (((mst (mst (mst M 0 ((58) + table) ((M 0 ((58) + table)) + (1))) 0 (1) (((mst M 0 ((58) + table) ((M 0 ((58) + table)) + (1))) 0 (1)) + (fX9_phrasesOf M table))) 0 (2) (((mst (mst M 0 ((58) + table) ((M 0 ((58) + table)) + (1))) 0 (1) (((mst M 0 ((58) + table) ((M 0 ((58) + table)) + (1))) 0 (1)) + (fX9_phrasesOf M table))) 0 (2)) + (1))) 0 ((61) + table)) + (0))) (fX9_phrasesOf M table)).2 (Prod.ext rfl rfl)) (cwV 1 hts gX9_hosts_X9_done rfl rfl rfl (by decide +kernel) ⟨(Nat.le_of_ble_eq_true rfl), (Nat.le_of_ble_eq_true rfl)⟩) hK hP hD hS rfl rfl VG_0 rfl hl.1 rfl (Nat.le_of_ble_eq_true rfl) dX9_hosts_109 ⟨Nat.zero_le _, Nat.zero_le _⟩ (fun H locs hP hD hS => ?_)
          obtain ⟨e1, e2⟩ := Prod.mk.inj hE
          subst e2
          exact ci_i hx hb hr hlocks e1 rfl hS hP dX9_hosts_112
        · rw [if_pos b8] at hE
          refine z_iconst hx hb dX9_hosts_100 ?_
          refine lv_goto hx hb dX9_hosts_101 (tgt := 105) rfl ?_
          refine z_iadd hx hb dX9_hosts_105 ?_
          refine z_iast hx hb hK hP hD hS 1 0 VG_1 rfl (by omega) (by omega) (by decide) dX9_hosts_106 VGw_0 (fun H locs hP hD hS => ?_)
          refine lv_aload_n hx hb dX9_hosts_107 rfl (lv_at hl 1 rfl) ?_
          refine lv_iload_n hx hb dX9_hosts_108 rfl (lv_at hl 0 rfl) ?_
          refine ct_Vi (VG_fix E cI cC) hZo hZb hZ S0 (kX9_done l D E cI cC Z hZo hZb (mst (mst (mst (mst M 0 ((58) + table) ((M 0 ((58) + table)) + (1))) 0 (1) (((mst M 0 ((58) + table) ((M 0 ((58) + table)) + (1))) 0 (1)) + (fX9_phrasesOf M table))) 0 (2) (((mst (mst M 0 ((58) + table) ((M 0 ((58) + table)) + (1))) 0 (1) (((mst M 0 ((58) + table) ((M 0 ((58) + table)) + (1))) 0 (1)) + (fX9_phrasesOf M table))) 0 (2)) + (1))) 0 ((61) + table) (((mst (mst (mst M 0 ((58) + table) ((M 0 ((58) + table)) + (1))) 0 (1) (((mst M 0 ((58) + table) ((M 0 ((58) + table)) + (1))) 0 (1)) + (fX9_phrasesOf M table))) 0 (2) (((mst (mst M 0 ((58) + table) ((M 0 ((58) + table)) + (1))) 0 (1) (((mst M 0 ((58) + table) ((M 0 ((58) + table)) + (1))) 0 (1)) + (fX9_phrasesOf M table))) 0 (2)) + (1))) 0 ((61) + table)) + (1))) (fX9_phrasesOf M table)  (fX9_done (mst (mst (mst (mst M 0 ((58) + table) ((M 0 ((58) + table)) + (1))) 0 (1) (((mst M 0 ((58) + table) ((M 0 ((58) + table)) + (1))) 0 (1)) + (fX9_phrasesOf M table))) 0 (2) (((mst (mst M 0 ((58) + table) ((M 0 ((58) + table)) + (1))) 0 (1) (((mst M 0 ((58) + table) ((M 0 ((58) + table)) + (1))) 0 (1)) + (fX9_phrasesOf M table))) 0 (2)) + (1))) 0 ((61) + table) (((mst (mst (mst M 0 ((58) + table) ((M 0 ((58) + table)) + (1))) 0 (1) (((mst M 0 ((58) + table) ((M 0 ((58) + table)) + (1))) 0 (1)) + (fX9_phrasesOf M table))) 0 (2) (((mst (mst M 0 ((58) + table) ((M 0 ((58) + table)) + (1))) 0 (1) (((mst M 0 ((58) + table) ((M 0 ((58) + table)) + (1))) 0 (1)) + (fX9_phrasesOf M table))) 0 (2)) + (1))) 0 ((61) + table)) + (1))) (fX9_phrasesOf M table)).1 (fX9_done (mst (mst (mst (mst M 0 ((58) + table) ((M 0 ((58) + table)) + (1))) 0 (1) (((mst M 0 ((58) + table) ((M 0 ((58) + table)) + (1))) 0 (1)) + (fX9_phrasesOf M table))) 0 (2) (((mst (mst M 0 ((58) + table) ((M 0 ((58) + table)) + (1))) 0 (1) (((mst M 0 ((58) + table) ((M 0 ((58) + table)) + (1))) 0 (1)) + (fX9_phrasesOf M table))) 0 (2)) + (1))) 0 ((61) + table) (((mst (mst (mst M 0 ((58) + table) ((M 0 ((58) + table)) + (1))) 0 (1) (((mst M 0 ((58) + table) ((M 0 ((58) + table)) + (1))) 0 (1)) + (fX9_phrasesOf M table))) 0 (2) (((mst (mst M 0 ((58) + table) ((M 0 ((58) + table)) + (1))) 0 (1) (((mst M 0 ((58) + table) ((M 0 ((58) + table)) + (1))) 0 (1)) + (fX9_phrasesOf M table))) 0 (2)) + (1))) 0 ((61) + table)) + (1))) (fX9_phrasesOf M table)).2 (Prod.ext rfl rfl)) (cwV 1 hts gX9_hosts_X9_done rfl rfl rfl (by decide +kernel) ⟨(Nat.le_of_ble_eq_true rfl), (Nat.le_of_ble_eq_true rfl)⟩) hK hP hD hS rfl rfl VG_0 rfl hl.1 rfl (Nat.le_of_ble_eq_true rfl) dX9_hosts_109 ⟨Nat.zero_le _, Nat.zero_le _⟩ (fun H locs hP hD hS => ?_)
          obtain ⟨e1, e2⟩ := Prod.mk.inj hE
          subst e2
          exact ci_i hx hb hr hlocks e1 rfl hS hP dX9_hosts_112
    · rw [if_pos b4] at hE
      refine lv_aload_n hx hb dX9_hosts_22 rfl (lv_at hl 0 rfl) ?_
      refine z_bipush hx hb dX9_hosts_23 (by decide +kernel) ?_
      refine lv_aload_n hx hb dX9_hosts_25 rfl (lv_at hl 0 rfl) ?_
      refine va_get (own := RX9) (ref := "NapkinSyntaxModel") (C := RX9) (T := TX9) (N := 20) hx hb hts hinX9 hown hK hP 0 VG_0 rfl 0 (Nat.le_of_ble_eq_true rfl) (hts (.fieldLink RX9 7 "NapkinSyntaxModel" "g" "[I") (by decide +kernel)) (fun _ h => h) (v := .ref (E 1)) rfl dX9_hosts_26 ?_
      refine z_bipush hx hb dX9_hosts_29 (by decide +kernel) ?_
      refine lv_iload_n hx hb dX9_hosts_31 rfl (lv_at hl 1 rfl) ?_
      refine z_iadd hx hb dX9_hosts_32 ?_
      refine z_iald hx hb hK hP 1 0 VG_1 rfl (by omega) (by omega) (by decide) dX9_hosts_33 ?_
      have q9 := GI_55 hG ((55) + table) (by omega) (by omega)
      refine z_iconst hx hb dX9_hosts_34 ?_
      refine ct_Vi (VG_fix E cI cC) hZo hZb hZ S0 (kX9_refused l D E cI cC Z hZo hZb M (8) (M 0 ((55) + table)) (2)  (fX9_refused M (8) (M 0 ((55) + table)) (2)).1 (fX9_refused M (8) (M 0 ((55) + table)) (2)).2 (Prod.ext rfl rfl)) (cwV 3 hts gX9_hosts_X9_refused rfl rfl rfl (by decide +kernel) ⟨(Nat.le_of_ble_eq_true rfl), (Nat.le_of_ble_eq_true rfl)⟩) hK hP hD hS rfl rfl VG_0 rfl hl.1 rfl (Nat.le_of_ble_eq_true rfl) dX9_hosts_35 ⟨Nat.zero_le _, Nat.zero_le _⟩ (fun H locs hP hD hS => ?_)
      obtain ⟨e1, e2⟩ := Prod.mk.inj hE
      subst e2
      exact ci_i hx hb hr hlocks e1 rfl hS hP dX9_hosts_38
  · rw [if_pos b2] at hE
    refine lv_aload_n hx hb dX9_hosts_7 rfl (lv_at hl 0 rfl) ?_
    refine z_iconst hx hb dX9_hosts_8 ?_
    refine ct_Vi (VG_fix E cI cC) hZo hZb hZ S0 (kX9_fails l D E cI cC Z hZo hZb M (1)  (fX9_fails M (1)).1 (fX9_fails M (1)).2 (Prod.ext rfl rfl)) (cwV 1 hts gX9_hosts_X9_fails rfl rfl rfl (by decide +kernel) ⟨(Nat.le_of_ble_eq_true rfl), (Nat.le_of_ble_eq_true rfl)⟩) hK hP hD hS rfl rfl VG_0 rfl hl.1 rfl (Nat.le_of_ble_eq_true rfl) dX9_hosts_9 ⟨Nat.zero_le _, Nat.zero_le _⟩ (fun H locs hP hD hS => ?_)
    obtain ⟨e1, e2⟩ := Prod.mk.inj hE
    subst e2
    exact ci_i hx hb hr hlocks e1 rfl hS hP dX9_hosts_12

theorem fr_fX9_hosts {M : Mem} (table : Int) {r : Nat} (h0 : Nat.beq r 0 = false) (h19 : Nat.beq r 19 = false) (h20 : Nat.beq r 20 = false) (h21 : Nat.beq r 21 = false) (h22 : Nat.beq r 22 = false) (h23 : Nat.beq r 23 = false) (h26 : Nat.beq r 26 = false) : (fX9_hosts M table).2 r = M r := by
  unfold fX9_hosts
  (repeat' with_reducible refine frite_w (fun _ => ?_) (fun _ => ?_)) <;> first | with_reducible rfl | simp only [mst_o, msf_o, mcp_o, fr_fX9_done, fr_fX9_fails, fr_fX9_refused, h0, h19, h20, h21, h22, h23, h26]
