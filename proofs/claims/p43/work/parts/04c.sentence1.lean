/-! the class Sentence: what it reads -/

/-- what holds of a sentence's arrays: how many, and within what bounds their places lie -/
def SI (M : Mem) : Prop := (0 ≤ M 7 0 ∧ M 7 0 ≤ 6) ∧ (∀ j : Int, 0 ≤ j → j < 6 → -1 ≤ M 1 j ∧ M 1 j ≤ 9) ∧ (∀ j : Int, 0 ≤ j → j < 6 → 0 ≤ M 2 j ∧ M 2 j ≤ 4) ∧ (∀ j : Int, 0 ≤ j → j < 6 → 0 ≤ M 3 j ∧ M 3 j ≤ 3) ∧ (∀ j : Int, 0 ≤ j → j < 6 → 0 ≤ M 4 j ∧ M 4 j ≤ 9)
theorem SI_of {M N : Mem} (h1 : N 1 = M 1) (h2 : N 2 = M 2) (h3 : N 3 = M 3) (h4 : N 4 = M 4) (h7 : N 7 = M 7) (h : SI M) : SI N := by unfold SI at *; rw [h1, h2, h3, h4, h7]; exact h
theorem SI_n {M : Mem} (h : SI M) : 0 ≤ M 7 0 ∧ M 7 0 ≤ 6 := h.1
theorem SI_1 {M : Mem} (h : SI M) (j : Int) (h1 : 0 ≤ j) (h2 : j < 6) : -1 ≤ M 1 j ∧ M 1 j ≤ 9 := h.2.1 j h1 h2
theorem SI_2 {M : Mem} (h : SI M) (j : Int) (h1 : 0 ≤ j) (h2 : j < 6) : 0 ≤ M 2 j ∧ M 2 j ≤ 4 := h.2.2.1 j h1 h2
theorem SI_3 {M : Mem} (h : SI M) (j : Int) (h1 : 0 ≤ j) (h2 : j < 6) : 0 ≤ M 3 j ∧ M 3 j ≤ 3 := h.2.2.2.1 j h1 h2
theorem SI_4 {M : Mem} (h : SI M) (j : Int) (h1 : 0 ≤ j) (h2 : j < 6) : 0 ≤ M 4 j ∧ M 4 j ≤ 9 := h.2.2.2.2 j h1 h2
theorem mst_r {σ : Int → Int} {z v lo hi a b b' : Int} (h : ∀ j : Int, a ≤ j → j < b → lo ≤ σ j ∧ σ j ≤ hi) (hv : lo ≤ v ∧ v ≤ hi) (hb : ∀ j : Int, a ≤ j → j < b' → j = z ∨ j < b) : ∀ j : Int, a ≤ j → j < b' → lo ≤ up σ z v j ∧ up σ z v j ≤ hi := by
  intro j h1 h2
  unfold up
  split
  · exact hv
  · rcases hb j h1 h2 with q | q
    · contradiction
    · exact h j h1 q

def fX4_isEnd (point : Int) : Int := if (point = (2)) then (1) else if (point = (3)) then (1) else (0)
set_option maxRecDepth 100000 in
set_option maxHeartbeats 4000000 in
theorem kX4_isEnd (l : Launch) (D : va_G) (E : Nat → Nat) (cI cC : ClassId) (Z : State → Prop) (hZo : ∀ M : Mem, ZOk (VC E cI cC M) Z) (hZb : ZBl Z) (M : Mem) (point : Int) (h1 : -1 ≤ point ∧ point ≤ 3) (r : Int) (hE : fX4_isEnd point = r) : Ci l yX4_isEnd wsX4_isEnd 0 0 [.int (iI point)] D (TY cI cC) (VC E cI cC) Z M r M := by
  refine Ci.of (cc := cX4_isEnd) (maxL := 1) (ret := (some .boolean)) (by decide +kernel) rfl (Nat.le_of_ble_eq_true rfl) ?_
  intro p e s m args below meth c ls hx hb hml hr hown hts hlocks hP hK hD hZ hS hl
  have hl : lv_has ls 1 [(0, .int (iI point))] := hl
  have S0 : CallFix p m c cX4_isEnd 1 s args wsX4_isEnd RX4 := ⟨hx, hb, hml, hown, hts⟩
  rw [fX4_isEnd] at hE
  refine lv_iload_n hx hb dX4_isEnd_0 rfl (lv_at hl 0 rfl) ?_
  refine z_iconst hx hb dX4_isEnd_1 ?_
  refine z_icmp_eq hx hb dX4_isEnd_2 (tgt := 10) rfl (by omega) (by omega) (fun b1 => ?_) (fun b1 => ?_)
  · rw [if_pos b1] at hE
    refine z_iconst hx hb dX4_isEnd_10 ?_
    refine lv_goto hx hb dX4_isEnd_11 (tgt := 15) rfl ?_
    exact ci_i hx hb hr hlocks hE nr_b1 hS hP dX4_isEnd_15
  · rw [if_neg b1] at hE
    refine lv_iload_n hx hb dX4_isEnd_5 rfl (lv_at hl 0 rfl) ?_
    refine z_iconst hx hb dX4_isEnd_6 ?_
    refine z_icmp_ne hx hb dX4_isEnd_7 (tgt := 14) rfl (by omega) (by omega) (fun b2 => ?_) (fun b2 => ?_)
    · rw [if_neg b2] at hE
      refine z_iconst hx hb dX4_isEnd_14 ?_
      exact ci_i hx hb hr hlocks hE nr_b0 hS hP dX4_isEnd_15
    · rw [if_pos b2] at hE
      refine z_iconst hx hb dX4_isEnd_10 ?_
      refine lv_goto hx hb dX4_isEnd_11 (tgt := 15) rfl ?_
      exact ci_i hx hb hr hlocks hE nr_b1 hS hP dX4_isEnd_15

def fX4_pointAfter (point fold : Int) : Int := if (fold = 1) then if (point = 0) then (1) else if (point = (1)) then (1) else (-1) else if (fold = 2) then if (point = (1)) then (2) else (-1) else if (fold = 3) then if (point = (2)) then (3) else (-1) else if (fold = 4) then if (point = (2)) then (0) else if (point = (3)) then (0) else (-1) else (-1)
set_option maxRecDepth 100000 in
set_option maxHeartbeats 4000000 in
theorem kX4_pointAfter (l : Launch) (D : va_G) (E : Nat → Nat) (cI cC : ClassId) (Z : State → Prop) (hZo : ∀ M : Mem, ZOk (VC E cI cC M) Z) (hZb : ZBl Z) (M : Mem) (point fold : Int) (h1 : -1 ≤ point ∧ point ≤ 3) (h2 : 0 ≤ fold ∧ fold ≤ 5) (r : Int) (hE : fX4_pointAfter point fold = r) : Ci l yX4_pointAfter wsX4_pointAfter 0 0 [.int (iI point), .int (iI fold)] D (TY cI cC) (VC E cI cC) Z M r M := by
  refine Ci.of (cc := cX4_pointAfter) (maxL := 2) (ret := (some .int)) (by decide +kernel) rfl (Nat.le_of_ble_eq_true rfl) ?_
  intro p e s m args below meth c ls hx hb hml hr hown hts hlocks hP hK hD hZ hS hl
  have hl : lv_has ls 2 [(0, .int (iI point)), (1, .int (iI fold))] := hl
  have S0 : CallFix p m c cX4_pointAfter 2 s args wsX4_pointAfter RX4 := ⟨hx, hb, hml, hown, hts⟩
  rw [fX4_pointAfter] at hE
  refine lv_iload_n hx hb dX4_pointAfter_0 rfl (lv_at hl 1 rfl) ?_
  by_cases b1 : (fold = 1)
  · rw [if_pos b1] at hE
    refine z_table hx hb dX4_pointAfter_1 (k0 := 1) (tgt := 32) (by omega) b1 (by decide) (by decide) rfl rfl ?_
    refine lv_iload_n hx hb dX4_pointAfter_32 rfl (lv_at hl 0 rfl) ?_
    refine z_if_eq hx hb dX4_pointAfter_33 (tgt := 41) rfl (by omega) (fun b2 => ?_) (fun b2 => ?_)
    · rw [if_pos b2] at hE
      refine z_iconst hx hb dX4_pointAfter_41 ?_
      refine lv_goto hx hb dX4_pointAfter_42 (tgt := 46) rfl ?_
      exact ci_i hx hb hr hlocks hE rfl hS hP dX4_pointAfter_46
    · rw [if_neg b2] at hE
      refine lv_iload_n hx hb dX4_pointAfter_36 rfl (lv_at hl 0 rfl) ?_
      refine z_iconst hx hb dX4_pointAfter_37 ?_
      refine z_icmp_ne hx hb dX4_pointAfter_38 (tgt := 45) rfl (by omega) (by omega) (fun b3 => ?_) (fun b3 => ?_)
      · rw [if_neg b3] at hE
        refine z_iconst hx hb dX4_pointAfter_45 ?_
        exact ci_i hx hb hr hlocks hE rfl hS hP dX4_pointAfter_46
      · rw [if_pos b3] at hE
        refine z_iconst hx hb dX4_pointAfter_41 ?_
        refine lv_goto hx hb dX4_pointAfter_42 (tgt := 46) rfl ?_
        exact ci_i hx hb hr hlocks hE rfl hS hP dX4_pointAfter_46
  · rw [if_neg b1] at hE
    by_cases b4 : (fold = 2)
    · rw [if_pos b4] at hE
      refine z_table hx hb dX4_pointAfter_1 (k0 := 2) (tgt := 47) (by omega) b4 (by decide) (by decide) rfl rfl ?_
      refine lv_iload_n hx hb dX4_pointAfter_47 rfl (lv_at hl 0 rfl) ?_
      refine z_iconst hx hb dX4_pointAfter_48 ?_
      refine z_icmp_ne hx hb dX4_pointAfter_49 (tgt := 56) rfl (by omega) (by omega) (fun b5 => ?_) (fun b5 => ?_)
      · rw [if_neg b5] at hE
        refine z_iconst hx hb dX4_pointAfter_56 ?_
        exact ci_i hx hb hr hlocks hE rfl hS hP dX4_pointAfter_57
      · rw [if_pos b5] at hE
        refine z_iconst hx hb dX4_pointAfter_52 ?_
        refine lv_goto hx hb dX4_pointAfter_53 (tgt := 57) rfl ?_
        exact ci_i hx hb hr hlocks hE rfl hS hP dX4_pointAfter_57
    · rw [if_neg b4] at hE
      by_cases b6 : (fold = 3)
      · rw [if_pos b6] at hE
        refine z_table hx hb dX4_pointAfter_1 (k0 := 3) (tgt := 58) (by omega) b6 (by decide) (by decide) rfl rfl ?_
        refine lv_iload_n hx hb dX4_pointAfter_58 rfl (lv_at hl 0 rfl) ?_
        refine z_iconst hx hb dX4_pointAfter_59 ?_
        refine z_icmp_ne hx hb dX4_pointAfter_60 (tgt := 67) rfl (by omega) (by omega) (fun b7 => ?_) (fun b7 => ?_)
        · rw [if_neg b7] at hE
          refine z_iconst hx hb dX4_pointAfter_67 ?_
          exact ci_i hx hb hr hlocks hE rfl hS hP dX4_pointAfter_68
        · rw [if_pos b7] at hE
          refine z_iconst hx hb dX4_pointAfter_63 ?_
          refine lv_goto hx hb dX4_pointAfter_64 (tgt := 68) rfl ?_
          exact ci_i hx hb hr hlocks hE rfl hS hP dX4_pointAfter_68
      · rw [if_neg b6] at hE
        by_cases b8 : (fold = 4)
        · rw [if_pos b8] at hE
          refine z_table hx hb dX4_pointAfter_1 (k0 := 4) (tgt := 69) (by omega) b8 (by decide) (by decide) rfl rfl ?_
          refine lv_iload_n hx hb dX4_pointAfter_69 rfl (lv_at hl 0 rfl) ?_
          refine z_iconst hx hb dX4_pointAfter_70 ?_
          refine z_icmp_eq hx hb dX4_pointAfter_71 (tgt := 79) rfl (by omega) (by omega) (fun b9 => ?_) (fun b9 => ?_)
          · rw [if_pos b9] at hE
            refine z_iconst hx hb dX4_pointAfter_79 ?_
            refine lv_goto hx hb dX4_pointAfter_80 (tgt := 84) rfl ?_
            exact ci_i hx hb hr hlocks hE rfl hS hP dX4_pointAfter_84
          · rw [if_neg b9] at hE
            refine lv_iload_n hx hb dX4_pointAfter_74 rfl (lv_at hl 0 rfl) ?_
            refine z_iconst hx hb dX4_pointAfter_75 ?_
            refine z_icmp_ne hx hb dX4_pointAfter_76 (tgt := 83) rfl (by omega) (by omega) (fun b10 => ?_) (fun b10 => ?_)
            · rw [if_neg b10] at hE
              refine z_iconst hx hb dX4_pointAfter_83 ?_
              exact ci_i hx hb hr hlocks hE rfl hS hP dX4_pointAfter_84
            · rw [if_pos b10] at hE
              refine z_iconst hx hb dX4_pointAfter_79 ?_
              refine lv_goto hx hb dX4_pointAfter_80 (tgt := 84) rfl ?_
              exact ci_i hx hb hr hlocks hE rfl hS hP dX4_pointAfter_84
        · rw [if_neg b8] at hE
          refine z_tableD hx hb dX4_pointAfter_1 (tgt := 85) (by omega) (by omega) rfl ?_
          refine z_iconst hx hb dX4_pointAfter_85 ?_
          exact ci_i hx hb hr hlocks hE rfl hS hP dX4_pointAfter_86


theorem bX4_isEnd (p : Int) : 0 ≤ fX4_isEnd p ∧ fX4_isEnd p ≤ 1 := by unfold fX4_isEnd; (repeat' split) <;> omega
theorem rg_X4_pointAfter (p f : Int) : -1 ≤ fX4_pointAfter p f ∧ fX4_pointAfter p f ≤ 3 := by unfold fX4_pointAfter; (repeat' split) <;> omega

def fX4_isNumber (M : Mem) (number : Int) : Int := if (number < 0) then (0) else if ((M 7 0) ≤ number) then (0) else if ((6) ≤ number) then (0) else (1)
set_option maxRecDepth 100000 in
set_option maxHeartbeats 4000000 in
theorem kX4_isNumber (l : Launch) (D : va_G) (E : Nat → Nat) (cI cC : ClassId) (Z : State → Prop) (hZo : ∀ M : Mem, ZOk (VC E cI cC M) Z) (hZb : ZBl Z) (M : Mem) (number : Int) (h1 : -2147483648 ≤ number ∧ number < 2147483648) (hQ : SI M) (r : Int) (hE : fX4_isNumber M number = r) : Ci l yX4_isNumber wsX4_isNumber 0 0 [.ref (E 4), .int (iI number)] D (TY cI cC) (VC E cI cC) Z M r M := by
  refine Ci.of (cc := cX4_isNumber) (maxL := 2) (ret := (some .boolean)) (by decide +kernel) rfl (Nat.le_of_ble_eq_true rfl) ?_
  intro p e s m args below meth c ls hx hb hml hr hown hts hlocks hP hK hD hZ hS hl
  have hl : lv_has ls 2 [(0, .ref (E 4)), (1, .int (iI number))] := hl
  have S0 : CallFix p m c cX4_isNumber 2 s args wsX4_isNumber RX4 := ⟨hx, hb, hml, hown, hts⟩
  have hinX4 : ∀ w ∈ u_ws RX4 TX4 7, w ∈ wsX4_isNumber := by decide +kernel
  rw [fX4_isNumber] at hE
  refine lv_iload_n hx hb dX4_isNumber_0 rfl (lv_at hl 1 rfl) ?_
  refine z_if_lt hx hb dX4_isNumber_1 (tgt := 22) rfl (by omega) (fun b1 => ?_) (fun b1 => ?_)
  · rw [if_pos b1] at hE
    refine z_iconst hx hb dX4_isNumber_22 ?_
    exact ci_i hx hb hr hlocks hE nr_b0 hS hP dX4_isNumber_23
  · rw [if_neg b1] at hE
    refine lv_iload_n hx hb dX4_isNumber_4 rfl (lv_at hl 1 rfl) ?_
    refine lv_aload_n hx hb dX4_isNumber_5 rfl (lv_at hl 0 rfl) ?_
    refine va_get (own := RX4) (ref := "NapkinSyntax$Sentence") (C := RX4) (T := TX4) (N := 7) hx hb hts hinX4 hown hK hP 4 VC_4 rfl 6 (Nat.le_of_ble_eq_true rfl) (hts (.fieldLink RX4 30 "NapkinSyntax$Sentence" "size" "I") (by decide +kernel)) (fun _ h => h) (v := .int (iI (M 7 0))) rfl dX4_isNumber_6 ?_
    have q2 := SI_n hQ
    refine z_icmp_ge hx hb dX4_isNumber_9 (tgt := 22) rfl (by omega) (by omega) (fun b3 => ?_) (fun b3 => ?_)
    · rw [if_pos b3] at hE
      refine z_iconst hx hb dX4_isNumber_22 ?_
      exact ci_i hx hb hr hlocks hE nr_b0 hS hP dX4_isNumber_23
    · rw [if_neg b3] at hE
      refine lv_iload_n hx hb dX4_isNumber_12 rfl (lv_at hl 1 rfl) ?_
      refine z_bipush hx hb dX4_isNumber_13 (by decide +kernel) ?_
      refine z_icmp_ge hx hb dX4_isNumber_15 (tgt := 22) rfl (by omega) (by omega) (fun b4 => ?_) (fun b4 => ?_)
      · rw [if_pos b4] at hE
        refine z_iconst hx hb dX4_isNumber_22 ?_
        exact ci_i hx hb hr hlocks hE nr_b0 hS hP dX4_isNumber_23
      · rw [if_neg b4] at hE
        refine z_iconst hx hb dX4_isNumber_18 ?_
        refine lv_goto hx hb dX4_isNumber_19 (tgt := 23) rfl ?_
        exact ci_i hx hb hr hlocks hE nr_b1 hS hP dX4_isNumber_23


theorem bX4_isNumber (M : Mem) (n : Int) : 0 ≤ fX4_isNumber M n ∧ fX4_isNumber M n ≤ 1 := by unfold fX4_isNumber; (repeat' split) <;> omega
theorem tX4_isNumber {M : Mem} {n : Int} (h : ¬ fX4_isNumber M n = 0) : 0 ≤ n ∧ n < M 7 0 ∧ n < 6 := by
  unfold fX4_isNumber at h
  (repeat' split at h) <;> omega

def fX4_foldAt (M : Mem) (number : Int) : Int := if (number < 0) then (0) else if ((M 7 0) ≤ number) then (0) else if ((6) ≤ number) then (0) else (M 2 number)
set_option maxRecDepth 100000 in
set_option maxHeartbeats 4000000 in
theorem kX4_foldAt (l : Launch) (D : va_G) (E : Nat → Nat) (cI cC : ClassId) (Z : State → Prop) (hZo : ∀ M : Mem, ZOk (VC E cI cC M) Z) (hZb : ZBl Z) (M : Mem) (number : Int) (h1 : -2147483648 ≤ number ∧ number < 2147483648) (hQ : SI M) (r : Int) (hE : fX4_foldAt M number = r) : Ci l yX4_foldAt wsX4_foldAt 0 0 [.ref (E 4), .int (iI number)] D (TY cI cC) (VC E cI cC) Z M r M := by
  refine Ci.of (cc := cX4_foldAt) (maxL := 2) (ret := (some .int)) (by decide +kernel) rfl (Nat.le_of_ble_eq_true rfl) ?_
  intro p e s m args below meth c ls hx hb hml hr hown hts hlocks hP hK hD hZ hS hl
  have hl : lv_has ls 2 [(0, .ref (E 4)), (1, .int (iI number))] := hl
  have S0 : CallFix p m c cX4_foldAt 2 s args wsX4_foldAt RX4 := ⟨hx, hb, hml, hown, hts⟩
  have hinX4 : ∀ w ∈ u_ws RX4 TX4 7, w ∈ wsX4_foldAt := by decide +kernel
  rw [fX4_foldAt] at hE
  refine lv_iload_n hx hb dX4_foldAt_0 rfl (lv_at hl 1 rfl) ?_
  refine z_if_lt hx hb dX4_foldAt_1 (tgt := 27) rfl (by omega) (fun b1 => ?_) (fun b1 => ?_)
  · rw [if_pos b1] at hE
    refine z_iconst hx hb dX4_foldAt_27 ?_
    exact ci_i hx hb hr hlocks hE rfl hS hP dX4_foldAt_28
  · rw [if_neg b1] at hE
    refine lv_iload_n hx hb dX4_foldAt_4 rfl (lv_at hl 1 rfl) ?_
    refine lv_aload_n hx hb dX4_foldAt_5 rfl (lv_at hl 0 rfl) ?_
    refine va_get (own := RX4) (ref := "NapkinSyntax$Sentence") (C := RX4) (T := TX4) (N := 7) hx hb hts hinX4 hown hK hP 4 VC_4 rfl 6 (Nat.le_of_ble_eq_true rfl) (hts (.fieldLink RX4 30 "NapkinSyntax$Sentence" "size" "I") (by decide +kernel)) (fun _ h => h) (v := .int (iI (M 7 0))) rfl dX4_foldAt_6 ?_
    have q2 := SI_n hQ
    refine z_icmp_ge hx hb dX4_foldAt_9 (tgt := 27) rfl (by omega) (by omega) (fun b3 => ?_) (fun b3 => ?_)
    · rw [if_pos b3] at hE
      refine z_iconst hx hb dX4_foldAt_27 ?_
      exact ci_i hx hb hr hlocks hE rfl hS hP dX4_foldAt_28
    · rw [if_neg b3] at hE
      refine lv_iload_n hx hb dX4_foldAt_12 rfl (lv_at hl 1 rfl) ?_
      refine z_bipush hx hb dX4_foldAt_13 (by decide +kernel) ?_
      refine z_icmp_ge hx hb dX4_foldAt_15 (tgt := 27) rfl (by omega) (by omega) (fun b4 => ?_) (fun b4 => ?_)
      · rw [if_pos b4] at hE
        refine z_iconst hx hb dX4_foldAt_27 ?_
        exact ci_i hx hb hr hlocks hE rfl hS hP dX4_foldAt_28
      · rw [if_neg b4] at hE
        refine lv_aload_n hx hb dX4_foldAt_18 rfl (lv_at hl 0 rfl) ?_
        refine va_get (own := RX4) (ref := "NapkinSyntax$Sentence") (C := RX4) (T := TX4) (N := 7) hx hb hts hinX4 hown hK hP 4 VC_4 rfl 1 (Nat.le_of_ble_eq_true rfl) (hts (.fieldLink RX4 15 "NapkinSyntax$Sentence" "folds" "[I") (by decide +kernel)) (fun _ h => h) (v := .ref (E 6)) rfl dX4_foldAt_19 ?_
        refine lv_iload_n hx hb dX4_foldAt_22 rfl (lv_at hl 1 rfl) ?_
        refine z_iald hx hb hK hP 6 0 VC_6 rfl (by omega) (by omega) (by decide) dX4_foldAt_23 ?_
        have q5 := SI_2 hQ number (by omega) (by omega)
        refine lv_goto hx hb dX4_foldAt_24 (tgt := 28) rfl ?_
        exact ci_i hx hb hr hlocks hE rfl hS hP dX4_foldAt_28


theorem rg_X4_foldAt {M : Mem} (h : SI M) (n : Int) : 0 ≤ fX4_foldAt M n ∧ fX4_foldAt M n ≤ 4 := by
  unfold fX4_foldAt
  (repeat' split) <;> first | omega | exact SI_2 h _ (by omega) (by omega)

def fX4_colourAt (M : Mem) (number : Int) : Int := if ((fX4_isNumber M number) = 0) then (-1) else (M 3 number)
set_option maxRecDepth 100000 in
set_option maxHeartbeats 4000000 in
theorem kX4_colourAt (l : Launch) (D : va_G) (E : Nat → Nat) (cI cC : ClassId) (Z : State → Prop) (hZo : ∀ M : Mem, ZOk (VC E cI cC M) Z) (hZb : ZBl Z) (M : Mem) (number : Int) (h1 : -2147483648 ≤ number ∧ number < 2147483648) (hQ : SI M) (r : Int) (hE : fX4_colourAt M number = r) : Ci l yX4_colourAt wsX4_colourAt 1 21 [.ref (E 4), .int (iI number)] D (TY cI cC) (VC E cI cC) Z M r M := by
  refine Ci.of (cc := cX4_colourAt) (maxL := 2) (ret := (some .int)) (by decide +kernel) rfl (Nat.le_of_ble_eq_true rfl) ?_
  intro p e s m args below meth c ls hx hb hml hr hown hts hlocks hP hK hD hZ hS hl
  have hl : lv_has ls 2 [(0, .ref (E 4)), (1, .int (iI number))] := hl
  have S0 : CallFix p m c cX4_colourAt 2 s args wsX4_colourAt RX4 := ⟨hx, hb, hml, hown, hts⟩
  have hinX4 : ∀ w ∈ u_ws RX4 TX4 7, w ∈ wsX4_colourAt := by decide +kernel
  rw [fX4_colourAt] at hE
  refine lv_aload_n hx hb dX4_colourAt_0 rfl (lv_at hl 0 rfl) ?_
  refine lv_iload_n hx hb dX4_colourAt_1 rfl (lv_at hl 1 rfl) ?_
  refine ct_Vi (VC_fix E cI cC) hZo hZb hZ S0 (kX4_isNumber l D E cI cC Z hZo hZb M number (by omega) hQ (fX4_isNumber M number) rfl) (cwV 1 hts gX4_colourAt_X4_isNumber rfl rfl rfl (by decide +kernel) ⟨(Nat.le_of_ble_eq_true rfl), (Nat.le_of_ble_eq_true rfl)⟩) hK hP hD hS rfl rfl VC_4 rfl hl.1 rfl (Nat.le_of_ble_eq_true rfl) dX4_colourAt_2 ⟨Nat.zero_le _, Nat.zero_le _⟩ (fun H locs hP hD hS => ?_)
  have q1 := bX4_isNumber M number
  refine z_if_eq hx hb dX4_colourAt_5 (tgt := 17) rfl (by omega) (fun b2 => ?_) (fun b2 => ?_)
  · rw [if_pos b2] at hE
    refine z_iconst hx hb dX4_colourAt_17 ?_
    exact ci_i hx hb hr hlocks hE rfl hS hP dX4_colourAt_18
  · rw [if_neg b2] at hE
    refine lv_aload_n hx hb dX4_colourAt_8 rfl (lv_at hl 0 rfl) ?_
    refine va_get (own := RX4) (ref := "NapkinSyntax$Sentence") (C := RX4) (T := TX4) (N := 7) hx hb hts hinX4 hown hK hP 4 VC_4 rfl 2 (Nat.le_of_ble_eq_true rfl) (hts (.fieldLink RX4 18 "NapkinSyntax$Sentence" "colours" "[I") (by decide +kernel)) (fun _ h => h) (v := .ref (E 7)) rfl dX4_colourAt_9 ?_
    refine lv_iload_n hx hb dX4_colourAt_12 rfl (lv_at hl 1 rfl) ?_
    have q99 := tX4_isNumber (by assumption : ¬ fX4_isNumber M number = 0)
    refine z_iald hx hb hK hP 7 0 VC_7 rfl (by omega) (by omega) (by decide) dX4_colourAt_13 ?_
    have q3 := SI_3 hQ number (by omega) (by omega)
    refine lv_goto hx hb dX4_colourAt_14 (tgt := 18) rfl ?_
    exact ci_i hx hb hr hlocks hE rfl hS hP dX4_colourAt_18


theorem rg_X4_colourAt {M : Mem} (h : SI M) (n : Int) : -1 ≤ fX4_colourAt M n ∧ fX4_colourAt M n ≤ 3 := by
  unfold fX4_colourAt
  by_cases hn : fX4_isNumber M n = 0
  · simp only [hn, if_pos]; omega
  · simp only [hn, if_neg, not_false_eq_true]
    have q := tX4_isNumber hn
    have q2 := SI_3 h n (by omega) (by omega)
    omega

def fX4_stainsAt (M : Mem) (number : Int) : Int := if ((fX4_isNumber M number) = 0) then (0) else (M 4 number)
set_option maxRecDepth 100000 in
set_option maxHeartbeats 4000000 in
theorem kX4_stainsAt (l : Launch) (D : va_G) (E : Nat → Nat) (cI cC : ClassId) (Z : State → Prop) (hZo : ∀ M : Mem, ZOk (VC E cI cC M) Z) (hZb : ZBl Z) (M : Mem) (number : Int) (h1 : -2147483648 ≤ number ∧ number < 2147483648) (hQ : SI M) (r : Int) (hE : fX4_stainsAt M number = r) : Ci l yX4_stainsAt wsX4_stainsAt 1 21 [.ref (E 4), .int (iI number)] D (TY cI cC) (VC E cI cC) Z M r M := by
  refine Ci.of (cc := cX4_stainsAt) (maxL := 2) (ret := (some .int)) (by decide +kernel) rfl (Nat.le_of_ble_eq_true rfl) ?_
  intro p e s m args below meth c ls hx hb hml hr hown hts hlocks hP hK hD hZ hS hl
  have hl : lv_has ls 2 [(0, .ref (E 4)), (1, .int (iI number))] := hl
  have S0 : CallFix p m c cX4_stainsAt 2 s args wsX4_stainsAt RX4 := ⟨hx, hb, hml, hown, hts⟩
  have hinX4 : ∀ w ∈ u_ws RX4 TX4 7, w ∈ wsX4_stainsAt := by decide +kernel
  rw [fX4_stainsAt] at hE
  refine lv_aload_n hx hb dX4_stainsAt_0 rfl (lv_at hl 0 rfl) ?_
  refine lv_iload_n hx hb dX4_stainsAt_1 rfl (lv_at hl 1 rfl) ?_
  refine ct_Vi (VC_fix E cI cC) hZo hZb hZ S0 (kX4_isNumber l D E cI cC Z hZo hZb M number (by omega) hQ (fX4_isNumber M number) rfl) (cwV 1 hts gX4_stainsAt_X4_isNumber rfl rfl rfl (by decide +kernel) ⟨(Nat.le_of_ble_eq_true rfl), (Nat.le_of_ble_eq_true rfl)⟩) hK hP hD hS rfl rfl VC_4 rfl hl.1 rfl (Nat.le_of_ble_eq_true rfl) dX4_stainsAt_2 ⟨Nat.zero_le _, Nat.zero_le _⟩ (fun H locs hP hD hS => ?_)
  have q1 := bX4_isNumber M number
  refine z_if_eq hx hb dX4_stainsAt_5 (tgt := 17) rfl (by omega) (fun b2 => ?_) (fun b2 => ?_)
  · rw [if_pos b2] at hE
    refine z_iconst hx hb dX4_stainsAt_17 ?_
    exact ci_i hx hb hr hlocks hE rfl hS hP dX4_stainsAt_18
  · rw [if_neg b2] at hE
    refine lv_aload_n hx hb dX4_stainsAt_8 rfl (lv_at hl 0 rfl) ?_
    refine va_get (own := RX4) (ref := "NapkinSyntax$Sentence") (C := RX4) (T := TX4) (N := 7) hx hb hts hinX4 hown hK hP 4 VC_4 rfl 3 (Nat.le_of_ble_eq_true rfl) (hts (.fieldLink RX4 21 "NapkinSyntax$Sentence" "stains" "[I") (by decide +kernel)) (fun _ h => h) (v := .ref (E 8)) rfl dX4_stainsAt_9 ?_
    refine lv_iload_n hx hb dX4_stainsAt_12 rfl (lv_at hl 1 rfl) ?_
    have q99 := tX4_isNumber (by assumption : ¬ fX4_isNumber M number = 0)
    refine z_iald hx hb hK hP 8 0 VC_8 rfl (by omega) (by omega) (by decide) dX4_stainsAt_13 ?_
    have q3 := SI_4 hQ number (by omega) (by omega)
    refine lv_goto hx hb dX4_stainsAt_14 (tgt := 18) rfl ?_
    exact ci_i hx hb hr hlocks hE rfl hS hP dX4_stainsAt_18


theorem rg_X4_stainsAt {M : Mem} (h : SI M) (n : Int) : 0 ≤ fX4_stainsAt M n ∧ fX4_stainsAt M n ≤ 9 := by
  unfold fX4_stainsAt
  by_cases hn : fX4_isNumber M n = 0
  · simp only [hn, if_pos]; omega
  · simp only [hn, if_neg, not_false_eq_true]
    have q := tX4_isNumber hn
    have q2 := SI_4 h n (by omega) (by omega)
    omega

def fX4_napkinAt (M : Mem) (number : Int) : Int := if ((fX4_isNumber M number) = 0) then (-1) else (M 1 number)
set_option maxRecDepth 100000 in
set_option maxHeartbeats 4000000 in
theorem kX4_napkinAt (l : Launch) (D : va_G) (E : Nat → Nat) (cI cC : ClassId) (Z : State → Prop) (hZo : ∀ M : Mem, ZOk (VC E cI cC M) Z) (hZb : ZBl Z) (M : Mem) (number : Int) (h1 : -2147483648 ≤ number ∧ number < 2147483648) (hQ : SI M) (r : Int) (hE : fX4_napkinAt M number = r) : Ci l yX4_napkinAt wsX4_napkinAt 1 21 [.ref (E 4), .int (iI number)] D (TY cI cC) (VC E cI cC) Z M r M := by
  refine Ci.of (cc := cX4_napkinAt) (maxL := 2) (ret := (some .int)) (by decide +kernel) rfl (Nat.le_of_ble_eq_true rfl) ?_
  intro p e s m args below meth c ls hx hb hml hr hown hts hlocks hP hK hD hZ hS hl
  have hl : lv_has ls 2 [(0, .ref (E 4)), (1, .int (iI number))] := hl
  have S0 : CallFix p m c cX4_napkinAt 2 s args wsX4_napkinAt RX4 := ⟨hx, hb, hml, hown, hts⟩
  have hinX4 : ∀ w ∈ u_ws RX4 TX4 7, w ∈ wsX4_napkinAt := by decide +kernel
  rw [fX4_napkinAt] at hE
  refine lv_aload_n hx hb dX4_napkinAt_0 rfl (lv_at hl 0 rfl) ?_
  refine lv_iload_n hx hb dX4_napkinAt_1 rfl (lv_at hl 1 rfl) ?_
  refine ct_Vi (VC_fix E cI cC) hZo hZb hZ S0 (kX4_isNumber l D E cI cC Z hZo hZb M number (by omega) hQ (fX4_isNumber M number) rfl) (cwV 1 hts gX4_napkinAt_X4_isNumber rfl rfl rfl (by decide +kernel) ⟨(Nat.le_of_ble_eq_true rfl), (Nat.le_of_ble_eq_true rfl)⟩) hK hP hD hS rfl rfl VC_4 rfl hl.1 rfl (Nat.le_of_ble_eq_true rfl) dX4_napkinAt_2 ⟨Nat.zero_le _, Nat.zero_le _⟩ (fun H locs hP hD hS => ?_)
  have q1 := bX4_isNumber M number
  refine z_if_eq hx hb dX4_napkinAt_5 (tgt := 17) rfl (by omega) (fun b2 => ?_) (fun b2 => ?_)
  · rw [if_pos b2] at hE
    refine z_iconst hx hb dX4_napkinAt_17 ?_
    exact ci_i hx hb hr hlocks hE rfl hS hP dX4_napkinAt_18
  · rw [if_neg b2] at hE
    refine lv_aload_n hx hb dX4_napkinAt_8 rfl (lv_at hl 0 rfl) ?_
    refine va_get (own := RX4) (ref := "NapkinSyntax$Sentence") (C := RX4) (T := TX4) (N := 7) hx hb hts hinX4 hown hK hP 4 VC_4 rfl 0 (Nat.le_of_ble_eq_true rfl) (hts (.fieldLink RX4 9 "NapkinSyntax$Sentence" "napkins" "[I") (by decide +kernel)) (fun _ h => h) (v := .ref (E 5)) rfl dX4_napkinAt_9 ?_
    refine lv_iload_n hx hb dX4_napkinAt_12 rfl (lv_at hl 1 rfl) ?_
    have q99 := tX4_isNumber (by assumption : ¬ fX4_isNumber M number = 0)
    refine z_iald hx hb hK hP 5 0 VC_5 rfl (by omega) (by omega) (by decide) dX4_napkinAt_13 ?_
    have q3 := SI_1 hQ number (by omega) (by omega)
    refine lv_goto hx hb dX4_napkinAt_14 (tgt := 18) rfl ?_
    exact ci_i hx hb hr hlocks hE rfl hS hP dX4_napkinAt_18


theorem rg_X4_napkinAt {M : Mem} (h : SI M) (n : Int) : -1 ≤ fX4_napkinAt M n ∧ fX4_napkinAt M n ≤ 9 := by
  unfold fX4_napkinAt
  by_cases hn : fX4_isNumber M n = 0
  · simp only [hn, if_pos]; omega
  · simp only [hn, if_neg, not_false_eq_true]
    have q := tX4_isNumber hn
    have q2 := SI_1 h n (by omega) (by omega)
    omega

def fX4_size (M : Mem) : Int := (M 7 0)
set_option maxRecDepth 100000 in
set_option maxHeartbeats 4000000 in
theorem kX4_size (l : Launch) (D : va_G) (E : Nat → Nat) (cI cC : ClassId) (Z : State → Prop) (hZo : ∀ M : Mem, ZOk (VC E cI cC M) Z) (hZb : ZBl Z) (M : Mem) (hQ : SI M) (r : Int) (hE : fX4_size M = r) : Ci l yX4_size wsX4_size 0 0 [.ref (E 4)] D (TY cI cC) (VC E cI cC) Z M r M := by
  refine Ci.of (cc := cX4_size) (maxL := 1) (ret := (some .int)) (by decide +kernel) rfl (Nat.le_of_ble_eq_true rfl) ?_
  intro p e s m args below meth c ls hx hb hml hr hown hts hlocks hP hK hD hZ hS hl
  have hl : lv_has ls 1 [(0, .ref (E 4))] := hl
  have S0 : CallFix p m c cX4_size 1 s args wsX4_size RX4 := ⟨hx, hb, hml, hown, hts⟩
  have hinX4 : ∀ w ∈ u_ws RX4 TX4 7, w ∈ wsX4_size := by decide +kernel
  rw [fX4_size] at hE
  refine lv_aload_n hx hb dX4_size_0 rfl (lv_at hl 0 rfl) ?_
  refine va_get (own := RX4) (ref := "NapkinSyntax$Sentence") (C := RX4) (T := TX4) (N := 7) hx hb hts hinX4 hown hK hP 4 VC_4 rfl 6 (Nat.le_of_ble_eq_true rfl) (hts (.fieldLink RX4 30 "NapkinSyntax$Sentence" "size" "I") (by decide +kernel)) (fun _ h => h) (v := .int (iI (M 7 0))) rfl dX4_size_1 ?_
  have q1 := SI_n hQ
  exact ci_i hx hb hr hlocks hE rfl hS hP dX4_size_4


theorem rg_X4_size {M : Mem} (h : SI M) : 0 ≤ fX4_size M ∧ fX4_size M ≤ 6 := h.1

def fX4_isBoatAt (M : Mem) (number : Int) : Int := if ((fX4_foldAt M number) = (3)) then (1) else (0)
set_option maxRecDepth 100000 in
set_option maxHeartbeats 4000000 in
theorem kX4_isBoatAt (l : Launch) (D : va_G) (E : Nat → Nat) (cI cC : ClassId) (Z : State → Prop) (hZo : ∀ M : Mem, ZOk (VC E cI cC M) Z) (hZb : ZBl Z) (M : Mem) (number : Int) (h1 : -2147483648 ≤ number ∧ number < 2147483648) (hQ : SI M) (r : Int) (hE : fX4_isBoatAt M number = r) : Ci l yX4_isBoatAt wsX4_isBoatAt 1 21 [.ref (E 4), .int (iI number)] D (TY cI cC) (VC E cI cC) Z M r M := by
  refine Ci.of (cc := cX4_isBoatAt) (maxL := 2) (ret := (some .boolean)) (by decide +kernel) rfl (Nat.le_of_ble_eq_true rfl) ?_
  intro p e s m args below meth c ls hx hb hml hr hown hts hlocks hP hK hD hZ hS hl
  have hl : lv_has ls 2 [(0, .ref (E 4)), (1, .int (iI number))] := hl
  have S0 : CallFix p m c cX4_isBoatAt 2 s args wsX4_isBoatAt RX4 := ⟨hx, hb, hml, hown, hts⟩
  rw [fX4_isBoatAt] at hE
  refine lv_aload_n hx hb dX4_isBoatAt_0 rfl (lv_at hl 0 rfl) ?_
  refine lv_iload_n hx hb dX4_isBoatAt_1 rfl (lv_at hl 1 rfl) ?_
  refine ct_Vi (VC_fix E cI cC) hZo hZb hZ S0 (kX4_foldAt l D E cI cC Z hZo hZb M number (by omega) hQ (fX4_foldAt M number) rfl) (cwV 1 hts gX4_isBoatAt_X4_foldAt rfl rfl rfl (by decide +kernel) ⟨(Nat.le_of_ble_eq_true rfl), (Nat.le_of_ble_eq_true rfl)⟩) hK hP hD hS rfl rfl VC_4 rfl hl.1 rfl (Nat.le_of_ble_eq_true rfl) dX4_isBoatAt_2 ⟨Nat.zero_le _, Nat.zero_le _⟩ (fun H locs hP hD hS => ?_)
  have q1 := rg_X4_foldAt hQ number
  refine z_iconst hx hb dX4_isBoatAt_5 ?_
  refine z_icmp_ne hx hb dX4_isBoatAt_6 (tgt := 13) rfl (by omega) (by omega) (fun b2 => ?_) (fun b2 => ?_)
  · rw [if_neg b2] at hE
    refine z_iconst hx hb dX4_isBoatAt_13 ?_
    exact ci_i hx hb hr hlocks hE nr_b0 hS hP dX4_isBoatAt_14
  · rw [if_pos b2] at hE
    refine z_iconst hx hb dX4_isBoatAt_9 ?_
    refine lv_goto hx hb dX4_isBoatAt_10 (tgt := 14) rfl ?_
    exact ci_i hx hb hr hlocks hE nr_b1 hS hP dX4_isBoatAt_14


theorem bX4_isBoatAt (M : Mem) (n : Int) : 0 ≤ fX4_isBoatAt M n ∧ fX4_isBoatAt M n ≤ 1 := by unfold fX4_isBoatAt; (repeat' split) <;> omega

def fX4_countOf_L1 (M : Mem) (fold : Int) : Nat → Int → Int → (Int)
  | 0, _, _ => 0
  | k1 + 1, count, number => if ((M 7 0) ≤ number) then count else if ((fX4_foldAt M number) = fold) then fX4_countOf_L1 M fold k1 (count + 1) (number + 1) else fX4_countOf_L1 M fold k1 count (number + 1)
def fX4_countOf (M : Mem) (fold : Int) : Int := fX4_countOf_L1 M fold 8 (0) (0)
set_option maxRecDepth 100000 in
set_option maxHeartbeats 4000000 in
theorem kX4_countOf (l : Launch) (D : va_G) (E : Nat → Nat) (cI cC : ClassId) (Z : State → Prop) (hZo : ∀ M : Mem, ZOk (VC E cI cC M) Z) (hZb : ZBl Z) (M : Mem) (fold : Int) (h1 : -2147483648 ≤ fold ∧ fold < 2147483648) (hQ : SI M) (r : Int) (hE : fX4_countOf M fold = r) : Ci l yX4_countOf wsX4_countOf 1 21 [.ref (E 4), .int (iI fold)] D (TY cI cC) (VC E cI cC) Z M r M := by
  refine Ci.of (cc := cX4_countOf) (maxL := 4) (ret := (some .int)) (by decide +kernel) rfl (Nat.le_of_ble_eq_true rfl) ?_
  intro p e s m args below meth c ls hx hb hml hr hown hts hlocks hP hK hD hZ hS hl
  have hl : lv_has ls 4 [(0, .ref (E 4)), (1, .int (iI fold))] := hl
  have S0 : CallFix p m c cX4_countOf 4 s args wsX4_countOf RX4 := ⟨hx, hb, hml, hown, hts⟩
  have hinX4 : ∀ w ∈ u_ws RX4 TX4 7, w ∈ wsX4_countOf := by decide +kernel
  rw [fX4_countOf] at hE
  refine z_iconst hx hb dX4_countOf_0 ?_
  refine lv_istore_n hx hb dX4_countOf_1 rfl hl (Nat.le_of_ble_eq_true rfl) (lv' := [(2, .int (iI (0))), (0, .ref (E 4)), (1, .int (iI fold))]) rfl (fun ls hl => ?_)
  refine z_iconst hx hb dX4_countOf_2 ?_
  refine lv_istore_n hx hb dX4_countOf_3 rfl hl (Nat.le_of_ble_eq_true rfl) (lv' := [(3, .int (iI (0))), (2, .int (iI (0))), (0, .ref (E 4)), (1, .int (iI fold))]) rfl (fun ls hl => ?_)
  have L1 : ∀ (k1 : Nat) (count number : Int) (ls : Array Slot) (H : Heap) (locs : List Loc), lv_has ls 4 [(0, .ref (E 4)), (1, .int (iI fold)), (2, .int (iI count)), (3, .int (iI number))] → va_P D vwCl (VC E cI cC M) H → va_D (wA (VC E cI cC M)) (VC E cI cC M) → va_S (wA (VC E cI cC M)) s.heap H locs → (0 ≤ number) → (number ≤ M 7 0) → (M 7 0 - number < (k1 : Int)) → fX4_countOf_L1 M fold k1 count number = r → W p l e (zRm 1 21) s m args below meth c H locs 0 0 (MQ below (ciQ D (VC E cI cC) M r M) args s 0 0 (wA (VC E cI cC M))) (F0 m 4 ls []) := by
    intro k1
    induction k1 with
    | zero => intro count number ls H locs hl hP hD hS i1 i2 i3 hE; exfalso; omega
    | succ k1 ih1 =>
      intro count number ls H locs hl hP hD hS i1 i2 i3 hE
      have q97 := SI_n hQ
      rw [fX4_countOf_L1] at hE
      refine lv_iload_n hx hb dX4_countOf_4 rfl (lv_at hl 3 rfl) ?_
      refine lv_aload_n hx hb dX4_countOf_5 rfl (lv_at hl 0 rfl) ?_
      refine va_get (own := RX4) (ref := "NapkinSyntax$Sentence") (C := RX4) (T := TX4) (N := 7) hx hb hts hinX4 hown hK hP 4 VC_4 rfl 6 (Nat.le_of_ble_eq_true rfl) (hts (.fieldLink RX4 30 "NapkinSyntax$Sentence" "size" "I") (by decide +kernel)) (fun _ h => h) (v := .int (iI (M 7 0))) rfl dX4_countOf_6 ?_
      have q1 := SI_n hQ
      refine z_icmp_ge hx hb dX4_countOf_9 (tgt := 30) rfl (by omega) (by omega) (fun b2 => ?_) (fun b2 => ?_)
      · rw [if_pos b2] at hE
        refine lv_iload_n hx hb dX4_countOf_30 rfl (lv_at hl 2 rfl) ?_
        exact ci_i hx hb hr hlocks hE rfl hS hP dX4_countOf_31
      · rw [if_neg b2] at hE
        refine lv_aload_n hx hb dX4_countOf_12 rfl (lv_at hl 0 rfl) ?_
        refine lv_iload_n hx hb dX4_countOf_13 rfl (lv_at hl 3 rfl) ?_
        refine ct_Vi (VC_fix E cI cC) hZo hZb hZ S0 (kX4_foldAt l D E cI cC Z hZo hZb M number (by omega) hQ (fX4_foldAt M number) rfl) (cwV 1 hts gX4_countOf_X4_foldAt rfl rfl rfl (by decide +kernel) ⟨(Nat.le_of_ble_eq_true rfl), (Nat.le_of_ble_eq_true rfl)⟩) hK hP hD hS rfl rfl VC_4 rfl hl.1 rfl (Nat.le_of_ble_eq_true rfl) dX4_countOf_14 ⟨Nat.zero_le _, Nat.zero_le _⟩ (fun H locs hP hD hS => ?_)
        have q3 := rg_X4_foldAt hQ number
        refine lv_iload_n hx hb dX4_countOf_17 rfl (lv_at hl 1 rfl) ?_
        refine z_icmp_ne hx hb dX4_countOf_18 (tgt := 24) rfl (by omega) (by omega) (fun b4 => ?_) (fun b4 => ?_)
        · rw [if_neg b4] at hE
          refine z_iinc hx hb dX4_countOf_24 hl (k := 3) rfl (Nat.le_of_ble_eq_true rfl) (lv' := [(3, .int (iI (number + 1))), (0, .ref (E 4)), (1, .int (iI fold)), (2, .int (iI count))]) rfl (fun ls hl => ?_)
          refine lv_goto hx hb dX4_countOf_27 (tgt := 4) rfl ?_
          exact ih1 count (number + 1) ls _ _ (lv_sub hl [1, 2, 3, 0] rfl) hP hD hS (by omega) (by omega) (by omega) hE
        · rw [if_pos b4] at hE
          refine z_iinc hx hb dX4_countOf_21 hl (k := 2) rfl (Nat.le_of_ble_eq_true rfl) (lv' := [(2, .int (iI (count + 1))), (0, .ref (E 4)), (1, .int (iI fold)), (3, .int (iI number))]) rfl (fun ls hl => ?_)
          refine z_iinc hx hb dX4_countOf_24 hl (k := 3) rfl (Nat.le_of_ble_eq_true rfl) (lv' := [(3, .int (iI (number + 1))), (2, .int (iI (count + 1))), (0, .ref (E 4)), (1, .int (iI fold))]) rfl (fun ls hl => ?_)
          refine lv_goto hx hb dX4_countOf_27 (tgt := 4) rfl ?_
          exact ih1 (count + 1) (number + 1) ls _ _ (lv_sub hl [2, 3, 1, 0] rfl) hP hD hS (by omega) (by omega) (by omega) hE
  exact L1 8 (0) (0) ls _ _ (lv_sub hl [2, 3, 1, 0] rfl) hP hD hS (by omega) (by have := SI_n hQ; omega) (by have := SI_n hQ; omega) hE


theorem rg_X4_countOf_L {M : Mem} (h : SI M) (f : Int) : ∀ (k : Nat) (c n : Int), 0 ≤ n → 0 ≤ c → c ≤ n → n ≤ 6 → 0 ≤ fX4_countOf_L1 M f k c n ∧ fX4_countOf_L1 M f k c n ≤ 6 := by
  have hz := SI_n h
  intro k
  induction k with
  | zero => intro c n _ _ _ _; exact ⟨(by decide : (0 : Int) ≤ 0), (by decide : (0 : Int) ≤ 6)⟩
  | succ k ih =>
    intro c n h1 h2 h3 h4
    rw [fX4_countOf_L1]
    (repeat' split) <;> first | omega | exact ih _ _ (by omega) (by omega) (by omega) (by omega)
theorem rg_X4_countOf {M : Mem} (h : SI M) (f : Int) : 0 ≤ fX4_countOf M f ∧ fX4_countOf M f ≤ 6 := rg_X4_countOf_L h f 8 0 0 (by decide) (by decide) (by decide) (by decide)

def fX4_errorByNapkins_L1 (M : Mem) : Nat → Int → Int → (Int)
  | 0, _, _ => 0
  | k1 + 1, point, number => if ((M 7 0) ≤ number) then if ((fX4_isEnd point) = 0) then (M 7 0) else (-1) else if ((fX4_pointAfter point (fX4_foldAt M number)) = (-1)) then number else fX4_errorByNapkins_L1 M k1 (fX4_pointAfter point (fX4_foldAt M number)) (number + 1)
def fX4_errorByNapkins (M : Mem) : Int := fX4_errorByNapkins_L1 M 8 (0) (0)
set_option maxRecDepth 100000 in
set_option maxHeartbeats 4000000 in
theorem kX4_errorByNapkins (l : Launch) (D : va_G) (E : Nat → Nat) (cI cC : ClassId) (Z : State → Prop) (hZo : ∀ M : Mem, ZOk (VC E cI cC M) Z) (hZb : ZBl Z) (M : Mem) (hQ : SI M) (r : Int) (hE : fX4_errorByNapkins M = r) : Ci l yX4_errorByNapkins wsX4_errorByNapkins 1 21 [.ref (E 4)] D (TY cI cC) (VC E cI cC) Z M r M := by
  refine Ci.of (cc := cX4_errorByNapkins) (maxL := 3) (ret := (some .int)) (by decide +kernel) rfl (Nat.le_of_ble_eq_true rfl) ?_
  intro p e s m args below meth c ls hx hb hml hr hown hts hlocks hP hK hD hZ hS hl
  have hl : lv_has ls 3 [(0, .ref (E 4))] := hl
  have S0 : CallFix p m c cX4_errorByNapkins 3 s args wsX4_errorByNapkins RX4 := ⟨hx, hb, hml, hown, hts⟩
  have hinX4 : ∀ w ∈ u_ws RX4 TX4 7, w ∈ wsX4_errorByNapkins := by decide +kernel
  rw [fX4_errorByNapkins] at hE
  refine z_iconst hx hb dX4_errorByNapkins_0 ?_
  refine lv_istore_n hx hb dX4_errorByNapkins_1 rfl hl (Nat.le_of_ble_eq_true rfl) (lv' := [(1, .int (iI (0))), (0, .ref (E 4))]) rfl (fun ls hl => ?_)
  refine z_iconst hx hb dX4_errorByNapkins_2 ?_
  refine lv_istore_n hx hb dX4_errorByNapkins_3 rfl hl (Nat.le_of_ble_eq_true rfl) (lv' := [(2, .int (iI (0))), (1, .int (iI (0))), (0, .ref (E 4))]) rfl (fun ls hl => ?_)
  have L1 : ∀ (k1 : Nat) (point number : Int) (ls : Array Slot) (H : Heap) (locs : List Loc), lv_has ls 3 [(0, .ref (E 4)), (1, .int (iI point)), (2, .int (iI number))] → va_P D vwCl (VC E cI cC M) H → va_D (wA (VC E cI cC M)) (VC E cI cC M) → va_S (wA (VC E cI cC M)) s.heap H locs → (0 ≤ number) → (number ≤ M 7 0) → (M 7 0 - number < (k1 : Int)) → (-1 ≤ point ∧ point ≤ 3) → fX4_errorByNapkins_L1 M k1 point number = r → W p l e (zRm 1 21) s m args below meth c H locs 0 0 (MQ below (ciQ D (VC E cI cC) M r M) args s 0 0 (wA (VC E cI cC M))) (F0 m 4 ls []) := by
    intro k1
    induction k1 with
    | zero => intro point number ls H locs hl hP hD hS i1 i2 i3 i4 hE; exfalso; omega
    | succ k1 ih1 =>
      intro point number ls H locs hl hP hD hS i1 i2 i3 i4 hE
      have q97 := SI_n hQ
      rw [fX4_errorByNapkins_L1] at hE
      refine lv_iload_n hx hb dX4_errorByNapkins_4 rfl (lv_at hl 2 rfl) ?_
      refine lv_aload_n hx hb dX4_errorByNapkins_5 rfl (lv_at hl 0 rfl) ?_
      refine va_get (own := RX4) (ref := "NapkinSyntax$Sentence") (C := RX4) (T := TX4) (N := 7) hx hb hts hinX4 hown hK hP 4 VC_4 rfl 6 (Nat.le_of_ble_eq_true rfl) (hts (.fieldLink RX4 30 "NapkinSyntax$Sentence" "size" "I") (by decide +kernel)) (fun _ h => h) (v := .int (iI (M 7 0))) rfl dX4_errorByNapkins_6 ?_
      have q1 := SI_n hQ
      refine z_icmp_ge hx hb dX4_errorByNapkins_9 (tgt := 35) rfl (by omega) (by omega) (fun b2 => ?_) (fun b2 => ?_)
      · rw [if_pos b2] at hE
        refine lv_iload_n hx hb dX4_errorByNapkins_35 rfl (lv_at hl 1 rfl) ?_
        refine ct_Si (VC_fix E cI cC) hZo hZb hZ S0 (kX4_isEnd l D E cI cC Z hZo hZb M point (by omega) (fX4_isEnd point) rfl) (va_cwS 1 hts gX4_errorByNapkins_X4_isEnd rfl rfl rfl (by decide +kernel) ⟨(Nat.le_of_ble_eq_true rfl), (Nat.le_of_ble_eq_true rfl)⟩) hK hP hD hS rfl hl.1 rfl (Nat.le_of_ble_eq_true rfl) dX4_errorByNapkins_36 ⟨Nat.zero_le _, Nat.zero_le _⟩ (fun H locs hP hD hS => ?_)
        have q3 := bX4_isEnd point
        refine z_if_eq hx hb dX4_errorByNapkins_39 (tgt := 46) rfl (by omega) (fun b4 => ?_) (fun b4 => ?_)
        · rw [if_pos b4] at hE
          refine lv_aload_n hx hb dX4_errorByNapkins_46 rfl (lv_at hl 0 rfl) ?_
          refine va_get (own := RX4) (ref := "NapkinSyntax$Sentence") (C := RX4) (T := TX4) (N := 7) hx hb hts hinX4 hown hK hP 4 VC_4 rfl 6 (Nat.le_of_ble_eq_true rfl) (hts (.fieldLink RX4 30 "NapkinSyntax$Sentence" "size" "I") (by decide +kernel)) (fun _ h => h) (v := .int (iI (M 7 0))) rfl dX4_errorByNapkins_47 ?_
          have q5 := SI_n hQ
          exact ci_i hx hb hr hlocks hE rfl hS hP dX4_errorByNapkins_50
        · rw [if_neg b4] at hE
          refine z_iconst hx hb dX4_errorByNapkins_42 ?_
          refine lv_goto hx hb dX4_errorByNapkins_43 (tgt := 50) rfl ?_
          exact ci_i hx hb hr hlocks hE rfl hS hP dX4_errorByNapkins_50
      · rw [if_neg b2] at hE
        refine lv_iload_n hx hb dX4_errorByNapkins_12 rfl (lv_at hl 1 rfl) ?_
        refine lv_aload_n hx hb dX4_errorByNapkins_13 rfl (lv_at hl 0 rfl) ?_
        refine lv_iload_n hx hb dX4_errorByNapkins_14 rfl (lv_at hl 2 rfl) ?_
        refine ct_Vi (VC_fix E cI cC) hZo hZb hZ S0 (kX4_foldAt l D E cI cC Z hZo hZb M number (by omega) hQ (fX4_foldAt M number) rfl) (cwV 1 hts gX4_errorByNapkins_X4_foldAt rfl rfl rfl (by decide +kernel) ⟨(Nat.le_of_ble_eq_true rfl), (Nat.le_of_ble_eq_true rfl)⟩) hK hP hD hS rfl rfl VC_4 rfl hl.1 rfl (Nat.le_of_ble_eq_true rfl) dX4_errorByNapkins_15 ⟨Nat.zero_le _, Nat.zero_le _⟩ (fun H locs hP hD hS => ?_)
        have q6 := rg_X4_foldAt hQ number
        refine ct_Si (VC_fix E cI cC) hZo hZb hZ S0 (kX4_pointAfter l D E cI cC Z hZo hZb M point (fX4_foldAt M number) (by omega) (by omega) (fX4_pointAfter point (fX4_foldAt M number)) rfl) (va_cwS 2 hts gX4_errorByNapkins_X4_pointAfter rfl rfl rfl (by decide +kernel) ⟨(Nat.le_of_ble_eq_true rfl), (Nat.le_of_ble_eq_true rfl)⟩) hK hP hD hS rfl hl.1 rfl (Nat.le_of_ble_eq_true rfl) dX4_errorByNapkins_18 ⟨Nat.zero_le _, Nat.zero_le _⟩ (fun H locs hP hD hS => ?_)
        have q7 := rg_X4_pointAfter point (fX4_foldAt M number)
        refine lv_istore_n hx hb dX4_errorByNapkins_21 rfl hl (Nat.le_of_ble_eq_true rfl) (lv' := [(1, .int (iI (fX4_pointAfter point (fX4_foldAt M number)))), (0, .ref (E 4)), (2, .int (iI number))]) rfl (fun ls hl => ?_)
        refine lv_iload_n hx hb dX4_errorByNapkins_22 rfl (lv_at hl 0 rfl) ?_
        refine z_iconst hx hb dX4_errorByNapkins_23 ?_
        refine z_icmp_ne hx hb dX4_errorByNapkins_24 (tgt := 29) rfl (by omega) (by omega) (fun b8 => ?_) (fun b8 => ?_)
        · rw [if_neg b8] at hE
          refine z_iinc hx hb dX4_errorByNapkins_29 hl (k := 2) rfl (Nat.le_of_ble_eq_true rfl) (lv' := [(2, .int (iI (number + 1))), (1, .int (iI (fX4_pointAfter point (fX4_foldAt M number)))), (0, .ref (E 4))]) rfl (fun ls hl => ?_)
          refine lv_goto hx hb dX4_errorByNapkins_32 (tgt := 4) rfl ?_
          exact ih1 (fX4_pointAfter point (fX4_foldAt M number)) (number + 1) ls _ _ (lv_sub hl [2, 1, 0] rfl) hP hD hS (by omega) (by omega) (by omega) (by omega) hE
        · rw [if_pos b8] at hE
          refine lv_iload_n hx hb dX4_errorByNapkins_27 rfl (lv_at hl 2 rfl) ?_
          exact ci_i hx hb hr hlocks hE rfl hS hP dX4_errorByNapkins_28
  exact L1 8 (0) (0) ls _ _ (lv_sub hl [2, 1, 0] rfl) hP hD hS (by omega) (by have := SI_n hQ; omega) (by have := SI_n hQ; omega) (by omega) hE


theorem rg_X4_errorByNapkins_L {M : Mem} (h : SI M) : ∀ (k : Nat) (p n : Int), 0 ≤ n → n ≤ 6 → -1 ≤ fX4_errorByNapkins_L1 M k p n ∧ fX4_errorByNapkins_L1 M k p n ≤ 6 := by
  have hz := SI_n h
  intro k
  induction k with
  | zero => intro p n _ _; exact ⟨(by decide : (-1 : Int) ≤ 0), (by decide : (0 : Int) ≤ 6)⟩
  | succ k ih =>
    intro p n h1 h2
    rw [fX4_errorByNapkins_L1]
    (repeat' split) <;> first | omega | exact ih _ _ (by omega) (by omega)
theorem rg_X4_errorByNapkins {M : Mem} (h : SI M) : -1 ≤ fX4_errorByNapkins M ∧ fX4_errorByNapkins M ≤ 6 := rg_X4_errorByNapkins_L h 8 0 0 (by decide) (by decide)

def fX4_isWhole (M : Mem) : Int := if ((fX4_errorByNapkins M) = (-1)) then (1) else (0)
set_option maxRecDepth 100000 in
set_option maxHeartbeats 4000000 in
theorem kX4_isWhole (l : Launch) (D : va_G) (E : Nat → Nat) (cI cC : ClassId) (Z : State → Prop) (hZo : ∀ M : Mem, ZOk (VC E cI cC M) Z) (hZb : ZBl Z) (M : Mem) (hQ : SI M) (r : Int) (hE : fX4_isWhole M = r) : Ci l yX4_isWhole wsX4_isWhole 2 43 [.ref (E 4)] D (TY cI cC) (VC E cI cC) Z M r M := by
  refine Ci.of (cc := cX4_isWhole) (maxL := 1) (ret := (some .boolean)) (by decide +kernel) rfl (Nat.le_of_ble_eq_true rfl) ?_
  intro p e s m args below meth c ls hx hb hml hr hown hts hlocks hP hK hD hZ hS hl
  have hl : lv_has ls 1 [(0, .ref (E 4))] := hl
  have S0 : CallFix p m c cX4_isWhole 1 s args wsX4_isWhole RX4 := ⟨hx, hb, hml, hown, hts⟩
  rw [fX4_isWhole] at hE
  refine lv_aload_n hx hb dX4_isWhole_0 rfl (lv_at hl 0 rfl) ?_
  refine ct_Vi (VC_fix E cI cC) hZo hZb hZ S0 (kX4_errorByNapkins l D E cI cC Z hZo hZb M hQ (fX4_errorByNapkins M) rfl) (cwV 0 hts gX4_isWhole_X4_errorByNapkins rfl rfl rfl (by decide +kernel) ⟨(Nat.le_of_ble_eq_true rfl), (Nat.le_of_ble_eq_true rfl)⟩) hK hP hD hS rfl rfl VC_4 rfl hl.1 rfl (Nat.le_of_ble_eq_true rfl) dX4_isWhole_1 ⟨Nat.zero_le _, Nat.zero_le _⟩ (fun H locs hP hD hS => ?_)
  have q1 := rg_X4_errorByNapkins hQ
  refine z_iconst hx hb dX4_isWhole_4 ?_
  refine z_icmp_ne hx hb dX4_isWhole_5 (tgt := 12) rfl (by omega) (by omega) (fun b2 => ?_) (fun b2 => ?_)
  · rw [if_neg b2] at hE
    refine z_iconst hx hb dX4_isWhole_12 ?_
    exact ci_i hx hb hr hlocks hE nr_b0 hS hP dX4_isWhole_13
  · rw [if_pos b2] at hE
    refine z_iconst hx hb dX4_isWhole_8 ?_
    refine lv_goto hx hb dX4_isWhole_9 (tgt := 13) rfl ?_
    exact ci_i hx hb hr hlocks hE nr_b1 hS hP dX4_isWhole_13


theorem bX4_isWhole (M : Mem) : 0 ≤ fX4_isWhole M ∧ fX4_isWhole M ≤ 1 := by unfold fX4_isWhole; (repeat' split) <;> omega

def fX4_phraseCount (M : Mem) : Int := if ((fX4_errorByNapkins M) = (-1)) then ((fX4_countOf M (4)) + (1)) else (0)
set_option maxRecDepth 100000 in
set_option maxHeartbeats 4000000 in
theorem kX4_phraseCount (l : Launch) (D : va_G) (E : Nat → Nat) (cI cC : ClassId) (Z : State → Prop) (hZo : ∀ M : Mem, ZOk (VC E cI cC M) Z) (hZb : ZBl Z) (M : Mem) (hQ : SI M) (r : Int) (hE : fX4_phraseCount M = r) : Ci l yX4_phraseCount wsX4_phraseCount 2 44 [.ref (E 4)] D (TY cI cC) (VC E cI cC) Z M r M := by
  refine Ci.of (cc := cX4_phraseCount) (maxL := 1) (ret := (some .int)) (by decide +kernel) rfl (Nat.le_of_ble_eq_true rfl) ?_
  intro p e s m args below meth c ls hx hb hml hr hown hts hlocks hP hK hD hZ hS hl
  have hl : lv_has ls 1 [(0, .ref (E 4))] := hl
  have S0 : CallFix p m c cX4_phraseCount 1 s args wsX4_phraseCount RX4 := ⟨hx, hb, hml, hown, hts⟩
  rw [fX4_phraseCount] at hE
  refine lv_aload_n hx hb dX4_phraseCount_0 rfl (lv_at hl 0 rfl) ?_
  refine ct_Vi (VC_fix E cI cC) hZo hZb hZ S0 (kX4_errorByNapkins l D E cI cC Z hZo hZb M hQ (fX4_errorByNapkins M) rfl) (cwV 0 hts gX4_phraseCount_X4_errorByNapkins rfl rfl rfl (by decide +kernel) ⟨(Nat.le_of_ble_eq_true rfl), (Nat.le_of_ble_eq_true rfl)⟩) hK hP hD hS rfl rfl VC_4 rfl hl.1 rfl (Nat.le_of_ble_eq_true rfl) dX4_phraseCount_1 ⟨Nat.zero_le _, Nat.zero_le _⟩ (fun H locs hP hD hS => ?_)
  have q1 := rg_X4_errorByNapkins hQ
  refine z_iconst hx hb dX4_phraseCount_4 ?_
  refine z_icmp_ne hx hb dX4_phraseCount_5 (tgt := 18) rfl (by omega) (by omega) (fun b2 => ?_) (fun b2 => ?_)
  · rw [if_neg b2] at hE
    refine z_iconst hx hb dX4_phraseCount_18 ?_
    exact ci_i hx hb hr hlocks hE rfl hS hP dX4_phraseCount_19
  · rw [if_pos b2] at hE
    refine lv_aload_n hx hb dX4_phraseCount_8 rfl (lv_at hl 0 rfl) ?_
    refine z_iconst hx hb dX4_phraseCount_9 ?_
    refine ct_Vi (VC_fix E cI cC) hZo hZb hZ S0 (kX4_countOf l D E cI cC Z hZo hZb M (4) (by omega) hQ (fX4_countOf M (4)) rfl) (cwV 1 hts gX4_phraseCount_X4_countOf rfl rfl rfl (by decide +kernel) ⟨(Nat.le_of_ble_eq_true rfl), (Nat.le_of_ble_eq_true rfl)⟩) hK hP hD hS rfl rfl VC_4 rfl hl.1 rfl (Nat.le_of_ble_eq_true rfl) dX4_phraseCount_10 ⟨Nat.zero_le _, Nat.zero_le _⟩ (fun H locs hP hD hS => ?_)
    have q3 := rg_X4_countOf hQ (4)
    refine z_iconst hx hb dX4_phraseCount_13 ?_
    refine z_iadd hx hb dX4_phraseCount_14 ?_
    refine lv_goto hx hb dX4_phraseCount_15 (tgt := 19) rfl ?_
    exact ci_i hx hb hr hlocks hE rfl hS hP dX4_phraseCount_19


theorem rg_X4_phraseCount {M : Mem} (h : SI M) : 0 ≤ fX4_phraseCount M ∧ fX4_phraseCount M ≤ 7 := by
  have := rg_X4_countOf h 4
  unfold fX4_phraseCount
  (repeat' split) <;> omega

def fX4_crownFrom_L1 (M : Mem) (start : Int) : Nat → Int → (Int)
  | 0, _ => 0
  | k1 + 1, number => if ((M 7 0) ≤ number) then number else if ((fX4_foldAt M number) = (4)) then number else fX4_crownFrom_L1 M start k1 (number + 1)
def fX4_crownFrom (M : Mem) (start : Int) : Int := fX4_crownFrom_L1 M start 8 start
set_option maxRecDepth 100000 in
set_option maxHeartbeats 4000000 in
theorem kX4_crownFrom (l : Launch) (D : va_G) (E : Nat → Nat) (cI cC : ClassId) (Z : State → Prop) (hZo : ∀ M : Mem, ZOk (VC E cI cC M) Z) (hZb : ZBl Z) (M : Mem) (start : Int) (h1 : 0 ≤ start ∧ start ≤ M 7 0) (hQ : SI M) (r : Int) (hE : fX4_crownFrom M start = r) : Ci l yX4_crownFrom wsX4_crownFrom 1 21 [.ref (E 4), .int (iI start)] D (TY cI cC) (VC E cI cC) Z M r M := by
  refine Ci.of (cc := cX4_crownFrom) (maxL := 3) (ret := (some .int)) (by decide +kernel) rfl (Nat.le_of_ble_eq_true rfl) ?_
  intro p e s m args below meth c ls hx hb hml hr hown hts hlocks hP hK hD hZ hS hl
  have hl : lv_has ls 3 [(0, .ref (E 4)), (1, .int (iI start))] := hl
  have S0 : CallFix p m c cX4_crownFrom 3 s args wsX4_crownFrom RX4 := ⟨hx, hb, hml, hown, hts⟩
  have hinX4 : ∀ w ∈ u_ws RX4 TX4 7, w ∈ wsX4_crownFrom := by decide +kernel
  rw [fX4_crownFrom] at hE
  refine lv_iload_n hx hb dX4_crownFrom_0 rfl (lv_at hl 1 rfl) ?_
  refine lv_istore_n hx hb dX4_crownFrom_1 rfl hl (Nat.le_of_ble_eq_true rfl) (lv' := [(2, .int (iI start)), (0, .ref (E 4)), (1, .int (iI start))]) rfl (fun ls hl => ?_)
  have L1 : ∀ (k1 : Nat) (number : Int) (ls : Array Slot) (H : Heap) (locs : List Loc), lv_has ls 3 [(0, .ref (E 4)), (1, .int (iI start)), (2, .int (iI number))] → va_P D vwCl (VC E cI cC M) H → va_D (wA (VC E cI cC M)) (VC E cI cC M) → va_S (wA (VC E cI cC M)) s.heap H locs → (start ≤ number) → (number ≤ M 7 0) → (M 7 0 - number < (k1 : Int)) → fX4_crownFrom_L1 M start k1 number = r → W p l e (zRm 1 21) s m args below meth c H locs 0 0 (MQ below (ciQ D (VC E cI cC) M r M) args s 0 0 (wA (VC E cI cC M))) (F0 m 2 ls []) := by
    intro k1
    induction k1 with
    | zero => intro number ls H locs hl hP hD hS i1 i2 i3 hE; exfalso; omega
    | succ k1 ih1 =>
      intro number ls H locs hl hP hD hS i1 i2 i3 hE
      have q97 := SI_n hQ
      rw [fX4_crownFrom_L1] at hE
      refine lv_iload_n hx hb dX4_crownFrom_2 rfl (lv_at hl 2 rfl) ?_
      refine lv_aload_n hx hb dX4_crownFrom_3 rfl (lv_at hl 0 rfl) ?_
      refine va_get (own := RX4) (ref := "NapkinSyntax$Sentence") (C := RX4) (T := TX4) (N := 7) hx hb hts hinX4 hown hK hP 4 VC_4 rfl 6 (Nat.le_of_ble_eq_true rfl) (hts (.fieldLink RX4 30 "NapkinSyntax$Sentence" "size" "I") (by decide +kernel)) (fun _ h => h) (v := .int (iI (M 7 0))) rfl dX4_crownFrom_4 ?_
      have q1 := SI_n hQ
      refine z_icmp_ge hx hb dX4_crownFrom_7 (tgt := 25) rfl (by omega) (by omega) (fun b2 => ?_) (fun b2 => ?_)
      · rw [if_pos b2] at hE
        refine lv_iload_n hx hb dX4_crownFrom_25 rfl (lv_at hl 2 rfl) ?_
        exact ci_i hx hb hr hlocks hE rfl hS hP dX4_crownFrom_26
      · rw [if_neg b2] at hE
        refine lv_aload_n hx hb dX4_crownFrom_10 rfl (lv_at hl 0 rfl) ?_
        refine lv_iload_n hx hb dX4_crownFrom_11 rfl (lv_at hl 2 rfl) ?_
        refine ct_Vi (VC_fix E cI cC) hZo hZb hZ S0 (kX4_foldAt l D E cI cC Z hZo hZb M number (by omega) hQ (fX4_foldAt M number) rfl) (cwV 1 hts gX4_crownFrom_X4_foldAt rfl rfl rfl (by decide +kernel) ⟨(Nat.le_of_ble_eq_true rfl), (Nat.le_of_ble_eq_true rfl)⟩) hK hP hD hS rfl rfl VC_4 rfl hl.1 rfl (Nat.le_of_ble_eq_true rfl) dX4_crownFrom_12 ⟨Nat.zero_le _, Nat.zero_le _⟩ (fun H locs hP hD hS => ?_)
        have q3 := rg_X4_foldAt hQ number
        refine z_iconst hx hb dX4_crownFrom_15 ?_
        refine z_icmp_eq hx hb dX4_crownFrom_16 (tgt := 25) rfl (by omega) (by omega) (fun b4 => ?_) (fun b4 => ?_)
        · rw [if_pos b4] at hE
          refine lv_iload_n hx hb dX4_crownFrom_25 rfl (lv_at hl 2 rfl) ?_
          exact ci_i hx hb hr hlocks hE rfl hS hP dX4_crownFrom_26
        · rw [if_neg b4] at hE
          refine z_iinc hx hb dX4_crownFrom_19 hl (k := 2) rfl (Nat.le_of_ble_eq_true rfl) (lv' := [(2, .int (iI (number + 1))), (0, .ref (E 4)), (1, .int (iI start))]) rfl (fun ls hl => ?_)
          refine lv_goto hx hb dX4_crownFrom_22 (tgt := 2) rfl ?_
          exact ih1 (number + 1) ls _ _ (lv_sub hl [1, 2, 0] rfl) hP hD hS (by omega) (by omega) (by omega) hE
  exact L1 8 start ls _ _ (lv_sub hl [1, 2, 0] rfl) hP hD hS (by omega) (by omega) (by have := SI_n hQ; omega) hE


theorem rg_X4_crownFrom_L {M : Mem} (h : SI M) (s : Int) : ∀ (k : Nat) (n : Int), s ≤ n → n ≤ M 7 0 → M 7 0 - n < k → s ≤ fX4_crownFrom_L1 M s k n ∧ fX4_crownFrom_L1 M s k n ≤ M 7 0 := by
  intro k
  induction k with
  | zero => intro n _ _ _; omega
  | succ k ih =>
    intro n h1 h2 h3
    rw [fX4_crownFrom_L1]
    (repeat' split) <;> first | omega | exact ih _ (by omega) (by omega) (by omega)
theorem rg_X4_crownFrom {M : Mem} (h : SI M) (s : Int) (h1 : 0 ≤ s) (h2 : s ≤ M 7 0) : s ≤ fX4_crownFrom M s ∧ fX4_crownFrom M s ≤ M 7 0 := rg_X4_crownFrom_L h s 8 s (by omega) h2 (by have := SI_n h; omega)

def fX4_moodFrom_L1 (M : Mem) (start : Int) : Nat → Int → (Int)
  | 0, _ => 0
  | k1 + 1, number => if ((M 7 0) ≤ number) then number else if ((fX4_foldAt M number) = (1)) then fX4_moodFrom_L1 M start k1 (number + 1) else number
def fX4_moodFrom (M : Mem) (start : Int) : Int := fX4_moodFrom_L1 M start 8 start
set_option maxRecDepth 100000 in
set_option maxHeartbeats 4000000 in
theorem kX4_moodFrom (l : Launch) (D : va_G) (E : Nat → Nat) (cI cC : ClassId) (Z : State → Prop) (hZo : ∀ M : Mem, ZOk (VC E cI cC M) Z) (hZb : ZBl Z) (M : Mem) (start : Int) (h1 : 0 ≤ start ∧ start ≤ M 7 0 + 1) (hQ : SI M) (r : Int) (hE : fX4_moodFrom M start = r) : Ci l yX4_moodFrom wsX4_moodFrom 1 21 [.ref (E 4), .int (iI start)] D (TY cI cC) (VC E cI cC) Z M r M := by
  refine Ci.of (cc := cX4_moodFrom) (maxL := 3) (ret := (some .int)) (by decide +kernel) rfl (Nat.le_of_ble_eq_true rfl) ?_
  intro p e s m args below meth c ls hx hb hml hr hown hts hlocks hP hK hD hZ hS hl
  have hl : lv_has ls 3 [(0, .ref (E 4)), (1, .int (iI start))] := hl
  have S0 : CallFix p m c cX4_moodFrom 3 s args wsX4_moodFrom RX4 := ⟨hx, hb, hml, hown, hts⟩
  have hinX4 : ∀ w ∈ u_ws RX4 TX4 7, w ∈ wsX4_moodFrom := by decide +kernel
  rw [fX4_moodFrom] at hE
  refine lv_iload_n hx hb dX4_moodFrom_0 rfl (lv_at hl 1 rfl) ?_
  refine lv_istore_n hx hb dX4_moodFrom_1 rfl hl (Nat.le_of_ble_eq_true rfl) (lv' := [(2, .int (iI start)), (0, .ref (E 4)), (1, .int (iI start))]) rfl (fun ls hl => ?_)
  have L1 : ∀ (k1 : Nat) (number : Int) (ls : Array Slot) (H : Heap) (locs : List Loc), lv_has ls 3 [(0, .ref (E 4)), (1, .int (iI start)), (2, .int (iI number))] → va_P D vwCl (VC E cI cC M) H → va_D (wA (VC E cI cC M)) (VC E cI cC M) → va_S (wA (VC E cI cC M)) s.heap H locs → (start ≤ number) → (number ≤ M 7 0 ∨ number = start) → (M 7 0 - number < (k1 : Int) ∧ 0 < (k1 : Int)) → fX4_moodFrom_L1 M start k1 number = r → W p l e (zRm 1 21) s m args below meth c H locs 0 0 (MQ below (ciQ D (VC E cI cC) M r M) args s 0 0 (wA (VC E cI cC M))) (F0 m 2 ls []) := by
    intro k1
    induction k1 with
    | zero => intro number ls H locs hl hP hD hS i1 i2 i3 hE; exfalso; omega
    | succ k1 ih1 =>
      intro number ls H locs hl hP hD hS i1 i2 i3 hE
      have q97 := SI_n hQ
      rw [fX4_moodFrom_L1] at hE
      refine lv_iload_n hx hb dX4_moodFrom_2 rfl (lv_at hl 2 rfl) ?_
      refine lv_aload_n hx hb dX4_moodFrom_3 rfl (lv_at hl 0 rfl) ?_
      refine va_get (own := RX4) (ref := "NapkinSyntax$Sentence") (C := RX4) (T := TX4) (N := 7) hx hb hts hinX4 hown hK hP 4 VC_4 rfl 6 (Nat.le_of_ble_eq_true rfl) (hts (.fieldLink RX4 30 "NapkinSyntax$Sentence" "size" "I") (by decide +kernel)) (fun _ h => h) (v := .int (iI (M 7 0))) rfl dX4_moodFrom_4 ?_
      have q1 := SI_n hQ
      refine z_icmp_ge hx hb dX4_moodFrom_7 (tgt := 25) rfl (by omega) (by omega) (fun b2 => ?_) (fun b2 => ?_)
      · rw [if_pos b2] at hE
        refine lv_iload_n hx hb dX4_moodFrom_25 rfl (lv_at hl 2 rfl) ?_
        exact ci_i hx hb hr hlocks hE rfl hS hP dX4_moodFrom_26
      · rw [if_neg b2] at hE
        refine lv_aload_n hx hb dX4_moodFrom_10 rfl (lv_at hl 0 rfl) ?_
        refine lv_iload_n hx hb dX4_moodFrom_11 rfl (lv_at hl 2 rfl) ?_
        refine ct_Vi (VC_fix E cI cC) hZo hZb hZ S0 (kX4_foldAt l D E cI cC Z hZo hZb M number (by omega) hQ (fX4_foldAt M number) rfl) (cwV 1 hts gX4_moodFrom_X4_foldAt rfl rfl rfl (by decide +kernel) ⟨(Nat.le_of_ble_eq_true rfl), (Nat.le_of_ble_eq_true rfl)⟩) hK hP hD hS rfl rfl VC_4 rfl hl.1 rfl (Nat.le_of_ble_eq_true rfl) dX4_moodFrom_12 ⟨Nat.zero_le _, Nat.zero_le _⟩ (fun H locs hP hD hS => ?_)
        have q3 := rg_X4_foldAt hQ number
        refine z_iconst hx hb dX4_moodFrom_15 ?_
        refine z_icmp_ne hx hb dX4_moodFrom_16 (tgt := 25) rfl (by omega) (by omega) (fun b4 => ?_) (fun b4 => ?_)
        · rw [if_neg b4] at hE
          refine lv_iload_n hx hb dX4_moodFrom_25 rfl (lv_at hl 2 rfl) ?_
          exact ci_i hx hb hr hlocks hE rfl hS hP dX4_moodFrom_26
        · rw [if_pos b4] at hE
          refine z_iinc hx hb dX4_moodFrom_19 hl (k := 2) rfl (Nat.le_of_ble_eq_true rfl) (lv' := [(2, .int (iI (number + 1))), (0, .ref (E 4)), (1, .int (iI start))]) rfl (fun ls hl => ?_)
          refine lv_goto hx hb dX4_moodFrom_22 (tgt := 2) rfl ?_
          exact ih1 (number + 1) ls _ _ (lv_sub hl [1, 2, 0] rfl) hP hD hS (by omega) (by omega) (by omega) hE
  exact L1 8 start ls _ _ (lv_sub hl [1, 2, 0] rfl) hP hD hS (by omega) (by omega) (by have := SI_n hQ; omega) hE


theorem rg_X4_moodFrom_L {M : Mem} (h : SI M) (s : Int) : ∀ (k : Nat) (n : Int), s ≤ n → n ≤ M 7 0 ∨ n = s → M 7 0 - n < k → 0 < k → s ≤ fX4_moodFrom_L1 M s k n ∧ (fX4_moodFrom_L1 M s k n ≤ M 7 0 ∨ fX4_moodFrom_L1 M s k n = s) := by
  intro k
  induction k with
  | zero => intro n _ _ _ h9; omega
  | succ k ih =>
    intro n h1 h2 h3 _
    rw [fX4_moodFrom_L1]
    (repeat' split) <;> first | omega | exact ih _ (by omega) (by omega) (by omega) (by omega)
theorem rg_X4_moodFrom {M : Mem} (h : SI M) (s : Int) (h1 : 0 ≤ s) (h2 : s ≤ M 7 0 + 1) : s ≤ fX4_moodFrom M s ∧ (fX4_moodFrom M s ≤ M 7 0 ∨ fX4_moodFrom M s = s) := rg_X4_moodFrom_L h s 8 s (by omega) (by omega) (by have := SI_n h; omega) (by decide)

def fX4_errorInPhrase (M : Mem) (start fin : Int) : Int := if ((fX4_moodFrom M start) = start) then (fX4_moodFrom M start) else if (fin ≤ (fX4_moodFrom M start)) then (fX4_moodFrom M start) else if ((fX4_foldAt M (fX4_moodFrom M start)) = (2)) then if (fin ≤ ((fX4_moodFrom M start) + (1))) then if (fin ≤ ((fX4_moodFrom M start) + (1))) then (-1) else ((fX4_moodFrom M start) + (1)) else if ((fX4_foldAt M ((fX4_moodFrom M start) + (1))) = (3)) then if (fin ≤ (((fX4_moodFrom M start) + (1)) + 1)) then (-1) else (((fX4_moodFrom M start) + (1)) + 1) else if (fin ≤ ((fX4_moodFrom M start) + (1))) then (-1) else ((fX4_moodFrom M start) + (1)) else (fX4_moodFrom M start)
set_option maxRecDepth 100000 in
set_option maxHeartbeats 4000000 in
theorem kX4_errorInPhrase (l : Launch) (D : va_G) (E : Nat → Nat) (cI cC : ClassId) (Z : State → Prop) (hZo : ∀ M : Mem, ZOk (VC E cI cC M) Z) (hZb : ZBl Z) (M : Mem) (start fin : Int) (h1 : 0 ≤ start ∧ start ≤ M 7 0) (h2 : 0 ≤ fin ∧ fin ≤ M 7 0) (hQ : SI M) (r : Int) (hE : fX4_errorInPhrase M start fin = r) : Ci l yX4_errorInPhrase wsX4_errorInPhrase 2 43 [.ref (E 4), .int (iI start), .int (iI fin)] D (TY cI cC) (VC E cI cC) Z M r M := by
  refine Ci.of (cc := cX4_errorInPhrase) (maxL := 5) (ret := (some .int)) (by decide +kernel) rfl (Nat.le_of_ble_eq_true rfl) ?_
  intro p e s m args below meth c ls hx hb hml hr hown hts hlocks hP hK hD hZ hS hl
  have hl : lv_has ls 5 [(0, .ref (E 4)), (1, .int (iI start)), (2, .int (iI fin))] := hl
  have S0 : CallFix p m c cX4_errorInPhrase 5 s args wsX4_errorInPhrase RX4 := ⟨hx, hb, hml, hown, hts⟩
  have q96 := SI_n hQ
  rw [fX4_errorInPhrase] at hE
  refine lv_aload_n hx hb dX4_errorInPhrase_0 rfl (lv_at hl 0 rfl) ?_
  refine lv_iload_n hx hb dX4_errorInPhrase_1 rfl (lv_at hl 1 rfl) ?_
  refine ct_Vi (VC_fix E cI cC) hZo hZb hZ S0 (kX4_moodFrom l D E cI cC Z hZo hZb M start (by omega) hQ (fX4_moodFrom M start) rfl) (cwV 1 hts gX4_errorInPhrase_X4_moodFrom rfl rfl rfl (by decide +kernel) ⟨(Nat.le_of_ble_eq_true rfl), (Nat.le_of_ble_eq_true rfl)⟩) hK hP hD hS rfl rfl VC_4 rfl hl.1 rfl (Nat.le_of_ble_eq_true rfl) dX4_errorInPhrase_2 ⟨Nat.zero_le _, Nat.zero_le _⟩ (fun H locs hP hD hS => ?_)
  have q1 := rg_X4_moodFrom hQ start (by omega) (by omega)
  refine lv_istore_n hx hb dX4_errorInPhrase_5 rfl hl (Nat.le_of_ble_eq_true rfl) (lv' := [(3, .int (iI (fX4_moodFrom M start))), (0, .ref (E 4)), (1, .int (iI start)), (2, .int (iI fin))]) rfl (fun ls hl => ?_)
  refine lv_iload_n hx hb dX4_errorInPhrase_6 rfl (lv_at hl 0 rfl) ?_
  refine lv_iload_n hx hb dX4_errorInPhrase_7 rfl (lv_at hl 2 rfl) ?_
  refine z_icmp_eq hx hb dX4_errorInPhrase_8 (tgt := 25) rfl (by omega) (by omega) (fun b2 => ?_) (fun b2 => ?_)
  · rw [if_pos b2] at hE
    refine lv_iload_n hx hb dX4_errorInPhrase_25 rfl (lv_at hl 0 rfl) ?_
    exact ci_i hx hb hr hlocks hE rfl hS hP dX4_errorInPhrase_26
  · rw [if_neg b2] at hE
    refine lv_iload_n hx hb dX4_errorInPhrase_11 rfl (lv_at hl 0 rfl) ?_
    refine lv_iload_n hx hb dX4_errorInPhrase_12 rfl (lv_at hl 3 rfl) ?_
    refine z_icmp_ge hx hb dX4_errorInPhrase_13 (tgt := 25) rfl (by omega) (by omega) (fun b3 => ?_) (fun b3 => ?_)
    · rw [if_pos b3] at hE
      refine lv_iload_n hx hb dX4_errorInPhrase_25 rfl (lv_at hl 0 rfl) ?_
      exact ci_i hx hb hr hlocks hE rfl hS hP dX4_errorInPhrase_26
    · rw [if_neg b3] at hE
      refine lv_aload_n hx hb dX4_errorInPhrase_16 rfl (lv_at hl 1 rfl) ?_
      refine lv_iload_n hx hb dX4_errorInPhrase_17 rfl (lv_at hl 0 rfl) ?_
      refine ct_Vi (VC_fix E cI cC) hZo hZb hZ S0 (kX4_foldAt l D E cI cC Z hZo hZb M (fX4_moodFrom M start) (by omega) hQ (fX4_foldAt M (fX4_moodFrom M start)) rfl) (cwV 1 hts gX4_errorInPhrase_X4_foldAt rfl rfl rfl (by decide +kernel) ⟨(Nat.le_of_ble_eq_true rfl), (Nat.le_of_ble_eq_true rfl)⟩) hK hP hD hS rfl rfl VC_4 rfl hl.1 rfl (Nat.le_of_ble_eq_true rfl) dX4_errorInPhrase_18 ⟨Nat.zero_le _, Nat.zero_le _⟩ (fun H locs hP hD hS => ?_)
      have q4 := rg_X4_foldAt hQ (fX4_moodFrom M start)
      refine z_iconst hx hb dX4_errorInPhrase_21 ?_
      refine z_icmp_eq hx hb dX4_errorInPhrase_22 (tgt := 27) rfl (by omega) (by omega) (fun b5 => ?_) (fun b5 => ?_)
      · rw [if_pos b5] at hE
        refine lv_iload_n hx hb dX4_errorInPhrase_27 rfl (lv_at hl 0 rfl) ?_
        refine z_iconst hx hb dX4_errorInPhrase_28 ?_
        refine z_iadd hx hb dX4_errorInPhrase_29 ?_
        refine lv_istore hx hb dX4_errorInPhrase_30 hl (Nat.le_of_ble_eq_true rfl) (lv' := [(4, .int (iI ((fX4_moodFrom M start) + (1)))), (3, .int (iI (fX4_moodFrom M start))), (0, .ref (E 4)), (1, .int (iI start)), (2, .int (iI fin))]) rfl (fun ls hl => ?_)
        refine lv_iload hx hb dX4_errorInPhrase_32 (lv_at hl 0 rfl) ?_
        refine lv_iload_n hx hb dX4_errorInPhrase_34 rfl (lv_at hl 4 rfl) ?_
        refine z_icmp_ge hx hb dX4_errorInPhrase_35 (tgt := 51) rfl (by omega) (by omega) (fun b6 => ?_) (fun b6 => ?_)
        · rw [if_pos b6] at hE
          refine lv_iload hx hb dX4_errorInPhrase_51 (lv_at hl 0 rfl) ?_
          refine lv_iload_n hx hb dX4_errorInPhrase_53 rfl (lv_at hl 4 rfl) ?_
          refine z_icmp_ge hx hb dX4_errorInPhrase_54 (tgt := 62) rfl (by omega) (by omega) (fun b7 => ?_) (fun b7 => ?_)
          · rw [if_pos b7] at hE
            refine z_iconst hx hb dX4_errorInPhrase_62 ?_
            exact ci_i hx hb hr hlocks hE rfl hS hP dX4_errorInPhrase_63
          · rw [if_neg b7] at hE
            refine lv_iload hx hb dX4_errorInPhrase_57 (lv_at hl 0 rfl) ?_
            refine lv_goto hx hb dX4_errorInPhrase_59 (tgt := 63) rfl ?_
            exact ci_i hx hb hr hlocks hE rfl hS hP dX4_errorInPhrase_63
        · rw [if_neg b6] at hE
          refine lv_aload_n hx hb dX4_errorInPhrase_38 rfl (lv_at hl 2 rfl) ?_
          refine lv_iload hx hb dX4_errorInPhrase_39 (lv_at hl 0 rfl) ?_
          refine ct_Vi (VC_fix E cI cC) hZo hZb hZ S0 (kX4_foldAt l D E cI cC Z hZo hZb M ((fX4_moodFrom M start) + (1)) (by omega) hQ (fX4_foldAt M ((fX4_moodFrom M start) + (1))) rfl) (cwV 1 hts gX4_errorInPhrase_X4_foldAt rfl rfl rfl (by decide +kernel) ⟨(Nat.le_of_ble_eq_true rfl), (Nat.le_of_ble_eq_true rfl)⟩) hK hP hD hS rfl rfl VC_4 rfl hl.1 rfl (Nat.le_of_ble_eq_true rfl) dX4_errorInPhrase_41 ⟨Nat.zero_le _, Nat.zero_le _⟩ (fun H locs hP hD hS => ?_)
          have q8 := rg_X4_foldAt hQ ((fX4_moodFrom M start) + (1))
          refine z_iconst hx hb dX4_errorInPhrase_44 ?_
          refine z_icmp_ne hx hb dX4_errorInPhrase_45 (tgt := 51) rfl (by omega) (by omega) (fun b9 => ?_) (fun b9 => ?_)
          · rw [if_neg b9] at hE
            refine lv_iload hx hb dX4_errorInPhrase_51 (lv_at hl 0 rfl) ?_
            refine lv_iload_n hx hb dX4_errorInPhrase_53 rfl (lv_at hl 4 rfl) ?_
            refine z_icmp_ge hx hb dX4_errorInPhrase_54 (tgt := 62) rfl (by omega) (by omega) (fun b10 => ?_) (fun b10 => ?_)
            · rw [if_pos b10] at hE
              refine z_iconst hx hb dX4_errorInPhrase_62 ?_
              exact ci_i hx hb hr hlocks hE rfl hS hP dX4_errorInPhrase_63
            · rw [if_neg b10] at hE
              refine lv_iload hx hb dX4_errorInPhrase_57 (lv_at hl 0 rfl) ?_
              refine lv_goto hx hb dX4_errorInPhrase_59 (tgt := 63) rfl ?_
              exact ci_i hx hb hr hlocks hE rfl hS hP dX4_errorInPhrase_63
          · rw [if_pos b9] at hE
            refine z_iinc hx hb dX4_errorInPhrase_48 hl (k := 0) rfl (Nat.le_of_ble_eq_true rfl) (lv' := [(4, .int (iI (((fX4_moodFrom M start) + (1)) + 1))), (3, .int (iI (fX4_moodFrom M start))), (0, .ref (E 4)), (1, .int (iI start)), (2, .int (iI fin))]) rfl (fun ls hl => ?_)
            refine lv_iload hx hb dX4_errorInPhrase_51 (lv_at hl 0 rfl) ?_
            refine lv_iload_n hx hb dX4_errorInPhrase_53 rfl (lv_at hl 4 rfl) ?_
            refine z_icmp_ge hx hb dX4_errorInPhrase_54 (tgt := 62) rfl (by omega) (by omega) (fun b11 => ?_) (fun b11 => ?_)
            · rw [if_pos b11] at hE
              refine z_iconst hx hb dX4_errorInPhrase_62 ?_
              exact ci_i hx hb hr hlocks hE rfl hS hP dX4_errorInPhrase_63
            · rw [if_neg b11] at hE
              refine lv_iload hx hb dX4_errorInPhrase_57 (lv_at hl 0 rfl) ?_
              refine lv_goto hx hb dX4_errorInPhrase_59 (tgt := 63) rfl ?_
              exact ci_i hx hb hr hlocks hE rfl hS hP dX4_errorInPhrase_63
      · rw [if_neg b5] at hE
        refine lv_iload_n hx hb dX4_errorInPhrase_25 rfl (lv_at hl 0 rfl) ?_
        exact ci_i hx hb hr hlocks hE rfl hS hP dX4_errorInPhrase_26


theorem rg_X4_errorInPhrase {M : Mem} (h : SI M) (s e : Int) (h1 : 0 ≤ s) (h2 : s ≤ M 7 0) (h3 : e ≤ M 7 0) : -1 ≤ fX4_errorInPhrase M s e ∧ fX4_errorInPhrase M s e ≤ 7 := by
  have := rg_X4_moodFrom h s h1 (by omega)
  have := SI_n h
  unfold fX4_errorInPhrase
  (repeat' split) <;> omega

def fX4_errorByPhrases_L1 (M : Mem) : Nat → Int → Int → (Int)
  | 0, _, _ => 0
  | k1 + 1, start, phrase => if ((M 7 0) < phrase) then (-1) else if ((fX4_errorInPhrase M start (fX4_crownFrom M start)) = (-1)) then if ((fX4_crownFrom M start) = (M 7 0)) then (fX4_errorInPhrase M start (fX4_crownFrom M start)) else fX4_errorByPhrases_L1 M k1 ((fX4_crownFrom M start) + (1)) (phrase + 1) else (fX4_errorInPhrase M start (fX4_crownFrom M start))
def fX4_errorByPhrases (M : Mem) : Int := fX4_errorByPhrases_L1 M 9 (0) (0)
set_option maxRecDepth 100000 in
set_option maxHeartbeats 4000000 in
theorem kX4_errorByPhrases (l : Launch) (D : va_G) (E : Nat → Nat) (cI cC : ClassId) (Z : State → Prop) (hZo : ∀ M : Mem, ZOk (VC E cI cC M) Z) (hZb : ZBl Z) (M : Mem) (hQ : SI M) (r : Int) (hE : fX4_errorByPhrases M = r) : Ci l yX4_errorByPhrases wsX4_errorByPhrases 3 67 [.ref (E 4)] D (TY cI cC) (VC E cI cC) Z M r M := by
  refine Ci.of (cc := cX4_errorByPhrases) (maxL := 5) (ret := (some .int)) (by decide +kernel) rfl (Nat.le_of_ble_eq_true rfl) ?_
  intro p e s m args below meth c ls hx hb hml hr hown hts hlocks hP hK hD hZ hS hl
  have hl : lv_has ls 5 [(0, .ref (E 4))] := hl
  have S0 : CallFix p m c cX4_errorByPhrases 5 s args wsX4_errorByPhrases RX4 := ⟨hx, hb, hml, hown, hts⟩
  have hinX4 : ∀ w ∈ u_ws RX4 TX4 7, w ∈ wsX4_errorByPhrases := by decide +kernel
  have q96 := SI_n hQ
  rw [fX4_errorByPhrases] at hE
  refine z_iconst hx hb dX4_errorByPhrases_0 ?_
  refine lv_istore_n hx hb dX4_errorByPhrases_1 rfl hl (Nat.le_of_ble_eq_true rfl) (lv' := [(1, .int (iI (0))), (0, .ref (E 4))]) rfl (fun ls hl => ?_)
  refine z_iconst hx hb dX4_errorByPhrases_2 ?_
  refine lv_istore_n hx hb dX4_errorByPhrases_3 rfl hl (Nat.le_of_ble_eq_true rfl) (lv' := [(2, .int (iI (0))), (1, .int (iI (0))), (0, .ref (E 4))]) rfl (fun ls hl => ?_)
  have L1 : ∀ (k1 : Nat) (start phrase : Int) (ls : Array Slot) (H : Heap) (locs : List Loc), lv_has ls 5 [(0, .ref (E 4)), (1, .int (iI start)), (2, .int (iI phrase))] → va_P D vwCl (VC E cI cC M) H → va_D (wA (VC E cI cC M)) (VC E cI cC M) → va_S (wA (VC E cI cC M)) s.heap H locs → (0 ≤ start ∧ start ≤ M 7 0) → (0 ≤ phrase ∧ phrase ≤ M 7 0 + 1) → (M 7 0 + 1 - phrase < (k1 : Int)) → fX4_errorByPhrases_L1 M k1 start phrase = r → W p l e (zRm 3 67) s m args below meth c H locs 0 0 (MQ below (ciQ D (VC E cI cC) M r M) args s 0 0 (wA (VC E cI cC M))) (F0 m 4 ls []) := by
    intro k1
    induction k1 with
    | zero => intro start phrase ls H locs hl hP hD hS i1 i2 i3 hE; exfalso; omega
    | succ k1 ih1 =>
      intro start phrase ls H locs hl hP hD hS i1 i2 i3 hE
      have q97 := SI_n hQ
      rw [fX4_errorByPhrases_L1] at hE
      refine lv_iload_n hx hb dX4_errorByPhrases_4 rfl (lv_at hl 2 rfl) ?_
      refine lv_aload_n hx hb dX4_errorByPhrases_5 rfl (lv_at hl 0 rfl) ?_
      refine va_get (own := RX4) (ref := "NapkinSyntax$Sentence") (C := RX4) (T := TX4) (N := 7) hx hb hts hinX4 hown hK hP 4 VC_4 rfl 6 (Nat.le_of_ble_eq_true rfl) (hts (.fieldLink RX4 30 "NapkinSyntax$Sentence" "size" "I") (by decide +kernel)) (fun _ h => h) (v := .int (iI (M 7 0))) rfl dX4_errorByPhrases_6 ?_
      have q1 := SI_n hQ
      refine z_icmp_gt hx hb dX4_errorByPhrases_9 (tgt := 53) rfl (by omega) (by omega) (fun b2 => ?_) (fun b2 => ?_)
      · rw [if_pos b2] at hE
        refine z_iconst hx hb dX4_errorByPhrases_53 ?_
        exact ci_i hx hb hr hlocks hE rfl hS hP dX4_errorByPhrases_54
      · rw [if_neg b2] at hE
        refine lv_aload_n hx hb dX4_errorByPhrases_12 rfl (lv_at hl 0 rfl) ?_
        refine lv_iload_n hx hb dX4_errorByPhrases_13 rfl (lv_at hl 1 rfl) ?_
        refine ct_Vi (VC_fix E cI cC) hZo hZb hZ S0 (kX4_crownFrom l D E cI cC Z hZo hZb M start (by omega) hQ (fX4_crownFrom M start) rfl) (cwV 1 hts gX4_errorByPhrases_X4_crownFrom rfl rfl rfl (by decide +kernel) ⟨(Nat.le_of_ble_eq_true rfl), (Nat.le_of_ble_eq_true rfl)⟩) hK hP hD hS rfl rfl VC_4 rfl hl.1 rfl (Nat.le_of_ble_eq_true rfl) dX4_errorByPhrases_14 ⟨Nat.zero_le _, Nat.zero_le _⟩ (fun H locs hP hD hS => ?_)
        have q3 := rg_X4_crownFrom hQ start (by omega) (by omega)
        refine lv_istore_n hx hb dX4_errorByPhrases_17 rfl hl (Nat.le_of_ble_eq_true rfl) (lv' := [(3, .int (iI (fX4_crownFrom M start))), (0, .ref (E 4)), (1, .int (iI start)), (2, .int (iI phrase))]) rfl (fun ls hl => ?_)
        refine lv_aload_n hx hb dX4_errorByPhrases_18 rfl (lv_at hl 1 rfl) ?_
        refine lv_iload_n hx hb dX4_errorByPhrases_19 rfl (lv_at hl 2 rfl) ?_
        refine lv_iload_n hx hb dX4_errorByPhrases_20 rfl (lv_at hl 0 rfl) ?_
        refine ct_Vi (VC_fix E cI cC) hZo hZb hZ S0 (kX4_errorInPhrase l D E cI cC Z hZo hZb M start (fX4_crownFrom M start) (by omega) (by omega) hQ (fX4_errorInPhrase M start (fX4_crownFrom M start)) rfl) (cwV 2 hts gX4_errorByPhrases_X4_errorInPhrase rfl rfl rfl (by decide +kernel) ⟨(Nat.le_of_ble_eq_true rfl), (Nat.le_of_ble_eq_true rfl)⟩) hK hP hD hS rfl rfl VC_4 rfl hl.1 rfl (Nat.le_of_ble_eq_true rfl) dX4_errorByPhrases_21 ⟨Nat.zero_le _, Nat.zero_le _⟩ (fun H locs hP hD hS => ?_)
        have q4 := rg_X4_errorInPhrase hQ start (fX4_crownFrom M start) (by omega) (by omega) (by omega)
        refine lv_istore hx hb dX4_errorByPhrases_24 hl (Nat.le_of_ble_eq_true rfl) (lv' := [(4, .int (iI (fX4_errorInPhrase M start (fX4_crownFrom M start)))), (3, .int (iI (fX4_crownFrom M start))), (0, .ref (E 4)), (1, .int (iI start)), (2, .int (iI phrase))]) rfl (fun ls hl => ?_)
        refine lv_iload hx hb dX4_errorByPhrases_26 (lv_at hl 0 rfl) ?_
        refine z_iconst hx hb dX4_errorByPhrases_28 ?_
        refine z_icmp_ne hx hb dX4_errorByPhrases_29 (tgt := 40) rfl (by omega) (by omega) (fun b5 => ?_) (fun b5 => ?_)
        · rw [if_neg b5] at hE
          refine lv_iload hx hb dX4_errorByPhrases_40 (lv_at hl 0 rfl) ?_
          exact ci_i hx hb hr hlocks hE rfl hS hP dX4_errorByPhrases_42
        · rw [if_pos b5] at hE
          refine lv_iload_n hx hb dX4_errorByPhrases_32 rfl (lv_at hl 1 rfl) ?_
          refine lv_aload_n hx hb dX4_errorByPhrases_33 rfl (lv_at hl 2 rfl) ?_
          refine va_get (own := RX4) (ref := "NapkinSyntax$Sentence") (C := RX4) (T := TX4) (N := 7) hx hb hts hinX4 hown hK hP 4 VC_4 rfl 6 (Nat.le_of_ble_eq_true rfl) (hts (.fieldLink RX4 30 "NapkinSyntax$Sentence" "size" "I") (by decide +kernel)) (fun _ h => h) (v := .int (iI (M 7 0))) rfl dX4_errorByPhrases_34 ?_
          have q6 := SI_n hQ
          refine z_icmp_ne hx hb dX4_errorByPhrases_37 (tgt := 43) rfl (by omega) (by omega) (fun b7 => ?_) (fun b7 => ?_)
          · rw [if_neg b7] at hE
            refine lv_iload_n hx hb dX4_errorByPhrases_43 rfl (lv_at hl 1 rfl) ?_
            refine z_iconst hx hb dX4_errorByPhrases_44 ?_
            refine z_iadd hx hb dX4_errorByPhrases_45 ?_
            refine lv_istore_n hx hb dX4_errorByPhrases_46 rfl hl (Nat.le_of_ble_eq_true rfl) (lv' := [(1, .int (iI ((fX4_crownFrom M start) + (1)))), (4, .int (iI (fX4_errorInPhrase M start (fX4_crownFrom M start)))), (3, .int (iI (fX4_crownFrom M start))), (0, .ref (E 4)), (2, .int (iI phrase))]) rfl (fun ls hl => ?_)
            refine z_iinc hx hb dX4_errorByPhrases_47 hl (k := 4) rfl (Nat.le_of_ble_eq_true rfl) (lv' := [(2, .int (iI (phrase + 1))), (1, .int (iI ((fX4_crownFrom M start) + (1)))), (4, .int (iI (fX4_errorInPhrase M start (fX4_crownFrom M start)))), (3, .int (iI (fX4_crownFrom M start))), (0, .ref (E 4))]) rfl (fun ls hl => ?_)
            refine lv_goto hx hb dX4_errorByPhrases_50 (tgt := 4) rfl ?_
            exact ih1 ((fX4_crownFrom M start) + (1)) (phrase + 1) ls _ _ (lv_sub hl [4, 1, 0] rfl) hP hD hS (by omega) (by omega) (by omega) hE
          · rw [if_pos b7] at hE
            refine lv_iload hx hb dX4_errorByPhrases_40 (lv_at hl 0 rfl) ?_
            exact ci_i hx hb hr hlocks hE rfl hS hP dX4_errorByPhrases_42
  exact L1 9 (0) (0) ls _ _ (lv_sub hl [2, 1, 0] rfl) hP hD hS (by omega) (by omega) (by omega) hE


theorem rg_X4_errorByPhrases_L {M : Mem} (h : SI M) : ∀ (k : Nat) (s n : Int), 0 ≤ s → s ≤ M 7 0 → -1 ≤ fX4_errorByPhrases_L1 M k s n ∧ fX4_errorByPhrases_L1 M k s n ≤ 7 := by
  have hz := SI_n h
  intro k
  induction k with
  | zero => intro s n _ _; exact ⟨(by decide : (-1 : Int) ≤ 0), (by decide : (0 : Int) ≤ 7)⟩
  | succ k ih =>
    intro s n h1 h2
    rw [fX4_errorByPhrases_L1]
    have c := rg_X4_crownFrom h s h1 h2
    have r := rg_X4_errorInPhrase h s (fX4_crownFrom M s) h1 h2 c.2
    (repeat' split) <;> first | omega | exact ih _ _ (by omega) (by omega)
theorem rg_X4_errorByPhrases {M : Mem} (h : SI M) : -1 ≤ fX4_errorByPhrases M ∧ fX4_errorByPhrases M ≤ 7 := rg_X4_errorByPhrases_L h 9 0 0 (by decide) (SI_n h).1

def fX4_startOf_L1 (M : Mem) (phrase : Int) : Nat → Int → Int → (Int)
  | 0, _, _ => 0
  | k1 + 1, start, crowns => if (phrase ≤ crowns) then start else if ((M 7 0) ≤ start) then start else fX4_startOf_L1 M phrase k1 ((fX4_crownFrom M start) + (1)) (crowns + 1)
def fX4_startOf (M : Mem) (phrase : Int) : Int := fX4_startOf_L1 M phrase 10 (0) (0)
set_option maxRecDepth 100000 in
set_option maxHeartbeats 4000000 in
theorem kX4_startOf (l : Launch) (D : va_G) (E : Nat → Nat) (cI cC : ClassId) (Z : State → Prop) (hZo : ∀ M : Mem, ZOk (VC E cI cC M) Z) (hZb : ZBl Z) (M : Mem) (phrase : Int) (h1 : 0 ≤ phrase ∧ phrase ≤ 8) (hQ : SI M) (r : Int) (hE : fX4_startOf M phrase = r) : Ci l yX4_startOf wsX4_startOf 2 43 [.ref (E 4), .int (iI phrase)] D (TY cI cC) (VC E cI cC) Z M r M := by
  refine Ci.of (cc := cX4_startOf) (maxL := 4) (ret := (some .int)) (by decide +kernel) rfl (Nat.le_of_ble_eq_true rfl) ?_
  intro p e s m args below meth c ls hx hb hml hr hown hts hlocks hP hK hD hZ hS hl
  have hl : lv_has ls 4 [(0, .ref (E 4)), (1, .int (iI phrase))] := hl
  have S0 : CallFix p m c cX4_startOf 4 s args wsX4_startOf RX4 := ⟨hx, hb, hml, hown, hts⟩
  have hinX4 : ∀ w ∈ u_ws RX4 TX4 7, w ∈ wsX4_startOf := by decide +kernel
  have q96 := SI_n hQ
  rw [fX4_startOf] at hE
  refine z_iconst hx hb dX4_startOf_0 ?_
  refine lv_istore_n hx hb dX4_startOf_1 rfl hl (Nat.le_of_ble_eq_true rfl) (lv' := [(2, .int (iI (0))), (0, .ref (E 4)), (1, .int (iI phrase))]) rfl (fun ls hl => ?_)
  refine z_iconst hx hb dX4_startOf_2 ?_
  refine lv_istore_n hx hb dX4_startOf_3 rfl hl (Nat.le_of_ble_eq_true rfl) (lv' := [(3, .int (iI (0))), (2, .int (iI (0))), (0, .ref (E 4)), (1, .int (iI phrase))]) rfl (fun ls hl => ?_)
  have L1 : ∀ (k1 : Nat) (start crowns : Int) (ls : Array Slot) (H : Heap) (locs : List Loc), lv_has ls 4 [(0, .ref (E 4)), (1, .int (iI phrase)), (2, .int (iI start)), (3, .int (iI crowns))] → va_P D vwCl (VC E cI cC M) H → va_D (wA (VC E cI cC M)) (VC E cI cC M) → va_S (wA (VC E cI cC M)) s.heap H locs → (0 ≤ start ∧ start ≤ M 7 0 + 1) → (0 ≤ crowns ∧ crowns ≤ phrase) → (phrase - crowns < (k1 : Int)) → fX4_startOf_L1 M phrase k1 start crowns = r → W p l e (zRm 2 43) s m args below meth c H locs 0 0 (MQ below (ciQ D (VC E cI cC) M r M) args s 0 0 (wA (VC E cI cC M))) (F0 m 4 ls []) := by
    intro k1
    induction k1 with
    | zero => intro start crowns ls H locs hl hP hD hS i1 i2 i3 hE; exfalso; omega
    | succ k1 ih1 =>
      intro start crowns ls H locs hl hP hD hS i1 i2 i3 hE
      have q97 := SI_n hQ
      rw [fX4_startOf_L1] at hE
      refine lv_iload_n hx hb dX4_startOf_4 rfl (lv_at hl 3 rfl) ?_
      refine lv_iload_n hx hb dX4_startOf_5 rfl (lv_at hl 1 rfl) ?_
      refine z_icmp_ge hx hb dX4_startOf_6 (tgt := 31) rfl (by omega) (by omega) (fun b1 => ?_) (fun b1 => ?_)
      · rw [if_pos b1] at hE
        refine lv_iload_n hx hb dX4_startOf_31 rfl (lv_at hl 2 rfl) ?_
        exact ci_i hx hb hr hlocks hE rfl hS hP dX4_startOf_32
      · rw [if_neg b1] at hE
        refine lv_iload_n hx hb dX4_startOf_9 rfl (lv_at hl 2 rfl) ?_
        refine lv_aload_n hx hb dX4_startOf_10 rfl (lv_at hl 0 rfl) ?_
        refine va_get (own := RX4) (ref := "NapkinSyntax$Sentence") (C := RX4) (T := TX4) (N := 7) hx hb hts hinX4 hown hK hP 4 VC_4 rfl 6 (Nat.le_of_ble_eq_true rfl) (hts (.fieldLink RX4 30 "NapkinSyntax$Sentence" "size" "I") (by decide +kernel)) (fun _ h => h) (v := .int (iI (M 7 0))) rfl dX4_startOf_11 ?_
        have q2 := SI_n hQ
        refine z_icmp_ge hx hb dX4_startOf_14 (tgt := 31) rfl (by omega) (by omega) (fun b3 => ?_) (fun b3 => ?_)
        · rw [if_pos b3] at hE
          refine lv_iload_n hx hb dX4_startOf_31 rfl (lv_at hl 2 rfl) ?_
          exact ci_i hx hb hr hlocks hE rfl hS hP dX4_startOf_32
        · rw [if_neg b3] at hE
          refine lv_aload_n hx hb dX4_startOf_17 rfl (lv_at hl 0 rfl) ?_
          refine lv_iload_n hx hb dX4_startOf_18 rfl (lv_at hl 2 rfl) ?_
          refine ct_Vi (VC_fix E cI cC) hZo hZb hZ S0 (kX4_crownFrom l D E cI cC Z hZo hZb M start (by omega) hQ (fX4_crownFrom M start) rfl) (cwV 1 hts gX4_startOf_X4_crownFrom rfl rfl rfl (by decide +kernel) ⟨(Nat.le_of_ble_eq_true rfl), (Nat.le_of_ble_eq_true rfl)⟩) hK hP hD hS rfl rfl VC_4 rfl hl.1 rfl (Nat.le_of_ble_eq_true rfl) dX4_startOf_19 ⟨Nat.zero_le _, Nat.zero_le _⟩ (fun H locs hP hD hS => ?_)
          have q4 := rg_X4_crownFrom hQ start (by omega) (by omega)
          refine z_iconst hx hb dX4_startOf_22 ?_
          refine z_iadd hx hb dX4_startOf_23 ?_
          refine lv_istore_n hx hb dX4_startOf_24 rfl hl (Nat.le_of_ble_eq_true rfl) (lv' := [(2, .int (iI ((fX4_crownFrom M start) + (1)))), (0, .ref (E 4)), (1, .int (iI phrase)), (3, .int (iI crowns))]) rfl (fun ls hl => ?_)
          refine z_iinc hx hb dX4_startOf_25 hl (k := 3) rfl (Nat.le_of_ble_eq_true rfl) (lv' := [(3, .int (iI (crowns + 1))), (2, .int (iI ((fX4_crownFrom M start) + (1)))), (0, .ref (E 4)), (1, .int (iI phrase))]) rfl (fun ls hl => ?_)
          refine lv_goto hx hb dX4_startOf_28 (tgt := 4) rfl ?_
          exact ih1 ((fX4_crownFrom M start) + (1)) (crowns + 1) ls _ _ (lv_sub hl [2, 3, 1, 0] rfl) hP hD hS (by omega) (by omega) (by omega) hE
  exact L1 10 (0) (0) ls _ _ (lv_sub hl [2, 3, 1, 0] rfl) hP hD hS (by omega) (by omega) (by omega) hE


theorem rg_X4_startOf_L {M : Mem} (h : SI M) (p : Int) : ∀ (k : Nat) (s n : Int), 0 ≤ s → s ≤ M 7 0 + 1 → 0 ≤ fX4_startOf_L1 M p k s n ∧ fX4_startOf_L1 M p k s n ≤ M 7 0 + 1 := by
  have hz := SI_n h
  intro k
  induction k with
  | zero => intro s n _ _; exact ⟨(by decide : (0 : Int) ≤ 0), by show (0 : Int) ≤ M 7 0 + 1; omega⟩
  | succ k ih =>
    intro s n h1 h2
    rw [fX4_startOf_L1]
    split
    · omega
    · split
      · omega
      · have c := rg_X4_crownFrom h s h1 (by omega)
        exact ih _ _ (by omega) (by omega)
theorem rg_X4_startOf {M : Mem} (h : SI M) (p : Int) : 0 ≤ fX4_startOf M p ∧ fX4_startOf M p ≤ M 7 0 + 1 := rg_X4_startOf_L h p 10 0 0 (by decide) (by have := SI_n h; omega)

def fX4_isAgreed_L1 (M : Mem) (start mood : Int) : Nat → Int → (Int)
  | 0, _ => 0
  | k1 + 1, number => if (mood ≤ number) then (0) else if ((fX4_colourAt M number) = (fX4_colourAt M mood)) then (1) else fX4_isAgreed_L1 M start mood k1 (number + 1)
def fX4_isAgreed (M : Mem) (start mood : Int) : Int := fX4_isAgreed_L1 M start mood 8 start
set_option maxRecDepth 100000 in
set_option maxHeartbeats 4000000 in
theorem kX4_isAgreed (l : Launch) (D : va_G) (E : Nat → Nat) (cI cC : ClassId) (Z : State → Prop) (hZo : ∀ M : Mem, ZOk (VC E cI cC M) Z) (hZb : ZBl Z) (M : Mem) (start mood : Int) (h1 : 0 ≤ start ∧ start ≤ 7) (h2 : 0 ≤ mood ∧ mood ≤ 7) (hQ : SI M) (r : Int) (hE : fX4_isAgreed M start mood = r) : Ci l yX4_isAgreed wsX4_isAgreed 2 42 [.ref (E 4), .int (iI start), .int (iI mood)] D (TY cI cC) (VC E cI cC) Z M r M := by
  refine Ci.of (cc := cX4_isAgreed) (maxL := 4) (ret := (some .boolean)) (by decide +kernel) rfl (Nat.le_of_ble_eq_true rfl) ?_
  intro p e s m args below meth c ls hx hb hml hr hown hts hlocks hP hK hD hZ hS hl
  have hl : lv_has ls 4 [(0, .ref (E 4)), (1, .int (iI start)), (2, .int (iI mood))] := hl
  have S0 : CallFix p m c cX4_isAgreed 4 s args wsX4_isAgreed RX4 := ⟨hx, hb, hml, hown, hts⟩
  rw [fX4_isAgreed] at hE
  refine lv_iload_n hx hb dX4_isAgreed_0 rfl (lv_at hl 1 rfl) ?_
  refine lv_istore_n hx hb dX4_isAgreed_1 rfl hl (Nat.le_of_ble_eq_true rfl) (lv' := [(3, .int (iI start)), (0, .ref (E 4)), (1, .int (iI start)), (2, .int (iI mood))]) rfl (fun ls hl => ?_)
  have L1 : ∀ (k1 : Nat) (number : Int) (ls : Array Slot) (H : Heap) (locs : List Loc), lv_has ls 4 [(0, .ref (E 4)), (1, .int (iI start)), (2, .int (iI mood)), (3, .int (iI number))] → va_P D vwCl (VC E cI cC M) H → va_D (wA (VC E cI cC M)) (VC E cI cC M) → va_S (wA (VC E cI cC M)) s.heap H locs → (start ≤ number ∧ (number ≤ mood ∨ number = start)) → (mood - number < (k1 : Int) ∧ 0 < (k1 : Int)) → fX4_isAgreed_L1 M start mood k1 number = r → W p l e (zRm 2 42) s m args below meth c H locs 0 0 (MQ below (ciQ D (VC E cI cC) M r M) args s 0 0 (wA (VC E cI cC M))) (F0 m 2 ls []) := by
    intro k1
    induction k1 with
    | zero => intro number ls H locs hl hP hD hS i1 i3 hE; exfalso; omega
    | succ k1 ih1 =>
      intro number ls H locs hl hP hD hS i1 i3 hE
      rw [fX4_isAgreed_L1] at hE
      refine lv_iload_n hx hb dX4_isAgreed_2 rfl (lv_at hl 3 rfl) ?_
      refine lv_iload_n hx hb dX4_isAgreed_3 rfl (lv_at hl 2 rfl) ?_
      refine z_icmp_ge hx hb dX4_isAgreed_4 (tgt := 28) rfl (by omega) (by omega) (fun b1 => ?_) (fun b1 => ?_)
      · rw [if_pos b1] at hE
        refine z_iconst hx hb dX4_isAgreed_28 ?_
        exact ci_i hx hb hr hlocks hE nr_b0 hS hP dX4_isAgreed_29
      · rw [if_neg b1] at hE
        refine lv_aload_n hx hb dX4_isAgreed_7 rfl (lv_at hl 0 rfl) ?_
        refine lv_iload_n hx hb dX4_isAgreed_8 rfl (lv_at hl 3 rfl) ?_
        refine ct_Vi (VC_fix E cI cC) hZo hZb hZ S0 (kX4_colourAt l D E cI cC Z hZo hZb M number (by omega) hQ (fX4_colourAt M number) rfl) (cwV 1 hts gX4_isAgreed_X4_colourAt rfl rfl rfl (by decide +kernel) ⟨(Nat.le_of_ble_eq_true rfl), (Nat.le_of_ble_eq_true rfl)⟩) hK hP hD hS rfl rfl VC_4 rfl hl.1 rfl (Nat.le_of_ble_eq_true rfl) dX4_isAgreed_9 ⟨Nat.zero_le _, Nat.zero_le _⟩ (fun H locs hP hD hS => ?_)
        have q2 := rg_X4_colourAt hQ number
        refine lv_aload_n hx hb dX4_isAgreed_12 rfl (lv_at hl 0 rfl) ?_
        refine lv_iload_n hx hb dX4_isAgreed_13 rfl (lv_at hl 2 rfl) ?_
        refine ct_Vi (VC_fix E cI cC) hZo hZb hZ S0 (kX4_colourAt l D E cI cC Z hZo hZb M mood (by omega) hQ (fX4_colourAt M mood) rfl) (cwV 1 hts gX4_isAgreed_X4_colourAt rfl rfl rfl (by decide +kernel) ⟨(Nat.le_of_ble_eq_true rfl), (Nat.le_of_ble_eq_true rfl)⟩) hK hP hD hS rfl rfl VC_4 rfl hl.1 rfl (Nat.le_of_ble_eq_true rfl) dX4_isAgreed_14 ⟨Nat.zero_le _, Nat.zero_le _⟩ (fun H locs hP hD hS => ?_)
        have q3 := rg_X4_colourAt hQ mood
        refine z_icmp_ne hx hb dX4_isAgreed_17 (tgt := 22) rfl (by omega) (by omega) (fun b4 => ?_) (fun b4 => ?_)
        · rw [if_neg b4] at hE
          refine z_iinc hx hb dX4_isAgreed_22 hl (k := 3) rfl (Nat.le_of_ble_eq_true rfl) (lv' := [(3, .int (iI (number + 1))), (0, .ref (E 4)), (1, .int (iI start)), (2, .int (iI mood))]) rfl (fun ls hl => ?_)
          refine lv_goto hx hb dX4_isAgreed_25 (tgt := 2) rfl ?_
          exact ih1 (number + 1) ls _ _ (lv_sub hl [1, 2, 3, 0] rfl) hP hD hS (by omega) (by omega) hE
        · rw [if_pos b4] at hE
          refine z_iconst hx hb dX4_isAgreed_20 ?_
          exact ci_i hx hb hr hlocks hE nr_b1 hS hP dX4_isAgreed_21
  exact L1 8 start ls _ _ (lv_sub hl [1, 2, 3, 0] rfl) hP hD hS (by omega) (by omega) hE


theorem bX4_isAgreed_L (M : Mem) (s m : Int) : ∀ (k : Nat) (n : Int), 0 ≤ fX4_isAgreed_L1 M s m k n ∧ fX4_isAgreed_L1 M s m k n ≤ 1 := by
  intro k
  induction k with
  | zero => intro n; exact ⟨(by decide : (0 : Int) ≤ 0), (by decide : (0 : Int) ≤ 1)⟩
  | succ k ih =>
    intro n
    rw [fX4_isAgreed_L1]
    (repeat' split) <;> first | omega | exact ih _
theorem bX4_isAgreed (M : Mem) (s m : Int) : 0 ≤ fX4_isAgreed M s m ∧ fX4_isAgreed M s m ≤ 1 := bX4_isAgreed_L M s m 8 s

def fX4_pointAtEnd_L1 (M : Mem) (opened : Int) : Nat → Int → Int → (Int)
  | 0, _, _ => 0
  | k1 + 1, point, number => if ((M 7 0) ≤ number) then point else if ((zand (zshr opened number) (1)) = 0) then fX4_pointAtEnd_L1 M opened k1 (fX4_pointAfter point (fX4_foldAt M number)) (number + 1) else fX4_pointAtEnd_L1 M opened k1 point (number + 1)
def fX4_pointAtEnd (M : Mem) (opened : Int) : Int := fX4_pointAtEnd_L1 M opened 8 (0) (0)
set_option maxRecDepth 100000 in
set_option maxHeartbeats 4000000 in
theorem kX4_pointAtEnd (l : Launch) (D : va_G) (E : Nat → Nat) (cI cC : ClassId) (Z : State → Prop) (hZo : ∀ M : Mem, ZOk (VC E cI cC M) Z) (hZb : ZBl Z) (M : Mem) (opened : Int) (h1 : -2147483648 ≤ opened ∧ opened < 2147483648) (hQ : SI M) (r : Int) (hE : fX4_pointAtEnd M opened = r) : Ci l yX4_pointAtEnd wsX4_pointAtEnd 1 21 [.ref (E 4), .int (iI opened)] D (TY cI cC) (VC E cI cC) Z M r M := by
  refine Ci.of (cc := cX4_pointAtEnd) (maxL := 4) (ret := (some .int)) (by decide +kernel) rfl (Nat.le_of_ble_eq_true rfl) ?_
  intro p e s m args below meth c ls hx hb hml hr hown hts hlocks hP hK hD hZ hS hl
  have hl : lv_has ls 4 [(0, .ref (E 4)), (1, .int (iI opened))] := hl
  have S0 : CallFix p m c cX4_pointAtEnd 4 s args wsX4_pointAtEnd RX4 := ⟨hx, hb, hml, hown, hts⟩
  have hinX4 : ∀ w ∈ u_ws RX4 TX4 7, w ∈ wsX4_pointAtEnd := by decide +kernel
  rw [fX4_pointAtEnd] at hE
  refine z_iconst hx hb dX4_pointAtEnd_0 ?_
  refine lv_istore_n hx hb dX4_pointAtEnd_1 rfl hl (Nat.le_of_ble_eq_true rfl) (lv' := [(2, .int (iI (0))), (0, .ref (E 4)), (1, .int (iI opened))]) rfl (fun ls hl => ?_)
  refine z_iconst hx hb dX4_pointAtEnd_2 ?_
  refine lv_istore_n hx hb dX4_pointAtEnd_3 rfl hl (Nat.le_of_ble_eq_true rfl) (lv' := [(3, .int (iI (0))), (2, .int (iI (0))), (0, .ref (E 4)), (1, .int (iI opened))]) rfl (fun ls hl => ?_)
  have L1 : ∀ (k1 : Nat) (point number : Int) (ls : Array Slot) (H : Heap) (locs : List Loc), lv_has ls 4 [(0, .ref (E 4)), (1, .int (iI opened)), (2, .int (iI point)), (3, .int (iI number))] → va_P D vwCl (VC E cI cC M) H → va_D (wA (VC E cI cC M)) (VC E cI cC M) → va_S (wA (VC E cI cC M)) s.heap H locs → (0 ≤ number) → (number ≤ M 7 0) → (M 7 0 - number < (k1 : Int)) → (-1 ≤ point ∧ point ≤ 3) → fX4_pointAtEnd_L1 M opened k1 point number = r → W p l e (zRm 1 21) s m args below meth c H locs 0 0 (MQ below (ciQ D (VC E cI cC) M r M) args s 0 0 (wA (VC E cI cC M))) (F0 m 4 ls []) := by
    intro k1
    induction k1 with
    | zero => intro point number ls H locs hl hP hD hS i1 i2 i3 i4 hE; exfalso; omega
    | succ k1 ih1 =>
      intro point number ls H locs hl hP hD hS i1 i2 i3 i4 hE
      have q97 := SI_n hQ
      rw [fX4_pointAtEnd_L1] at hE
      refine lv_iload_n hx hb dX4_pointAtEnd_4 rfl (lv_at hl 3 rfl) ?_
      refine lv_aload_n hx hb dX4_pointAtEnd_5 rfl (lv_at hl 0 rfl) ?_
      refine va_get (own := RX4) (ref := "NapkinSyntax$Sentence") (C := RX4) (T := TX4) (N := 7) hx hb hts hinX4 hown hK hP 4 VC_4 rfl 6 (Nat.le_of_ble_eq_true rfl) (hts (.fieldLink RX4 30 "NapkinSyntax$Sentence" "size" "I") (by decide +kernel)) (fun _ h => h) (v := .int (iI (M 7 0))) rfl dX4_pointAtEnd_6 ?_
      have q1 := SI_n hQ
      refine z_icmp_ge hx hb dX4_pointAtEnd_9 (tgt := 36) rfl (by omega) (by omega) (fun b2 => ?_) (fun b2 => ?_)
      · rw [if_pos b2] at hE
        refine lv_iload_n hx hb dX4_pointAtEnd_36 rfl (lv_at hl 2 rfl) ?_
        exact ci_i hx hb hr hlocks hE rfl hS hP dX4_pointAtEnd_37
      · rw [if_neg b2] at hE
        refine lv_iload_n hx hb dX4_pointAtEnd_12 rfl (lv_at hl 1 rfl) ?_
        refine lv_iload_n hx hb dX4_pointAtEnd_13 rfl (lv_at hl 3 rfl) ?_
        refine z_ishr hx hb dX4_pointAtEnd_14 ?_
        have q3 := zshr_I opened number
        refine z_iconst hx hb dX4_pointAtEnd_15 ?_
        refine z_iand hx hb dX4_pointAtEnd_16 ?_
        have q4 := zand_I (zshr opened number) (1)
        refine z_if_ne hx hb dX4_pointAtEnd_17 (tgt := 30) rfl (by omega) (fun b5 => ?_) (fun b5 => ?_)
        · rw [if_neg b5] at hE
          refine z_iinc hx hb dX4_pointAtEnd_30 hl (k := 3) rfl (Nat.le_of_ble_eq_true rfl) (lv' := [(3, .int (iI (number + 1))), (0, .ref (E 4)), (1, .int (iI opened)), (2, .int (iI point))]) rfl (fun ls hl => ?_)
          refine lv_goto hx hb dX4_pointAtEnd_33 (tgt := 4) rfl ?_
          exact ih1 point (number + 1) ls _ _ (lv_sub hl [1, 2, 3, 0] rfl) hP hD hS (by omega) (by omega) (by omega) (by omega) hE
        · rw [if_pos b5] at hE
          refine lv_iload_n hx hb dX4_pointAtEnd_20 rfl (lv_at hl 2 rfl) ?_
          refine lv_aload_n hx hb dX4_pointAtEnd_21 rfl (lv_at hl 0 rfl) ?_
          refine lv_iload_n hx hb dX4_pointAtEnd_22 rfl (lv_at hl 3 rfl) ?_
          refine ct_Vi (VC_fix E cI cC) hZo hZb hZ S0 (kX4_foldAt l D E cI cC Z hZo hZb M number (by omega) hQ (fX4_foldAt M number) rfl) (cwV 1 hts gX4_pointAtEnd_X4_foldAt rfl rfl rfl (by decide +kernel) ⟨(Nat.le_of_ble_eq_true rfl), (Nat.le_of_ble_eq_true rfl)⟩) hK hP hD hS rfl rfl VC_4 rfl hl.1 rfl (Nat.le_of_ble_eq_true rfl) dX4_pointAtEnd_23 ⟨Nat.zero_le _, Nat.zero_le _⟩ (fun H locs hP hD hS => ?_)
          have q6 := rg_X4_foldAt hQ number
          refine ct_Si (VC_fix E cI cC) hZo hZb hZ S0 (kX4_pointAfter l D E cI cC Z hZo hZb M point (fX4_foldAt M number) (by omega) (by omega) (fX4_pointAfter point (fX4_foldAt M number)) rfl) (va_cwS 2 hts gX4_pointAtEnd_X4_pointAfter rfl rfl rfl (by decide +kernel) ⟨(Nat.le_of_ble_eq_true rfl), (Nat.le_of_ble_eq_true rfl)⟩) hK hP hD hS rfl hl.1 rfl (Nat.le_of_ble_eq_true rfl) dX4_pointAtEnd_26 ⟨Nat.zero_le _, Nat.zero_le _⟩ (fun H locs hP hD hS => ?_)
          have q7 := rg_X4_pointAfter point (fX4_foldAt M number)
          refine lv_istore_n hx hb dX4_pointAtEnd_29 rfl hl (Nat.le_of_ble_eq_true rfl) (lv' := [(2, .int (iI (fX4_pointAfter point (fX4_foldAt M number)))), (0, .ref (E 4)), (1, .int (iI opened)), (3, .int (iI number))]) rfl (fun ls hl => ?_)
          refine z_iinc hx hb dX4_pointAtEnd_30 hl (k := 3) rfl (Nat.le_of_ble_eq_true rfl) (lv' := [(3, .int (iI (number + 1))), (2, .int (iI (fX4_pointAfter point (fX4_foldAt M number)))), (0, .ref (E 4)), (1, .int (iI opened))]) rfl (fun ls hl => ?_)
          refine lv_goto hx hb dX4_pointAtEnd_33 (tgt := 4) rfl ?_
          exact ih1 (fX4_pointAfter point (fX4_foldAt M number)) (number + 1) ls _ _ (lv_sub hl [2, 3, 1, 0] rfl) hP hD hS (by omega) (by omega) (by omega) (by omega) hE
  exact L1 8 (0) (0) ls _ _ (lv_sub hl [2, 3, 1, 0] rfl) hP hD hS (by omega) (by have := SI_n hQ; omega) (by have := SI_n hQ; omega) (by omega) hE


theorem rg_X4_pointAtEnd_L (M : Mem) (o : Int) : ∀ (k : Nat) (p n : Int), -1 ≤ p → p ≤ 3 → -1 ≤ fX4_pointAtEnd_L1 M o k p n ∧ fX4_pointAtEnd_L1 M o k p n ≤ 3 := by
  intro k
  induction k with
  | zero => intro p n _ _; exact ⟨(by decide : (-1 : Int) ≤ 0), (by decide : (0 : Int) ≤ 3)⟩
  | succ k ih =>
    intro p n h1 h2
    rw [fX4_pointAtEnd_L1]
    have := rg_X4_pointAfter p (fX4_foldAt M n)
    (repeat' split) <;> first | omega | exact ih _ _ (by omega) (by omega)
theorem rg_X4_pointAtEnd {M : Mem} (_ : SI M) (o : Int) : -1 ≤ fX4_pointAtEnd M o ∧ fX4_pointAtEnd M o ≤ 3 := rg_X4_pointAtEnd_L M o 8 0 0 (by decide) (by decide)

def fX4_followers_L1 (M : Mem) : Nat → Int → Int → (Int)
  | 0, _, _ => 0
  | k1 + 1, set, fold => if ((4) < fold) then set else if ((fX4_pointAfter (fX4_pointAtEnd M (0)) fold) = (-1)) then fX4_followers_L1 M k1 set (fold + 1) else fX4_followers_L1 M k1 (zor set (zshl (1) fold)) (fold + 1)
def fX4_followers (M : Mem) : Int := fX4_followers_L1 M 6 (0) (1)
set_option maxRecDepth 100000 in
set_option maxHeartbeats 4000000 in
theorem kX4_followers (l : Launch) (D : va_G) (E : Nat → Nat) (cI cC : ClassId) (Z : State → Prop) (hZo : ∀ M : Mem, ZOk (VC E cI cC M) Z) (hZb : ZBl Z) (M : Mem) (hQ : SI M) (r : Int) (hE : fX4_followers M = r) : Ci l yX4_followers wsX4_followers 2 44 [.ref (E 4)] D (TY cI cC) (VC E cI cC) Z M r M := by
  refine Ci.of (cc := cX4_followers) (maxL := 4) (ret := (some .int)) (by decide +kernel) rfl (Nat.le_of_ble_eq_true rfl) ?_
  intro p e s m args below meth c ls hx hb hml hr hown hts hlocks hP hK hD hZ hS hl
  have hl : lv_has ls 4 [(0, .ref (E 4))] := hl
  have S0 : CallFix p m c cX4_followers 4 s args wsX4_followers RX4 := ⟨hx, hb, hml, hown, hts⟩
  rw [fX4_followers] at hE
  refine lv_aload_n hx hb dX4_followers_0 rfl (lv_at hl 0 rfl) ?_
  refine z_iconst hx hb dX4_followers_1 ?_
  refine ct_Vi (VC_fix E cI cC) hZo hZb hZ S0 (kX4_pointAtEnd l D E cI cC Z hZo hZb M (0) (by omega) hQ (fX4_pointAtEnd M (0)) rfl) (cwV 1 hts gX4_followers_X4_pointAtEnd rfl rfl rfl (by decide +kernel) ⟨(Nat.le_of_ble_eq_true rfl), (Nat.le_of_ble_eq_true rfl)⟩) hK hP hD hS rfl rfl VC_4 rfl hl.1 rfl (Nat.le_of_ble_eq_true rfl) dX4_followers_2 ⟨Nat.zero_le _, Nat.zero_le _⟩ (fun H locs hP hD hS => ?_)
  have q1 := rg_X4_pointAtEnd hQ (0)
  refine lv_istore_n hx hb dX4_followers_5 rfl hl (Nat.le_of_ble_eq_true rfl) (lv' := [(1, .int (iI (fX4_pointAtEnd M (0)))), (0, .ref (E 4))]) rfl (fun ls hl => ?_)
  refine z_iconst hx hb dX4_followers_6 ?_
  refine lv_istore_n hx hb dX4_followers_7 rfl hl (Nat.le_of_ble_eq_true rfl) (lv' := [(2, .int (iI (0))), (1, .int (iI (fX4_pointAtEnd M (0)))), (0, .ref (E 4))]) rfl (fun ls hl => ?_)
  refine z_iconst hx hb dX4_followers_8 ?_
  refine lv_istore_n hx hb dX4_followers_9 rfl hl (Nat.le_of_ble_eq_true rfl) (lv' := [(3, .int (iI (1))), (2, .int (iI (0))), (1, .int (iI (fX4_pointAtEnd M (0)))), (0, .ref (E 4))]) rfl (fun ls hl => ?_)
  have L1 : ∀ (k1 : Nat) (set fold : Int) (ls : Array Slot) (H : Heap) (locs : List Loc), lv_has ls 4 [(0, .ref (E 4)), (1, .int (iI (fX4_pointAtEnd M (0)))), (2, .int (iI set)), (3, .int (iI fold))] → va_P D vwCl (VC E cI cC M) H → va_D (wA (VC E cI cC M)) (VC E cI cC M) → va_S (wA (VC E cI cC M)) s.heap H locs → (1 ≤ fold ∧ fold ≤ 5) → (5 - fold < (k1 : Int)) → fX4_followers_L1 M k1 set fold = r → W p l e (zRm 2 44) s m args below meth c H locs 0 0 (MQ below (ciQ D (VC E cI cC) M r M) args s 0 0 (wA (VC E cI cC M))) (F0 m 10 ls []) := by
    intro k1
    induction k1 with
    | zero => intro set fold ls H locs hl hP hD hS i1 i3 hE; exfalso; omega
    | succ k1 ih1 =>
      intro set fold ls H locs hl hP hD hS i1 i3 hE
      have q95 := rg_X4_pointAtEnd hQ 0
      rw [fX4_followers_L1] at hE
      refine lv_iload_n hx hb dX4_followers_10 rfl (lv_at hl 3 rfl) ?_
      refine z_iconst hx hb dX4_followers_11 ?_
      refine z_icmp_gt hx hb dX4_followers_12 (tgt := 36) rfl (by omega) (by omega) (fun b2 => ?_) (fun b2 => ?_)
      · rw [if_pos b2] at hE
        refine lv_iload_n hx hb dX4_followers_36 rfl (lv_at hl 2 rfl) ?_
        exact ci_i hx hb hr hlocks hE rfl hS hP dX4_followers_37
      · rw [if_neg b2] at hE
        refine lv_iload_n hx hb dX4_followers_15 rfl (lv_at hl 1 rfl) ?_
        refine lv_iload_n hx hb dX4_followers_16 rfl (lv_at hl 3 rfl) ?_
        refine ct_Si (VC_fix E cI cC) hZo hZb hZ S0 (kX4_pointAfter l D E cI cC Z hZo hZb M (fX4_pointAtEnd M (0)) fold (by omega) (by omega) (fX4_pointAfter (fX4_pointAtEnd M (0)) fold) rfl) (va_cwS 2 hts gX4_followers_X4_pointAfter rfl rfl rfl (by decide +kernel) ⟨(Nat.le_of_ble_eq_true rfl), (Nat.le_of_ble_eq_true rfl)⟩) hK hP hD hS rfl hl.1 rfl (Nat.le_of_ble_eq_true rfl) dX4_followers_17 ⟨Nat.zero_le _, Nat.zero_le _⟩ (fun H locs hP hD hS => ?_)
        have q3 := rg_X4_pointAfter (fX4_pointAtEnd M (0)) fold
        refine z_iconst hx hb dX4_followers_20 ?_
        refine z_icmp_eq hx hb dX4_followers_21 (tgt := 30) rfl (by omega) (by omega) (fun b4 => ?_) (fun b4 => ?_)
        · rw [if_pos b4] at hE
          refine z_iinc hx hb dX4_followers_30 hl (k := 3) rfl (Nat.le_of_ble_eq_true rfl) (lv' := [(3, .int (iI (fold + 1))), (0, .ref (E 4)), (1, .int (iI (fX4_pointAtEnd M (0)))), (2, .int (iI set))]) rfl (fun ls hl => ?_)
          refine lv_goto hx hb dX4_followers_33 (tgt := 10) rfl ?_
          exact ih1 set (fold + 1) ls _ _ (lv_sub hl [1, 2, 3, 0] rfl) hP hD hS (by omega) (by omega) hE
        · rw [if_neg b4] at hE
          refine lv_iload_n hx hb dX4_followers_24 rfl (lv_at hl 2 rfl) ?_
          refine z_iconst hx hb dX4_followers_25 ?_
          refine lv_iload_n hx hb dX4_followers_26 rfl (lv_at hl 3 rfl) ?_
          refine z_ishl hx hb dX4_followers_27 ?_
          have q5 := zshl_I (1) fold
          refine z_ior hx hb dX4_followers_28 ?_
          have q6 := zor_I set (zshl (1) fold)
          refine lv_istore_n hx hb dX4_followers_29 rfl hl (Nat.le_of_ble_eq_true rfl) (lv' := [(2, .int (iI (zor set (zshl (1) fold)))), (0, .ref (E 4)), (1, .int (iI (fX4_pointAtEnd M (0)))), (3, .int (iI fold))]) rfl (fun ls hl => ?_)
          refine z_iinc hx hb dX4_followers_30 hl (k := 3) rfl (Nat.le_of_ble_eq_true rfl) (lv' := [(3, .int (iI (fold + 1))), (2, .int (iI (zor set (zshl (1) fold)))), (0, .ref (E 4)), (1, .int (iI (fX4_pointAtEnd M (0))))]) rfl (fun ls hl => ?_)
          refine lv_goto hx hb dX4_followers_33 (tgt := 10) rfl ?_
          exact ih1 (zor set (zshl (1) fold)) (fold + 1) ls _ _ (lv_sub hl [2, 3, 1, 0] rfl) hP hD hS (by omega) (by omega) hE
  exact L1 6 (0) (1) ls _ _ (lv_sub hl [3, 2, 1, 0] rfl) hP hD hS (by omega) (by omega) hE

def fX4_doubtByNapkins_L1 (M : Mem) : Nat → Int → Int → (Int)
  | 0, _, _ => 0
  | k1 + 1, doubt, number => if ((M 7 0) ≤ number) then doubt else fX4_doubtByNapkins_L1 M k1 (doubt + (fX4_stainsAt M number)) (number + 1)
def fX4_doubtByNapkins (M : Mem) : Int := fX4_doubtByNapkins_L1 M 8 (0) (0)
set_option maxRecDepth 100000 in
set_option maxHeartbeats 4000000 in
theorem kX4_doubtByNapkins (l : Launch) (D : va_G) (E : Nat → Nat) (cI cC : ClassId) (Z : State → Prop) (hZo : ∀ M : Mem, ZOk (VC E cI cC M) Z) (hZb : ZBl Z) (M : Mem) (hQ : SI M) (r : Int) (hE : fX4_doubtByNapkins M = r) : Ci l yX4_doubtByNapkins wsX4_doubtByNapkins 2 42 [.ref (E 4)] D (TY cI cC) (VC E cI cC) Z M r M := by
  refine Ci.of (cc := cX4_doubtByNapkins) (maxL := 3) (ret := (some .int)) (by decide +kernel) rfl (Nat.le_of_ble_eq_true rfl) ?_
  intro p e s m args below meth c ls hx hb hml hr hown hts hlocks hP hK hD hZ hS hl
  have hl : lv_has ls 3 [(0, .ref (E 4))] := hl
  have S0 : CallFix p m c cX4_doubtByNapkins 3 s args wsX4_doubtByNapkins RX4 := ⟨hx, hb, hml, hown, hts⟩
  have hinX4 : ∀ w ∈ u_ws RX4 TX4 7, w ∈ wsX4_doubtByNapkins := by decide +kernel
  rw [fX4_doubtByNapkins] at hE
  refine z_iconst hx hb dX4_doubtByNapkins_0 ?_
  refine lv_istore_n hx hb dX4_doubtByNapkins_1 rfl hl (Nat.le_of_ble_eq_true rfl) (lv' := [(1, .int (iI (0))), (0, .ref (E 4))]) rfl (fun ls hl => ?_)
  refine z_iconst hx hb dX4_doubtByNapkins_2 ?_
  refine lv_istore_n hx hb dX4_doubtByNapkins_3 rfl hl (Nat.le_of_ble_eq_true rfl) (lv' := [(2, .int (iI (0))), (1, .int (iI (0))), (0, .ref (E 4))]) rfl (fun ls hl => ?_)
  have L1 : ∀ (k1 : Nat) (doubt number : Int) (ls : Array Slot) (H : Heap) (locs : List Loc), lv_has ls 3 [(0, .ref (E 4)), (1, .int (iI doubt)), (2, .int (iI number))] → va_P D vwCl (VC E cI cC M) H → va_D (wA (VC E cI cC M)) (VC E cI cC M) → va_S (wA (VC E cI cC M)) s.heap H locs → (0 ≤ number) → (number ≤ M 7 0) → (M 7 0 - number < (k1 : Int)) → fX4_doubtByNapkins_L1 M k1 doubt number = r → W p l e (zRm 2 42) s m args below meth c H locs 0 0 (MQ below (ciQ D (VC E cI cC) M r M) args s 0 0 (wA (VC E cI cC M))) (F0 m 4 ls []) := by
    intro k1
    induction k1 with
    | zero => intro doubt number ls H locs hl hP hD hS i1 i2 i3 hE; exfalso; omega
    | succ k1 ih1 =>
      intro doubt number ls H locs hl hP hD hS i1 i2 i3 hE
      have q97 := SI_n hQ
      rw [fX4_doubtByNapkins_L1] at hE
      refine lv_iload_n hx hb dX4_doubtByNapkins_4 rfl (lv_at hl 2 rfl) ?_
      refine lv_aload_n hx hb dX4_doubtByNapkins_5 rfl (lv_at hl 0 rfl) ?_
      refine va_get (own := RX4) (ref := "NapkinSyntax$Sentence") (C := RX4) (T := TX4) (N := 7) hx hb hts hinX4 hown hK hP 4 VC_4 rfl 6 (Nat.le_of_ble_eq_true rfl) (hts (.fieldLink RX4 30 "NapkinSyntax$Sentence" "size" "I") (by decide +kernel)) (fun _ h => h) (v := .int (iI (M 7 0))) rfl dX4_doubtByNapkins_6 ?_
      have q1 := SI_n hQ
      refine z_icmp_ge hx hb dX4_doubtByNapkins_9 (tgt := 26) rfl (by omega) (by omega) (fun b2 => ?_) (fun b2 => ?_)
      · rw [if_pos b2] at hE
        refine lv_iload_n hx hb dX4_doubtByNapkins_26 rfl (lv_at hl 1 rfl) ?_
        exact ci_i hx hb hr hlocks hE rfl hS hP dX4_doubtByNapkins_27
      · rw [if_neg b2] at hE
        refine lv_iload_n hx hb dX4_doubtByNapkins_12 rfl (lv_at hl 1 rfl) ?_
        refine lv_aload_n hx hb dX4_doubtByNapkins_13 rfl (lv_at hl 0 rfl) ?_
        refine lv_iload_n hx hb dX4_doubtByNapkins_14 rfl (lv_at hl 2 rfl) ?_
        refine ct_Vi (VC_fix E cI cC) hZo hZb hZ S0 (kX4_stainsAt l D E cI cC Z hZo hZb M number (by omega) hQ (fX4_stainsAt M number) rfl) (cwV 1 hts gX4_doubtByNapkins_X4_stainsAt rfl rfl rfl (by decide +kernel) ⟨(Nat.le_of_ble_eq_true rfl), (Nat.le_of_ble_eq_true rfl)⟩) hK hP hD hS rfl rfl VC_4 rfl hl.1 rfl (Nat.le_of_ble_eq_true rfl) dX4_doubtByNapkins_15 ⟨Nat.zero_le _, Nat.zero_le _⟩ (fun H locs hP hD hS => ?_)
        have q3 := rg_X4_stainsAt hQ number
        refine z_iadd hx hb dX4_doubtByNapkins_18 ?_
        refine lv_istore_n hx hb dX4_doubtByNapkins_19 rfl hl (Nat.le_of_ble_eq_true rfl) (lv' := [(1, .int (iI (doubt + (fX4_stainsAt M number)))), (0, .ref (E 4)), (2, .int (iI number))]) rfl (fun ls hl => ?_)
        refine z_iinc hx hb dX4_doubtByNapkins_20 hl (k := 2) rfl (Nat.le_of_ble_eq_true rfl) (lv' := [(2, .int (iI (number + 1))), (1, .int (iI (doubt + (fX4_stainsAt M number)))), (0, .ref (E 4))]) rfl (fun ls hl => ?_)
        refine lv_goto hx hb dX4_doubtByNapkins_23 (tgt := 4) rfl ?_
        exact ih1 (doubt + (fX4_stainsAt M number)) (number + 1) ls _ _ (lv_sub hl [2, 1, 0] rfl) hP hD hS (by omega) (by omega) (by omega) hE
  exact L1 8 (0) (0) ls _ _ (lv_sub hl [2, 1, 0] rfl) hP hD hS (by omega) (by have := SI_n hQ; omega) (by have := SI_n hQ; omega) hE

def fX4_stainsOfAll_L1 (M : Mem) (fold : Int) : Nat → Int → Int → (Int)
  | 0, _, _ => 0
  | k1 + 1, sum, number => if ((M 7 0) ≤ number) then sum else if ((fX4_foldAt M number) = fold) then fX4_stainsOfAll_L1 M fold k1 (sum + (fX4_stainsAt M number)) (number + 1) else fX4_stainsOfAll_L1 M fold k1 sum (number + 1)
def fX4_stainsOfAll (M : Mem) (fold : Int) : Int := fX4_stainsOfAll_L1 M fold 8 (0) (0)
set_option maxRecDepth 100000 in
set_option maxHeartbeats 4000000 in
theorem kX4_stainsOfAll (l : Launch) (D : va_G) (E : Nat → Nat) (cI cC : ClassId) (Z : State → Prop) (hZo : ∀ M : Mem, ZOk (VC E cI cC M) Z) (hZb : ZBl Z) (M : Mem) (fold : Int) (h1 : -2147483648 ≤ fold ∧ fold < 2147483648) (hQ : SI M) (r : Int) (hE : fX4_stainsOfAll M fold = r) : Ci l yX4_stainsOfAll wsX4_stainsOfAll 2 42 [.ref (E 4), .int (iI fold)] D (TY cI cC) (VC E cI cC) Z M r M := by
  refine Ci.of (cc := cX4_stainsOfAll) (maxL := 4) (ret := (some .int)) (by decide +kernel) rfl (Nat.le_of_ble_eq_true rfl) ?_
  intro p e s m args below meth c ls hx hb hml hr hown hts hlocks hP hK hD hZ hS hl
  have hl : lv_has ls 4 [(0, .ref (E 4)), (1, .int (iI fold))] := hl
  have S0 : CallFix p m c cX4_stainsOfAll 4 s args wsX4_stainsOfAll RX4 := ⟨hx, hb, hml, hown, hts⟩
  have hinX4 : ∀ w ∈ u_ws RX4 TX4 7, w ∈ wsX4_stainsOfAll := by decide +kernel
  rw [fX4_stainsOfAll] at hE
  refine z_iconst hx hb dX4_stainsOfAll_0 ?_
  refine lv_istore_n hx hb dX4_stainsOfAll_1 rfl hl (Nat.le_of_ble_eq_true rfl) (lv' := [(2, .int (iI (0))), (0, .ref (E 4)), (1, .int (iI fold))]) rfl (fun ls hl => ?_)
  refine z_iconst hx hb dX4_stainsOfAll_2 ?_
  refine lv_istore_n hx hb dX4_stainsOfAll_3 rfl hl (Nat.le_of_ble_eq_true rfl) (lv' := [(3, .int (iI (0))), (2, .int (iI (0))), (0, .ref (E 4)), (1, .int (iI fold))]) rfl (fun ls hl => ?_)
  have L1 : ∀ (k1 : Nat) (sum number : Int) (ls : Array Slot) (H : Heap) (locs : List Loc), lv_has ls 4 [(0, .ref (E 4)), (1, .int (iI fold)), (2, .int (iI sum)), (3, .int (iI number))] → va_P D vwCl (VC E cI cC M) H → va_D (wA (VC E cI cC M)) (VC E cI cC M) → va_S (wA (VC E cI cC M)) s.heap H locs → (0 ≤ number) → (number ≤ M 7 0) → (M 7 0 - number < (k1 : Int)) → fX4_stainsOfAll_L1 M fold k1 sum number = r → W p l e (zRm 2 42) s m args below meth c H locs 0 0 (MQ below (ciQ D (VC E cI cC) M r M) args s 0 0 (wA (VC E cI cC M))) (F0 m 4 ls []) := by
    intro k1
    induction k1 with
    | zero => intro sum number ls H locs hl hP hD hS i1 i2 i3 hE; exfalso; omega
    | succ k1 ih1 =>
      intro sum number ls H locs hl hP hD hS i1 i2 i3 hE
      have q97 := SI_n hQ
      rw [fX4_stainsOfAll_L1] at hE
      refine lv_iload_n hx hb dX4_stainsOfAll_4 rfl (lv_at hl 3 rfl) ?_
      refine lv_aload_n hx hb dX4_stainsOfAll_5 rfl (lv_at hl 0 rfl) ?_
      refine va_get (own := RX4) (ref := "NapkinSyntax$Sentence") (C := RX4) (T := TX4) (N := 7) hx hb hts hinX4 hown hK hP 4 VC_4 rfl 6 (Nat.le_of_ble_eq_true rfl) (hts (.fieldLink RX4 30 "NapkinSyntax$Sentence" "size" "I") (by decide +kernel)) (fun _ h => h) (v := .int (iI (M 7 0))) rfl dX4_stainsOfAll_6 ?_
      have q1 := SI_n hQ
      refine z_icmp_ge hx hb dX4_stainsOfAll_9 (tgt := 35) rfl (by omega) (by omega) (fun b2 => ?_) (fun b2 => ?_)
      · rw [if_pos b2] at hE
        refine lv_iload_n hx hb dX4_stainsOfAll_35 rfl (lv_at hl 2 rfl) ?_
        exact ci_i hx hb hr hlocks hE rfl hS hP dX4_stainsOfAll_36
      · rw [if_neg b2] at hE
        refine lv_aload_n hx hb dX4_stainsOfAll_12 rfl (lv_at hl 0 rfl) ?_
        refine lv_iload_n hx hb dX4_stainsOfAll_13 rfl (lv_at hl 3 rfl) ?_
        refine ct_Vi (VC_fix E cI cC) hZo hZb hZ S0 (kX4_foldAt l D E cI cC Z hZo hZb M number (by omega) hQ (fX4_foldAt M number) rfl) (cwV 1 hts gX4_stainsOfAll_X4_foldAt rfl rfl rfl (by decide +kernel) ⟨(Nat.le_of_ble_eq_true rfl), (Nat.le_of_ble_eq_true rfl)⟩) hK hP hD hS rfl rfl VC_4 rfl hl.1 rfl (Nat.le_of_ble_eq_true rfl) dX4_stainsOfAll_14 ⟨Nat.zero_le _, Nat.zero_le _⟩ (fun H locs hP hD hS => ?_)
        have q3 := rg_X4_foldAt hQ number
        refine lv_iload_n hx hb dX4_stainsOfAll_17 rfl (lv_at hl 1 rfl) ?_
        refine z_icmp_ne hx hb dX4_stainsOfAll_18 (tgt := 29) rfl (by omega) (by omega) (fun b4 => ?_) (fun b4 => ?_)
        · rw [if_neg b4] at hE
          refine z_iinc hx hb dX4_stainsOfAll_29 hl (k := 3) rfl (Nat.le_of_ble_eq_true rfl) (lv' := [(3, .int (iI (number + 1))), (0, .ref (E 4)), (1, .int (iI fold)), (2, .int (iI sum))]) rfl (fun ls hl => ?_)
          refine lv_goto hx hb dX4_stainsOfAll_32 (tgt := 4) rfl ?_
          exact ih1 sum (number + 1) ls _ _ (lv_sub hl [1, 2, 3, 0] rfl) hP hD hS (by omega) (by omega) (by omega) hE
        · rw [if_pos b4] at hE
          refine lv_iload_n hx hb dX4_stainsOfAll_21 rfl (lv_at hl 2 rfl) ?_
          refine lv_aload_n hx hb dX4_stainsOfAll_22 rfl (lv_at hl 0 rfl) ?_
          refine lv_iload_n hx hb dX4_stainsOfAll_23 rfl (lv_at hl 3 rfl) ?_
          refine ct_Vi (VC_fix E cI cC) hZo hZb hZ S0 (kX4_stainsAt l D E cI cC Z hZo hZb M number (by omega) hQ (fX4_stainsAt M number) rfl) (cwV 1 hts gX4_stainsOfAll_X4_stainsAt rfl rfl rfl (by decide +kernel) ⟨(Nat.le_of_ble_eq_true rfl), (Nat.le_of_ble_eq_true rfl)⟩) hK hP hD hS rfl rfl VC_4 rfl hl.1 rfl (Nat.le_of_ble_eq_true rfl) dX4_stainsOfAll_24 ⟨Nat.zero_le _, Nat.zero_le _⟩ (fun H locs hP hD hS => ?_)
          have q5 := rg_X4_stainsAt hQ number
          refine z_iadd hx hb dX4_stainsOfAll_27 ?_
          refine lv_istore_n hx hb dX4_stainsOfAll_28 rfl hl (Nat.le_of_ble_eq_true rfl) (lv' := [(2, .int (iI (sum + (fX4_stainsAt M number)))), (0, .ref (E 4)), (1, .int (iI fold)), (3, .int (iI number))]) rfl (fun ls hl => ?_)
          refine z_iinc hx hb dX4_stainsOfAll_29 hl (k := 3) rfl (Nat.le_of_ble_eq_true rfl) (lv' := [(3, .int (iI (number + 1))), (2, .int (iI (sum + (fX4_stainsAt M number)))), (0, .ref (E 4)), (1, .int (iI fold))]) rfl (fun ls hl => ?_)
          refine lv_goto hx hb dX4_stainsOfAll_32 (tgt := 4) rfl ?_
          exact ih1 (sum + (fX4_stainsAt M number)) (number + 1) ls _ _ (lv_sub hl [2, 3, 1, 0] rfl) hP hD hS (by omega) (by omega) (by omega) hE
  exact L1 8 (0) (0) ls _ _ (lv_sub hl [2, 3, 1, 0] rfl) hP hD hS (by omega) (by have := SI_n hQ; omega) (by have := SI_n hQ; omega) hE


theorem rg_X4_stainsOfAll_L {M : Mem} (h : SI M) (f : Int) : ∀ (k : Nat) (d n : Int), 0 ≤ n → n ≤ 6 → 0 ≤ d → d ≤ 9 * n → 0 ≤ fX4_stainsOfAll_L1 M f k d n ∧ fX4_stainsOfAll_L1 M f k d n ≤ 54 := by
  have hz := SI_n h
  intro k
  induction k with
  | zero => intro d n _ _ _ _; exact ⟨(by decide : (0 : Int) ≤ 0), (by decide : (0 : Int) ≤ 54)⟩
  | succ k ih =>
    intro d n h1 h2 h3 h4
    rw [fX4_stainsOfAll_L1]
    have := rg_X4_stainsAt h n
    (repeat' split) <;> first | omega | exact ih _ _ (by omega) (by omega) (by omega) (by omega)
theorem rg_X4_stainsOfAll {M : Mem} (h : SI M) (f : Int) : 0 ≤ fX4_stainsOfAll M f ∧ fX4_stainsOfAll M f ≤ 54 := rg_X4_stainsOfAll_L h f 8 0 0 (by decide) (by decide) (by decide) (by decide)

def fX4_doubtByFolds_L1 (M : Mem) : Nat → Int → Int → (Int)
  | 0, _, _ => 0
  | k1 + 1, doubt, fold => if ((4) < fold) then doubt else fX4_doubtByFolds_L1 M k1 (doubt + (fX4_stainsOfAll M fold)) (fold + 1)
def fX4_doubtByFolds (M : Mem) : Int := fX4_doubtByFolds_L1 M 6 (0) (1)
set_option maxRecDepth 100000 in
set_option maxHeartbeats 4000000 in
theorem kX4_doubtByFolds (l : Launch) (D : va_G) (E : Nat → Nat) (cI cC : ClassId) (Z : State → Prop) (hZo : ∀ M : Mem, ZOk (VC E cI cC M) Z) (hZb : ZBl Z) (M : Mem) (hQ : SI M) (r : Int) (hE : fX4_doubtByFolds M = r) : Ci l yX4_doubtByFolds wsX4_doubtByFolds 3 65 [.ref (E 4)] D (TY cI cC) (VC E cI cC) Z M r M := by
  refine Ci.of (cc := cX4_doubtByFolds) (maxL := 3) (ret := (some .int)) (by decide +kernel) rfl (Nat.le_of_ble_eq_true rfl) ?_
  intro p e s m args below meth c ls hx hb hml hr hown hts hlocks hP hK hD hZ hS hl
  have hl : lv_has ls 3 [(0, .ref (E 4))] := hl
  have S0 : CallFix p m c cX4_doubtByFolds 3 s args wsX4_doubtByFolds RX4 := ⟨hx, hb, hml, hown, hts⟩
  rw [fX4_doubtByFolds] at hE
  refine z_iconst hx hb dX4_doubtByFolds_0 ?_
  refine lv_istore_n hx hb dX4_doubtByFolds_1 rfl hl (Nat.le_of_ble_eq_true rfl) (lv' := [(1, .int (iI (0))), (0, .ref (E 4))]) rfl (fun ls hl => ?_)
  refine z_iconst hx hb dX4_doubtByFolds_2 ?_
  refine lv_istore_n hx hb dX4_doubtByFolds_3 rfl hl (Nat.le_of_ble_eq_true rfl) (lv' := [(2, .int (iI (1))), (1, .int (iI (0))), (0, .ref (E 4))]) rfl (fun ls hl => ?_)
  have L1 : ∀ (k1 : Nat) (doubt fold : Int) (ls : Array Slot) (H : Heap) (locs : List Loc), lv_has ls 3 [(0, .ref (E 4)), (1, .int (iI doubt)), (2, .int (iI fold))] → va_P D vwCl (VC E cI cC M) H → va_D (wA (VC E cI cC M)) (VC E cI cC M) → va_S (wA (VC E cI cC M)) s.heap H locs → (1 ≤ fold ∧ fold ≤ 5) → (5 - fold < (k1 : Int)) → fX4_doubtByFolds_L1 M k1 doubt fold = r → W p l e (zRm 3 65) s m args below meth c H locs 0 0 (MQ below (ciQ D (VC E cI cC) M r M) args s 0 0 (wA (VC E cI cC M))) (F0 m 4 ls []) := by
    intro k1
    induction k1 with
    | zero => intro doubt fold ls H locs hl hP hD hS i1 i3 hE; exfalso; omega
    | succ k1 ih1 =>
      intro doubt fold ls H locs hl hP hD hS i1 i3 hE
      rw [fX4_doubtByFolds_L1] at hE
      refine lv_iload_n hx hb dX4_doubtByFolds_4 rfl (lv_at hl 2 rfl) ?_
      refine z_iconst hx hb dX4_doubtByFolds_5 ?_
      refine z_icmp_gt hx hb dX4_doubtByFolds_6 (tgt := 23) rfl (by omega) (by omega) (fun b1 => ?_) (fun b1 => ?_)
      · rw [if_pos b1] at hE
        refine lv_iload_n hx hb dX4_doubtByFolds_23 rfl (lv_at hl 1 rfl) ?_
        exact ci_i hx hb hr hlocks hE rfl hS hP dX4_doubtByFolds_24
      · rw [if_neg b1] at hE
        refine lv_iload_n hx hb dX4_doubtByFolds_9 rfl (lv_at hl 1 rfl) ?_
        refine lv_aload_n hx hb dX4_doubtByFolds_10 rfl (lv_at hl 0 rfl) ?_
        refine lv_iload_n hx hb dX4_doubtByFolds_11 rfl (lv_at hl 2 rfl) ?_
        refine ct_Vi (VC_fix E cI cC) hZo hZb hZ S0 (kX4_stainsOfAll l D E cI cC Z hZo hZb M fold (by omega) hQ (fX4_stainsOfAll M fold) rfl) (cwV 1 hts gX4_doubtByFolds_X4_stainsOfAll rfl rfl rfl (by decide +kernel) ⟨(Nat.le_of_ble_eq_true rfl), (Nat.le_of_ble_eq_true rfl)⟩) hK hP hD hS rfl rfl VC_4 rfl hl.1 rfl (Nat.le_of_ble_eq_true rfl) dX4_doubtByFolds_12 ⟨Nat.zero_le _, Nat.zero_le _⟩ (fun H locs hP hD hS => ?_)
        have q2 := rg_X4_stainsOfAll hQ fold
        refine z_iadd hx hb dX4_doubtByFolds_15 ?_
        refine lv_istore_n hx hb dX4_doubtByFolds_16 rfl hl (Nat.le_of_ble_eq_true rfl) (lv' := [(1, .int (iI (doubt + (fX4_stainsOfAll M fold)))), (0, .ref (E 4)), (2, .int (iI fold))]) rfl (fun ls hl => ?_)
        refine z_iinc hx hb dX4_doubtByFolds_17 hl (k := 2) rfl (Nat.le_of_ble_eq_true rfl) (lv' := [(2, .int (iI (fold + 1))), (1, .int (iI (doubt + (fX4_stainsOfAll M fold)))), (0, .ref (E 4))]) rfl (fun ls hl => ?_)
        refine lv_goto hx hb dX4_doubtByFolds_20 (tgt := 4) rfl ?_
        exact ih1 (doubt + (fX4_stainsOfAll M fold)) (fold + 1) ls _ _ (lv_sub hl [2, 1, 0] rfl) hP hD hS (by omega) (by omega) hE
  exact L1 6 (0) (1) ls _ _ (lv_sub hl [2, 1, 0] rfl) hP hD hS (by omega) (by omega) hE


theorem rg_X4_doubtByNapkins_L {M : Mem} (h : SI M) : ∀ (k : Nat) (d n : Int), 0 ≤ n → n ≤ 6 → 0 ≤ d → d ≤ 9 * n → 0 ≤ fX4_doubtByNapkins_L1 M k d n ∧ fX4_doubtByNapkins_L1 M k d n ≤ 54 := by
  have hz := SI_n h
  intro k
  induction k with
  | zero => intro d n _ _ _ _; exact ⟨(by decide : (0 : Int) ≤ 0), (by decide : (0 : Int) ≤ 54)⟩
  | succ k ih =>
    intro d n h1 h2 h3 h4
    rw [fX4_doubtByNapkins_L1]
    have := rg_X4_stainsAt h n
    (repeat' split) <;> first | omega | exact ih _ _ (by omega) (by omega) (by omega) (by omega)
theorem rg_X4_doubtByNapkins {M : Mem} (h : SI M) : 0 ≤ fX4_doubtByNapkins M ∧ fX4_doubtByNapkins M ≤ 54 := rg_X4_doubtByNapkins_L h 8 0 0 (by decide) (by decide) (by decide) (by decide)


theorem rg_X4_doubtByFolds_L {M : Mem} (h : SI M) : ∀ (k : Nat) (d n : Int), 1 ≤ n → n ≤ 5 → 0 ≤ d → d ≤ 54 * n → 0 ≤ fX4_doubtByFolds_L1 M k d n ∧ fX4_doubtByFolds_L1 M k d n ≤ 270 := by
  intro k
  induction k with
  | zero => intro d n _ _ _ _; exact ⟨(by decide : (0 : Int) ≤ 0), (by decide : (0 : Int) ≤ 270)⟩
  | succ k ih =>
    intro d n h1 h2 h3 h4
    rw [fX4_doubtByFolds_L1]
    have := rg_X4_stainsOfAll h n
    (repeat' split) <;> first | omega | exact ih _ _ (by omega) (by omega) (by omega) (by omega)
theorem rg_X4_doubtByFolds {M : Mem} (h : SI M) : 0 ≤ fX4_doubtByFolds M ∧ fX4_doubtByFolds M ≤ 270 := rg_X4_doubtByFolds_L h 6 0 1 (by decide) (by decide) (by decide) (by decide)
