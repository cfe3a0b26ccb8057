/-! the class State: reads, first part -/

theorem frite_v {c : Prop} [Decidable c] {a b : Mem} {r : Nat} {x : Int → Int} (h1 : c → a r = x) (h2 : ¬ c → b r = x) : (if c then a else b) r = x := by split; exact h1 (by assumption); exact h2 (by assumption)
theorem frite_w {α : Type} {c : Prop} [Decidable c] {a b : α × Mem} {r : Nat} {x : Int → Int} (h1 : c → a.2 r = x) (h2 : ¬ c → b.2 r = x) : (if c then a else b).2 r = x := by split; exact h1 (by assumption); exact h2 (by assumption)
theorem frite_x {α β : Type} {c : Prop} [Decidable c] {a b : α × β × Mem} {r : Nat} {x : Int → Int} (h1 : c → a.2.2 r = x) (h2 : ¬ c → b.2.2 r = x) : (if c then a else b).2.2 r = x := by split; exact h1 (by assumption); exact h2 (by assumption)
theorem mst_o {M : Mem} {k r : Nat} {z v : Int} (h : Nat.beq r k = false) : mst M k z v r = M r := by unfold mst; rw [h]; rfl
theorem msf_o {M : Mem} {k r : Nat} {v : Int} (h : Nat.beq r k = false) : msf M k v r = M r := by unfold msf; rw [h]; rfl
theorem mcp_o {M : Mem} {k0 k r : Nat} {a b n : Int} (h : Nat.beq r k = false) : mcp M k0 a k b n r = M r := by unfold mcp; rw [h]; rfl


/-- what holds of the class's cells at all times: colours, folds, creases, stains, seats, how many lie on a table, how many napkins -/
def CI (M : Mem) : Prop := (∀ j : Int, 0 ≤ j → j < 10 → 0 ≤ M 0 j ∧ M 0 j ≤ 3) ∧ (∀ j : Int, 10 ≤ j → j < 20 → 0 ≤ M 0 j ∧ M 0 j ≤ 4) ∧ (∀ j : Int, 20 ≤ j → j < 30 → 0 ≤ M 0 j ∧ M 0 j ≤ 12) ∧ (∀ j : Int, 30 ≤ j → j < 40 → 0 ≤ M 0 j ∧ M 0 j ≤ 9) ∧ (∀ j : Int, 50 ≤ j → j < 68 → 0 ≤ M 0 j ∧ M 0 j ≤ 9) ∧ (∀ j : Int, 68 ≤ j → j < 71 → 0 ≤ M 0 j ∧ M 0 j ≤ 6) ∧ (0 ≤ M 0 77 ∧ M 0 77 ≤ 10)
theorem CI_of0 {M N : Mem} (h : N 0 = M 0) (hC : CI M) : CI N := by unfold CI at *; rw [h]; exact hC
theorem CI_77 {M : Mem} (h : CI M) : 0 ≤ M 0 77 ∧ M 0 77 ≤ 10 := h.2.2.2.2.2.2
theorem CI_laid {M : Mem} (h : CI M) (j : Int) (h1 : 68 ≤ j) (h2 : j < 71) : 0 ≤ M 0 j ∧ M 0 j ≤ 6 := h.2.2.2.2.2.1 j h1 h2
theorem CI_seat {M : Mem} (h : CI M) (j : Int) (h1 : 50 ≤ j) (h2 : j < 68) : 0 ≤ M 0 j ∧ M 0 j ≤ 9 := h.2.2.2.2.1 j h1 h2

def fX6_isSeat (table place : Int) : Int := if (table < 0) then (0) else if ((3) ≤ table) then (0) else if (place < 0) then (0) else if ((6) ≤ place) then (0) else (1)
set_option maxRecDepth 100000 in
set_option maxHeartbeats 4000000 in
theorem kX6_isSeat (l : Launch) (D : va_G) (E : Nat → Nat) (cI cC : ClassId) (Z : State → Prop) (hZo : ∀ M : Mem, ZOk (VC E cI cC M) Z) (hZb : ZBl Z) (M : Mem) (table place : Int) (h1 : -2147483648 ≤ table ∧ table < 2147483648) (h2 : -2147483648 ≤ place ∧ place < 2147483648) (r : Int) (hE : fX6_isSeat table place = r) : Ci l yX6_isSeat wsX6_isSeat 0 0 [.int (iI table), .int (iI place)] D (TY cI cC) (VC E cI cC) Z M r M := by
  refine Ci.of (cc := cX6_isSeat) (maxL := 2) (ret := (some .boolean)) (by decide +kernel) rfl (Nat.le_of_ble_eq_true rfl) ?_
  intro p e s m args below meth c ls hx hb hml hr hown hts hlocks hP hK hD hZ hS hl
  have hl : lv_has ls 2 [(0, .int (iI table)), (1, .int (iI place))] := hl
  have S0 : CallFix p m c cX6_isSeat 2 s args wsX6_isSeat RX6 := ⟨hx, hb, hml, hown, hts⟩
  rw [fX6_isSeat] at hE
  refine lv_iload_n hx hb dX6_isSeat_0 rfl (lv_at hl 0 rfl) ?_
  refine z_if_lt hx hb dX6_isSeat_1 (tgt := 23) rfl (by omega) (fun b1 => ?_) (fun b1 => ?_)
  · rw [if_pos b1] at hE
    refine z_iconst hx hb dX6_isSeat_23 ?_
    exact ci_i hx hb hr hlocks hE nr_b0 hS hP dX6_isSeat_24
  · rw [if_neg b1] at hE
    refine lv_iload_n hx hb dX6_isSeat_4 rfl (lv_at hl 0 rfl) ?_
    refine z_iconst hx hb dX6_isSeat_5 ?_
    refine z_icmp_ge hx hb dX6_isSeat_6 (tgt := 23) rfl (by omega) (by omega) (fun b2 => ?_) (fun b2 => ?_)
    · rw [if_pos b2] at hE
      refine z_iconst hx hb dX6_isSeat_23 ?_
      exact ci_i hx hb hr hlocks hE nr_b0 hS hP dX6_isSeat_24
    · rw [if_neg b2] at hE
      refine lv_iload_n hx hb dX6_isSeat_9 rfl (lv_at hl 1 rfl) ?_
      refine z_if_lt hx hb dX6_isSeat_10 (tgt := 23) rfl (by omega) (fun b3 => ?_) (fun b3 => ?_)
      · rw [if_pos b3] at hE
        refine z_iconst hx hb dX6_isSeat_23 ?_
        exact ci_i hx hb hr hlocks hE nr_b0 hS hP dX6_isSeat_24
      · rw [if_neg b3] at hE
        refine lv_iload_n hx hb dX6_isSeat_13 rfl (lv_at hl 1 rfl) ?_
        refine z_bipush hx hb dX6_isSeat_14 (by decide +kernel) ?_
        refine z_icmp_ge hx hb dX6_isSeat_16 (tgt := 23) rfl (by omega) (by omega) (fun b4 => ?_) (fun b4 => ?_)
        · rw [if_pos b4] at hE
          refine z_iconst hx hb dX6_isSeat_23 ?_
          exact ci_i hx hb hr hlocks hE nr_b0 hS hP dX6_isSeat_24
        · rw [if_neg b4] at hE
          refine z_iconst hx hb dX6_isSeat_19 ?_
          refine lv_goto hx hb dX6_isSeat_20 (tgt := 24) rfl ?_
          exact ci_i hx hb hr hlocks hE nr_b1 hS hP dX6_isSeat_24


theorem bX6_isSeat (t p : Int) : 0 ≤ fX6_isSeat t p ∧ fX6_isSeat t p ≤ 1 := by unfold fX6_isSeat; (repeat' split) <;> omega
theorem tX6_isSeat {t p : Int} (h : ¬ fX6_isSeat t p = 0) : 0 ≤ t ∧ t < 3 ∧ 0 ≤ p ∧ p < 6 := by
  unfold fX6_isSeat at h
  (repeat' split at h) <;> omega

def fX6_ofNapkin (M : Mem) (first napkin : Int) : Int := if (napkin < 0) then (0) else if ((10) ≤ napkin) then (0) else (M 0 (first + napkin))
set_option maxRecDepth 100000 in
set_option maxHeartbeats 4000000 in
theorem kX6_ofNapkin (l : Launch) (D : va_G) (E : Nat → Nat) (cI cC : ClassId) (Z : State → Prop) (hZo : ∀ M : Mem, ZOk (VC E cI cC M) Z) (hZb : ZBl Z) (M : Mem) (first napkin : Int) (h1 : -2147483648 ≤ napkin ∧ napkin < 2147483648) (h2 : 0 ≤ first ∧ first ≤ 40) (r : Int) (hE : fX6_ofNapkin M first napkin = r) : Ci l yX6_ofNapkin wsX6_ofNapkin 0 0 [.ref (E 2), .int (iI first), .int (iI napkin)] D (TY cI cC) (VC E cI cC) Z M r M := by
  refine Ci.of (cc := cX6_ofNapkin) (maxL := 3) (ret := (some .int)) (by decide +kernel) rfl (Nat.le_of_ble_eq_true rfl) ?_
  intro p e s m args below meth c ls hx hb hml hr hown hts hlocks hP hK hD hZ hS hl
  have hl : lv_has ls 3 [(0, .ref (E 2)), (1, .int (iI first)), (2, .int (iI napkin))] := hl
  have S0 : CallFix p m c cX6_ofNapkin 3 s args wsX6_ofNapkin RX6 := ⟨hx, hb, hml, hown, hts⟩
  have hinX6 : ∀ w ∈ u_ws RX6 TX6 1, w ∈ wsX6_ofNapkin := by decide +kernel
  rw [fX6_ofNapkin] at hE
  refine lv_iload_n hx hb dX6_ofNapkin_0 rfl (lv_at hl 2 rfl) ?_
  refine z_if_lt hx hb dX6_ofNapkin_1 (tgt := 21) rfl (by omega) (fun b1 => ?_) (fun b1 => ?_)
  · rw [if_pos b1] at hE
    refine z_iconst hx hb dX6_ofNapkin_21 ?_
    exact ci_i hx hb hr hlocks hE rfl hS hP dX6_ofNapkin_22
  · rw [if_neg b1] at hE
    refine lv_iload_n hx hb dX6_ofNapkin_4 rfl (lv_at hl 2 rfl) ?_
    refine z_bipush hx hb dX6_ofNapkin_5 (by decide +kernel) ?_
    refine z_icmp_ge hx hb dX6_ofNapkin_7 (tgt := 21) rfl (by omega) (by omega) (fun b2 => ?_) (fun b2 => ?_)
    · rw [if_pos b2] at hE
      refine z_iconst hx hb dX6_ofNapkin_21 ?_
      exact ci_i hx hb hr hlocks hE rfl hS hP dX6_ofNapkin_22
    · rw [if_neg b2] at hE
      refine lv_aload_n hx hb dX6_ofNapkin_10 rfl (lv_at hl 0 rfl) ?_
      refine va_get (own := RX6) (ref := "NapkinSyntax$State") (C := RX6) (T := TX6) (N := 1) hx hb hts hinX6 hown hK hP 2 VC_2 rfl 0 (Nat.le_of_ble_eq_true rfl) (hts (.fieldLink RX6 11 "NapkinSyntax$State" "cells" "[I") (by decide +kernel)) (fun _ h => h) (v := .ref (E 3)) rfl dX6_ofNapkin_11 ?_
      refine lv_iload_n hx hb dX6_ofNapkin_14 rfl (lv_at hl 1 rfl) ?_
      refine lv_iload_n hx hb dX6_ofNapkin_15 rfl (lv_at hl 2 rfl) ?_
      refine z_iadd hx hb dX6_ofNapkin_16 ?_
      refine z_iald hx hb hK hP 3 0 VC_3 rfl (by omega) (by omega) (by decide) dX6_ofNapkin_17 ?_
      refine lv_goto hx hb dX6_ofNapkin_18 (tgt := 22) rfl ?_
      exact ci_i hx hb hr hlocks hE rfl hS hP dX6_ofNapkin_22

def fX6_setOfNapkin (M : Mem) (first napkin number : Int) : Mem := if (napkin < 0) then M else if ((10) ≤ napkin) then M else (mst M 0 (first + napkin) number)
set_option maxRecDepth 100000 in
set_option maxHeartbeats 4000000 in
theorem kX6_setOfNapkin (l : Launch) (D : va_G) (E : Nat → Nat) (cI cC : ClassId) (Z : State → Prop) (hZo : ∀ M : Mem, ZOk (VC E cI cC M) Z) (hZb : ZBl Z) (M : Mem) (first napkin number : Int) (h1 : -2147483648 ≤ napkin ∧ napkin < 2147483648) (h2 : 0 ≤ first ∧ first ≤ 40) (M' : Mem) (hE : fX6_setOfNapkin M first napkin number = M') : Cv l yX6_setOfNapkin wsX6_setOfNapkin 0 0 [.ref (E 2), .int (iI first), .int (iI napkin), .int (iI number)] D (TY cI cC) (VC E cI cC) Z M M' := by
  refine Cv.of (cc := cX6_setOfNapkin) (maxL := 4) (ret := none) (by decide +kernel) rfl (Nat.le_of_ble_eq_true rfl) ?_
  intro p e s m args below meth c ls hx hb hml hr hown hts hlocks hP hK hD hZ hS hl
  have hl : lv_has ls 4 [(0, .ref (E 2)), (1, .int (iI first)), (2, .int (iI napkin)), (3, .int (iI number))] := hl
  have S0 : CallFix p m c cX6_setOfNapkin 4 s args wsX6_setOfNapkin RX6 := ⟨hx, hb, hml, hown, hts⟩
  have hinX6 : ∀ w ∈ u_ws RX6 TX6 1, w ∈ wsX6_setOfNapkin := by decide +kernel
  rw [fX6_setOfNapkin] at hE
  refine lv_iload_n hx hb dX6_setOfNapkin_0 rfl (lv_at hl 2 rfl) ?_
  refine z_if_lt hx hb dX6_setOfNapkin_1 (tgt := 19) rfl (by omega) (fun b1 => ?_) (fun b1 => ?_)
  · rw [if_pos b1] at hE
    subst hE
    exact cv_v hx hb hr hlocks hS hP dX6_setOfNapkin_19
  · rw [if_neg b1] at hE
    refine lv_iload_n hx hb dX6_setOfNapkin_4 rfl (lv_at hl 2 rfl) ?_
    refine z_bipush hx hb dX6_setOfNapkin_5 (by decide +kernel) ?_
    refine z_icmp_ge hx hb dX6_setOfNapkin_7 (tgt := 19) rfl (by omega) (by omega) (fun b2 => ?_) (fun b2 => ?_)
    · rw [if_pos b2] at hE
      subst hE
      exact cv_v hx hb hr hlocks hS hP dX6_setOfNapkin_19
    · rw [if_neg b2] at hE
      refine lv_aload_n hx hb dX6_setOfNapkin_10 rfl (lv_at hl 0 rfl) ?_
      refine va_get (own := RX6) (ref := "NapkinSyntax$State") (C := RX6) (T := TX6) (N := 1) hx hb hts hinX6 hown hK hP 2 VC_2 rfl 0 (Nat.le_of_ble_eq_true rfl) (hts (.fieldLink RX6 11 "NapkinSyntax$State" "cells" "[I") (by decide +kernel)) (fun _ h => h) (v := .ref (E 3)) rfl dX6_setOfNapkin_11 ?_
      refine lv_iload_n hx hb dX6_setOfNapkin_14 rfl (lv_at hl 1 rfl) ?_
      refine lv_iload_n hx hb dX6_setOfNapkin_15 rfl (lv_at hl 2 rfl) ?_
      refine z_iadd hx hb dX6_setOfNapkin_16 ?_
      refine lv_iload_n hx hb dX6_setOfNapkin_17 rfl (lv_at hl 3 rfl) ?_
      refine z_iast hx hb hK hP hD hS 3 0 VC_3 rfl (by omega) (by omega) (by decide) dX6_setOfNapkin_18 VCw_0 (fun H locs hP hD hS => ?_)
      subst hE
      exact cv_v hx hb hr hlocks hS hP dX6_setOfNapkin_19

theorem fr_fX6_setOfNapkin {M : Mem} (first napkin number : Int) {r : Nat} (h0 : Nat.beq r 0 = false) : (fX6_setOfNapkin M first napkin number) r = M r := by
  unfold fX6_setOfNapkin
  (repeat' with_reducible refine frite_v (fun _ => ?_) (fun _ => ?_)) <;> first | with_reducible rfl | simp only [mst_o, msf_o, mcp_o, h0]

def fX6_ofTable (M : Mem) (first table : Int) : Int := if (table < 0) then (0) else if ((3) ≤ table) then (0) else (M 0 (first + table))
set_option maxRecDepth 100000 in
set_option maxHeartbeats 4000000 in
theorem kX6_ofTable (l : Launch) (D : va_G) (E : Nat → Nat) (cI cC : ClassId) (Z : State → Prop) (hZo : ∀ M : Mem, ZOk (VC E cI cC M) Z) (hZb : ZBl Z) (M : Mem) (first table : Int) (h1 : -2147483648 ≤ table ∧ table < 2147483648) (h2 : 68 ≤ first ∧ first ≤ 74) (r : Int) (hE : fX6_ofTable M first table = r) : Ci l yX6_ofTable wsX6_ofTable 0 0 [.ref (E 2), .int (iI first), .int (iI table)] D (TY cI cC) (VC E cI cC) Z M r M := by
  refine Ci.of (cc := cX6_ofTable) (maxL := 3) (ret := (some .int)) (by decide +kernel) rfl (Nat.le_of_ble_eq_true rfl) ?_
  intro p e s m args below meth c ls hx hb hml hr hown hts hlocks hP hK hD hZ hS hl
  have hl : lv_has ls 3 [(0, .ref (E 2)), (1, .int (iI first)), (2, .int (iI table))] := hl
  have S0 : CallFix p m c cX6_ofTable 3 s args wsX6_ofTable RX6 := ⟨hx, hb, hml, hown, hts⟩
  have hinX6 : ∀ w ∈ u_ws RX6 TX6 1, w ∈ wsX6_ofTable := by decide +kernel
  rw [fX6_ofTable] at hE
  refine lv_iload_n hx hb dX6_ofTable_0 rfl (lv_at hl 2 rfl) ?_
  refine z_if_lt hx hb dX6_ofTable_1 (tgt := 20) rfl (by omega) (fun b1 => ?_) (fun b1 => ?_)
  · rw [if_pos b1] at hE
    refine z_iconst hx hb dX6_ofTable_20 ?_
    exact ci_i hx hb hr hlocks hE rfl hS hP dX6_ofTable_21
  · rw [if_neg b1] at hE
    refine lv_iload_n hx hb dX6_ofTable_4 rfl (lv_at hl 2 rfl) ?_
    refine z_iconst hx hb dX6_ofTable_5 ?_
    refine z_icmp_ge hx hb dX6_ofTable_6 (tgt := 20) rfl (by omega) (by omega) (fun b2 => ?_) (fun b2 => ?_)
    · rw [if_pos b2] at hE
      refine z_iconst hx hb dX6_ofTable_20 ?_
      exact ci_i hx hb hr hlocks hE rfl hS hP dX6_ofTable_21
    · rw [if_neg b2] at hE
      refine lv_aload_n hx hb dX6_ofTable_9 rfl (lv_at hl 0 rfl) ?_
      refine va_get (own := RX6) (ref := "NapkinSyntax$State") (C := RX6) (T := TX6) (N := 1) hx hb hts hinX6 hown hK hP 2 VC_2 rfl 0 (Nat.le_of_ble_eq_true rfl) (hts (.fieldLink RX6 11 "NapkinSyntax$State" "cells" "[I") (by decide +kernel)) (fun _ h => h) (v := .ref (E 3)) rfl dX6_ofTable_10 ?_
      refine lv_iload_n hx hb dX6_ofTable_13 rfl (lv_at hl 1 rfl) ?_
      refine lv_iload_n hx hb dX6_ofTable_14 rfl (lv_at hl 2 rfl) ?_
      refine z_iadd hx hb dX6_ofTable_15 ?_
      refine z_iald hx hb hK hP 3 0 VC_3 rfl (by omega) (by omega) (by decide) dX6_ofTable_16 ?_
      refine lv_goto hx hb dX6_ofTable_17 (tgt := 21) rfl ?_
      exact ci_i hx hb hr hlocks hE rfl hS hP dX6_ofTable_21

def fX6_setOfTable (M : Mem) (first table number : Int) : Mem := if (table < 0) then M else if ((3) ≤ table) then M else (mst M 0 (first + table) number)
set_option maxRecDepth 100000 in
set_option maxHeartbeats 4000000 in
theorem kX6_setOfTable (l : Launch) (D : va_G) (E : Nat → Nat) (cI cC : ClassId) (Z : State → Prop) (hZo : ∀ M : Mem, ZOk (VC E cI cC M) Z) (hZb : ZBl Z) (M : Mem) (first table number : Int) (h1 : -2147483648 ≤ table ∧ table < 2147483648) (h2 : 68 ≤ first ∧ first ≤ 74) (M' : Mem) (hE : fX6_setOfTable M first table number = M') : Cv l yX6_setOfTable wsX6_setOfTable 0 0 [.ref (E 2), .int (iI first), .int (iI table), .int (iI number)] D (TY cI cC) (VC E cI cC) Z M M' := by
  refine Cv.of (cc := cX6_setOfTable) (maxL := 4) (ret := none) (by decide +kernel) rfl (Nat.le_of_ble_eq_true rfl) ?_
  intro p e s m args below meth c ls hx hb hml hr hown hts hlocks hP hK hD hZ hS hl
  have hl : lv_has ls 4 [(0, .ref (E 2)), (1, .int (iI first)), (2, .int (iI table)), (3, .int (iI number))] := hl
  have S0 : CallFix p m c cX6_setOfTable 4 s args wsX6_setOfTable RX6 := ⟨hx, hb, hml, hown, hts⟩
  have hinX6 : ∀ w ∈ u_ws RX6 TX6 1, w ∈ wsX6_setOfTable := by decide +kernel
  rw [fX6_setOfTable] at hE
  refine lv_iload_n hx hb dX6_setOfTable_0 rfl (lv_at hl 2 rfl) ?_
  refine z_if_lt hx hb dX6_setOfTable_1 (tgt := 18) rfl (by omega) (fun b1 => ?_) (fun b1 => ?_)
  · rw [if_pos b1] at hE
    subst hE
    exact cv_v hx hb hr hlocks hS hP dX6_setOfTable_18
  · rw [if_neg b1] at hE
    refine lv_iload_n hx hb dX6_setOfTable_4 rfl (lv_at hl 2 rfl) ?_
    refine z_iconst hx hb dX6_setOfTable_5 ?_
    refine z_icmp_ge hx hb dX6_setOfTable_6 (tgt := 18) rfl (by omega) (by omega) (fun b2 => ?_) (fun b2 => ?_)
    · rw [if_pos b2] at hE
      subst hE
      exact cv_v hx hb hr hlocks hS hP dX6_setOfTable_18
    · rw [if_neg b2] at hE
      refine lv_aload_n hx hb dX6_setOfTable_9 rfl (lv_at hl 0 rfl) ?_
      refine va_get (own := RX6) (ref := "NapkinSyntax$State") (C := RX6) (T := TX6) (N := 1) hx hb hts hinX6 hown hK hP 2 VC_2 rfl 0 (Nat.le_of_ble_eq_true rfl) (hts (.fieldLink RX6 11 "NapkinSyntax$State" "cells" "[I") (by decide +kernel)) (fun _ h => h) (v := .ref (E 3)) rfl dX6_setOfTable_10 ?_
      refine lv_iload_n hx hb dX6_setOfTable_13 rfl (lv_at hl 1 rfl) ?_
      refine lv_iload_n hx hb dX6_setOfTable_14 rfl (lv_at hl 2 rfl) ?_
      refine z_iadd hx hb dX6_setOfTable_15 ?_
      refine lv_iload_n hx hb dX6_setOfTable_16 rfl (lv_at hl 3 rfl) ?_
      refine z_iast hx hb hK hP hD hS 3 0 VC_3 rfl (by omega) (by omega) (by decide) dX6_setOfTable_17 VCw_0 (fun H locs hP hD hS => ?_)
      subst hE
      exact cv_v hx hb hr hlocks hS hP dX6_setOfTable_18

theorem fr_fX6_setOfTable {M : Mem} (first table number : Int) {r : Nat} (h0 : Nat.beq r 0 = false) : (fX6_setOfTable M first table number) r = M r := by
  unfold fX6_setOfTable
  (repeat' with_reducible refine frite_v (fun _ => ?_) (fun _ => ?_)) <;> first | with_reducible rfl | simp only [mst_o, msf_o, mcp_o, h0]

def fX6_setSeat (M : Mem) (table place napkin : Int) : Mem := if ((fX6_isSeat table place) = 0) then M else (mst M 0 (((50) + (table * (6))) + place) napkin)
set_option maxRecDepth 100000 in
set_option maxHeartbeats 4000000 in
theorem kX6_setSeat (l : Launch) (D : va_G) (E : Nat → Nat) (cI cC : ClassId) (Z : State → Prop) (hZo : ∀ M : Mem, ZOk (VC E cI cC M) Z) (hZb : ZBl Z) (M : Mem) (table place napkin : Int) (h1 : -2147483648 ≤ table ∧ table < 2147483648) (h2 : -2147483648 ≤ place ∧ place < 2147483648) (M' : Mem) (hE : fX6_setSeat M table place napkin = M') : Cv l yX6_setSeat wsX6_setSeat 1 21 [.ref (E 2), .int (iI table), .int (iI place), .int (iI napkin)] D (TY cI cC) (VC E cI cC) Z M M' := by
  refine Cv.of (cc := cX6_setSeat) (maxL := 4) (ret := none) (by decide +kernel) rfl (Nat.le_of_ble_eq_true rfl) ?_
  intro p e s m args below meth c ls hx hb hml hr hown hts hlocks hP hK hD hZ hS hl
  have hl : lv_has ls 4 [(0, .ref (E 2)), (1, .int (iI table)), (2, .int (iI place)), (3, .int (iI napkin))] := hl
  have S0 : CallFix p m c cX6_setSeat 4 s args wsX6_setSeat RX6 := ⟨hx, hb, hml, hown, hts⟩
  have hinX6 : ∀ w ∈ u_ws RX6 TX6 1, w ∈ wsX6_setSeat := by decide +kernel
  rw [fX6_setSeat] at hE
  refine lv_iload_n hx hb dX6_setSeat_0 rfl (lv_at hl 1 rfl) ?_
  refine lv_iload_n hx hb dX6_setSeat_1 rfl (lv_at hl 2 rfl) ?_
  refine ct_Si (VC_fix E cI cC) hZo hZb hZ S0 (kX6_isSeat l D E cI cC Z hZo hZb M table place (by omega) (by omega) (fX6_isSeat table place) rfl) (va_cwS 2 hts gX6_setSeat_X6_isSeat rfl rfl rfl (by decide +kernel) ⟨(Nat.le_of_ble_eq_true rfl), (Nat.le_of_ble_eq_true rfl)⟩) hK hP hD hS rfl hl.1 rfl (Nat.le_of_ble_eq_true rfl) dX6_setSeat_2 ⟨Nat.zero_le _, Nat.zero_le _⟩ (fun H locs hP hD hS => ?_)
  have q1 := bX6_isSeat table place
  refine z_if_eq hx hb dX6_setSeat_5 (tgt := 23) rfl (by omega) (fun b2 => ?_) (fun b2 => ?_)
  · rw [if_pos b2] at hE
    subst hE
    exact cv_v hx hb hr hlocks hS hP dX6_setSeat_23
  · rw [if_neg b2] at hE
    refine lv_aload_n hx hb dX6_setSeat_8 rfl (lv_at hl 0 rfl) ?_
    refine va_get (own := RX6) (ref := "NapkinSyntax$State") (C := RX6) (T := TX6) (N := 1) hx hb hts hinX6 hown hK hP 2 VC_2 rfl 0 (Nat.le_of_ble_eq_true rfl) (hts (.fieldLink RX6 11 "NapkinSyntax$State" "cells" "[I") (by decide +kernel)) (fun _ h => h) (v := .ref (E 3)) rfl dX6_setSeat_9 ?_
    refine z_bipush hx hb dX6_setSeat_12 (by decide +kernel) ?_
    refine lv_iload_n hx hb dX6_setSeat_14 rfl (lv_at hl 1 rfl) ?_
    refine z_bipush hx hb dX6_setSeat_15 (by decide +kernel) ?_
    refine z_imul hx hb dX6_setSeat_17 ?_
    refine z_iadd hx hb dX6_setSeat_18 ?_
    refine lv_iload_n hx hb dX6_setSeat_19 rfl (lv_at hl 2 rfl) ?_
    refine z_iadd hx hb dX6_setSeat_20 ?_
    refine lv_iload_n hx hb dX6_setSeat_21 rfl (lv_at hl 3 rfl) ?_
    have q99 := tX6_isSeat (by assumption : ¬ fX6_isSeat table place = 0)
    refine z_iast hx hb hK hP hD hS 3 0 VC_3 rfl (by omega) (by omega) (by decide) dX6_setSeat_22 VCw_0 (fun H locs hP hD hS => ?_)
    subst hE
    exact cv_v hx hb hr hlocks hS hP dX6_setSeat_23

theorem fr_fX6_setSeat {M : Mem} (table place napkin : Int) {r : Nat} (h0 : Nat.beq r 0 = false) : (fX6_setSeat M table place napkin) r = M r := by
  unfold fX6_setSeat
  (repeat' with_reducible refine frite_v (fun _ => ?_) (fun _ => ?_)) <;> first | with_reducible rfl | simp only [mst_o, msf_o, mcp_o, h0]

def fX6_seatedAt (M : Mem) (table place : Int) : Int := if ((fX6_isSeat table place) = 0) then (-1) else (M 0 (((50) + (table * (6))) + place))
set_option maxRecDepth 100000 in
set_option maxHeartbeats 4000000 in
theorem kX6_seatedAt (l : Launch) (D : va_G) (E : Nat → Nat) (cI cC : ClassId) (Z : State → Prop) (hZo : ∀ M : Mem, ZOk (VC E cI cC M) Z) (hZb : ZBl Z) (M : Mem) (table place : Int) (h1 : -2147483648 ≤ table ∧ table < 2147483648) (h2 : -2147483648 ≤ place ∧ place < 2147483648) (r : Int) (hE : fX6_seatedAt M table place = r) : Ci l yX6_seatedAt wsX6_seatedAt 1 21 [.ref (E 2), .int (iI table), .int (iI place)] D (TY cI cC) (VC E cI cC) Z M r M := by
  refine Ci.of (cc := cX6_seatedAt) (maxL := 3) (ret := (some .int)) (by decide +kernel) rfl (Nat.le_of_ble_eq_true rfl) ?_
  intro p e s m args below meth c ls hx hb hml hr hown hts hlocks hP hK hD hZ hS hl
  have hl : lv_has ls 3 [(0, .ref (E 2)), (1, .int (iI table)), (2, .int (iI place))] := hl
  have S0 : CallFix p m c cX6_seatedAt 3 s args wsX6_seatedAt RX6 := ⟨hx, hb, hml, hown, hts⟩
  have hinX6 : ∀ w ∈ u_ws RX6 TX6 1, w ∈ wsX6_seatedAt := by decide +kernel
  rw [fX6_seatedAt] at hE
  refine lv_iload_n hx hb dX6_seatedAt_0 rfl (lv_at hl 1 rfl) ?_
  refine lv_iload_n hx hb dX6_seatedAt_1 rfl (lv_at hl 2 rfl) ?_
  refine ct_Si (VC_fix E cI cC) hZo hZb hZ S0 (kX6_isSeat l D E cI cC Z hZo hZb M table place (by omega) (by omega) (fX6_isSeat table place) rfl) (va_cwS 2 hts gX6_seatedAt_X6_isSeat rfl rfl rfl (by decide +kernel) ⟨(Nat.le_of_ble_eq_true rfl), (Nat.le_of_ble_eq_true rfl)⟩) hK hP hD hS rfl hl.1 rfl (Nat.le_of_ble_eq_true rfl) dX6_seatedAt_2 ⟨Nat.zero_le _, Nat.zero_le _⟩ (fun H locs hP hD hS => ?_)
  have q1 := bX6_isSeat table place
  refine z_if_eq hx hb dX6_seatedAt_5 (tgt := 25) rfl (by omega) (fun b2 => ?_) (fun b2 => ?_)
  · rw [if_pos b2] at hE
    refine z_iconst hx hb dX6_seatedAt_25 ?_
    exact ci_i hx hb hr hlocks hE rfl hS hP dX6_seatedAt_26
  · rw [if_neg b2] at hE
    refine lv_aload_n hx hb dX6_seatedAt_8 rfl (lv_at hl 0 rfl) ?_
    refine va_get (own := RX6) (ref := "NapkinSyntax$State") (C := RX6) (T := TX6) (N := 1) hx hb hts hinX6 hown hK hP 2 VC_2 rfl 0 (Nat.le_of_ble_eq_true rfl) (hts (.fieldLink RX6 11 "NapkinSyntax$State" "cells" "[I") (by decide +kernel)) (fun _ h => h) (v := .ref (E 3)) rfl dX6_seatedAt_9 ?_
    refine z_bipush hx hb dX6_seatedAt_12 (by decide +kernel) ?_
    refine lv_iload_n hx hb dX6_seatedAt_14 rfl (lv_at hl 1 rfl) ?_
    refine z_bipush hx hb dX6_seatedAt_15 (by decide +kernel) ?_
    refine z_imul hx hb dX6_seatedAt_17 ?_
    refine z_iadd hx hb dX6_seatedAt_18 ?_
    refine lv_iload_n hx hb dX6_seatedAt_19 rfl (lv_at hl 2 rfl) ?_
    refine z_iadd hx hb dX6_seatedAt_20 ?_
    have q99 := tX6_isSeat (by assumption : ¬ fX6_isSeat table place = 0)
    refine z_iald hx hb hK hP 3 0 VC_3 rfl (by omega) (by omega) (by decide) dX6_seatedAt_21 ?_
    refine lv_goto hx hb dX6_seatedAt_22 (tgt := 26) rfl ?_
    exact ci_i hx hb hr hlocks hE rfl hS hP dX6_seatedAt_26


theorem rg_X6_seatedAt {M : Mem} (h : CI M) (t p : Int) : -1 ≤ fX6_seatedAt M t p ∧ fX6_seatedAt M t p ≤ 9 := by
  unfold fX6_seatedAt
  split
  · omega
  · rename_i h2
    have := tX6_isSeat h2
    have := CI_seat h (50 + t * 6 + p) (by omega) (by omega)
    omega

def fX6_napkins (M : Mem) : Int := (M 0 (77))
set_option maxRecDepth 100000 in
set_option maxHeartbeats 4000000 in
theorem kX6_napkins (l : Launch) (D : va_G) (E : Nat → Nat) (cI cC : ClassId) (Z : State → Prop) (hZo : ∀ M : Mem, ZOk (VC E cI cC M) Z) (hZb : ZBl Z) (M : Mem)  (r : Int) (hE : fX6_napkins M = r) : Ci l yX6_napkins wsX6_napkins 0 0 [.ref (E 2)] D (TY cI cC) (VC E cI cC) Z M r M := by
  refine Ci.of (cc := cX6_napkins) (maxL := 1) (ret := (some .int)) (by decide +kernel) rfl (Nat.le_of_ble_eq_true rfl) ?_
  intro p e s m args below meth c ls hx hb hml hr hown hts hlocks hP hK hD hZ hS hl
  have hl : lv_has ls 1 [(0, .ref (E 2))] := hl
  have S0 : CallFix p m c cX6_napkins 1 s args wsX6_napkins RX6 := ⟨hx, hb, hml, hown, hts⟩
  have hinX6 : ∀ w ∈ u_ws RX6 TX6 1, w ∈ wsX6_napkins := by decide +kernel
  rw [fX6_napkins] at hE
  refine lv_aload_n hx hb dX6_napkins_0 rfl (lv_at hl 0 rfl) ?_
  refine va_get (own := RX6) (ref := "NapkinSyntax$State") (C := RX6) (T := TX6) (N := 1) hx hb hts hinX6 hown hK hP 2 VC_2 rfl 0 (Nat.le_of_ble_eq_true rfl) (hts (.fieldLink RX6 11 "NapkinSyntax$State" "cells" "[I") (by decide +kernel)) (fun _ h => h) (v := .ref (E 3)) rfl dX6_napkins_1 ?_
  refine z_bipush hx hb dX6_napkins_4 (by decide +kernel) ?_
  refine z_iald hx hb hK hP 3 0 VC_3 rfl (by omega) (by omega) (by decide) dX6_napkins_6 ?_
  exact ci_i hx hb hr hlocks hE rfl hS hP dX6_napkins_7

def fX6_understood (M : Mem) : Int := (M 0 (78))
set_option maxRecDepth 100000 in
set_option maxHeartbeats 4000000 in
theorem kX6_understood (l : Launch) (D : va_G) (E : Nat → Nat) (cI cC : ClassId) (Z : State → Prop) (hZo : ∀ M : Mem, ZOk (VC E cI cC M) Z) (hZb : ZBl Z) (M : Mem)  (r : Int) (hE : fX6_understood M = r) : Ci l yX6_understood wsX6_understood 0 0 [.ref (E 2)] D (TY cI cC) (VC E cI cC) Z M r M := by
  refine Ci.of (cc := cX6_understood) (maxL := 1) (ret := (some .int)) (by decide +kernel) rfl (Nat.le_of_ble_eq_true rfl) ?_
  intro p e s m args below meth c ls hx hb hml hr hown hts hlocks hP hK hD hZ hS hl
  have hl : lv_has ls 1 [(0, .ref (E 2))] := hl
  have S0 : CallFix p m c cX6_understood 1 s args wsX6_understood RX6 := ⟨hx, hb, hml, hown, hts⟩
  have hinX6 : ∀ w ∈ u_ws RX6 TX6 1, w ∈ wsX6_understood := by decide +kernel
  rw [fX6_understood] at hE
  refine lv_aload_n hx hb dX6_understood_0 rfl (lv_at hl 0 rfl) ?_
  refine va_get (own := RX6) (ref := "NapkinSyntax$State") (C := RX6) (T := TX6) (N := 1) hx hb hts hinX6 hown hK hP 2 VC_2 rfl 0 (Nat.le_of_ble_eq_true rfl) (hts (.fieldLink RX6 11 "NapkinSyntax$State" "cells" "[I") (by decide +kernel)) (fun _ h => h) (v := .ref (E 3)) rfl dX6_understood_1 ?_
  refine z_bipush hx hb dX6_understood_4 (by decide +kernel) ?_
  refine z_iald hx hb hK hP 3 0 VC_3 rfl (by omega) (by omega) (by decide) dX6_understood_6 ?_
  exact ci_i hx hb hr hlocks hE rfl hS hP dX6_understood_7

def fX6_washedAway (M : Mem) : Int := (M 0 (79))
set_option maxRecDepth 100000 in
set_option maxHeartbeats 4000000 in
theorem kX6_washedAway (l : Launch) (D : va_G) (E : Nat → Nat) (cI cC : ClassId) (Z : State → Prop) (hZo : ∀ M : Mem, ZOk (VC E cI cC M) Z) (hZb : ZBl Z) (M : Mem)  (r : Int) (hE : fX6_washedAway M = r) : Ci l yX6_washedAway wsX6_washedAway 0 0 [.ref (E 2)] D (TY cI cC) (VC E cI cC) Z M r M := by
  refine Ci.of (cc := cX6_washedAway) (maxL := 1) (ret := (some .int)) (by decide +kernel) rfl (Nat.le_of_ble_eq_true rfl) ?_
  intro p e s m args below meth c ls hx hb hml hr hown hts hlocks hP hK hD hZ hS hl
  have hl : lv_has ls 1 [(0, .ref (E 2))] := hl
  have S0 : CallFix p m c cX6_washedAway 1 s args wsX6_washedAway RX6 := ⟨hx, hb, hml, hown, hts⟩
  have hinX6 : ∀ w ∈ u_ws RX6 TX6 1, w ∈ wsX6_washedAway := by decide +kernel
  rw [fX6_washedAway] at hE
  refine lv_aload_n hx hb dX6_washedAway_0 rfl (lv_at hl 0 rfl) ?_
  refine va_get (own := RX6) (ref := "NapkinSyntax$State") (C := RX6) (T := TX6) (N := 1) hx hb hts hinX6 hown hK hP 2 VC_2 rfl 0 (Nat.le_of_ble_eq_true rfl) (hts (.fieldLink RX6 11 "NapkinSyntax$State" "cells" "[I") (by decide +kernel)) (fun _ h => h) (v := .ref (E 3)) rfl dX6_washedAway_1 ?_
  refine z_bipush hx hb dX6_washedAway_4 (by decide +kernel) ?_
  refine z_iald hx hb hK hP 3 0 VC_3 rfl (by omega) (by omega) (by decide) dX6_washedAway_6 ?_
  exact ci_i hx hb hr hlocks hE rfl hS hP dX6_washedAway_7

def fX6_hasNapkin (M : Mem) (napkin : Int) : Int := if (napkin < 0) then (0) else if ((M 0 (77)) ≤ napkin) then (0) else (1)
set_option maxRecDepth 100000 in
set_option maxHeartbeats 4000000 in
theorem kX6_hasNapkin (l : Launch) (D : va_G) (E : Nat → Nat) (cI cC : ClassId) (Z : State → Prop) (hZo : ∀ M : Mem, ZOk (VC E cI cC M) Z) (hZb : ZBl Z) (M : Mem) (napkin : Int) (h1 : -2147483648 ≤ napkin ∧ napkin < 2147483648) (hC : CI M) (r : Int) (hE : fX6_hasNapkin M napkin = r) : Ci l yX6_hasNapkin wsX6_hasNapkin 0 0 [.ref (E 2), .int (iI napkin)] D (TY cI cC) (VC E cI cC) Z M r M := by
  refine Ci.of (cc := cX6_hasNapkin) (maxL := 2) (ret := (some .boolean)) (by decide +kernel) rfl (Nat.le_of_ble_eq_true rfl) ?_
  intro p e s m args below meth c ls hx hb hml hr hown hts hlocks hP hK hD hZ hS hl
  have hl : lv_has ls 2 [(0, .ref (E 2)), (1, .int (iI napkin))] := hl
  have S0 : CallFix p m c cX6_hasNapkin 2 s args wsX6_hasNapkin RX6 := ⟨hx, hb, hml, hown, hts⟩
  have hinX6 : ∀ w ∈ u_ws RX6 TX6 1, w ∈ wsX6_hasNapkin := by decide +kernel
  rw [fX6_hasNapkin] at hE
  refine lv_iload_n hx hb dX6_hasNapkin_0 rfl (lv_at hl 1 rfl) ?_
  refine z_if_lt hx hb dX6_hasNapkin_1 (tgt := 19) rfl (by omega) (fun b1 => ?_) (fun b1 => ?_)
  · rw [if_pos b1] at hE
    refine z_iconst hx hb dX6_hasNapkin_19 ?_
    exact ci_i hx hb hr hlocks hE nr_b0 hS hP dX6_hasNapkin_20
  · rw [if_neg b1] at hE
    refine lv_iload_n hx hb dX6_hasNapkin_4 rfl (lv_at hl 1 rfl) ?_
    refine lv_aload_n hx hb dX6_hasNapkin_5 rfl (lv_at hl 0 rfl) ?_
    refine va_get (own := RX6) (ref := "NapkinSyntax$State") (C := RX6) (T := TX6) (N := 1) hx hb hts hinX6 hown hK hP 2 VC_2 rfl 0 (Nat.le_of_ble_eq_true rfl) (hts (.fieldLink RX6 11 "NapkinSyntax$State" "cells" "[I") (by decide +kernel)) (fun _ h => h) (v := .ref (E 3)) rfl dX6_hasNapkin_6 ?_
    refine z_bipush hx hb dX6_hasNapkin_9 (by decide +kernel) ?_
    refine z_iald hx hb hK hP 3 0 VC_3 rfl (by omega) (by omega) (by decide) dX6_hasNapkin_11 ?_
    have q2 := CI_77 hC
    refine z_icmp_ge hx hb dX6_hasNapkin_12 (tgt := 19) rfl (by omega) (by omega) (fun b3 => ?_) (fun b3 => ?_)
    · rw [if_pos b3] at hE
      refine z_iconst hx hb dX6_hasNapkin_19 ?_
      exact ci_i hx hb hr hlocks hE nr_b0 hS hP dX6_hasNapkin_20
    · rw [if_neg b3] at hE
      refine z_iconst hx hb dX6_hasNapkin_15 ?_
      refine lv_goto hx hb dX6_hasNapkin_16 (tgt := 20) rfl ?_
      exact ci_i hx hb hr hlocks hE nr_b1 hS hP dX6_hasNapkin_20

def fX6_laidOn (M : Mem) (table : Int) : Int := (fX6_ofTable M (68) table)
set_option maxRecDepth 100000 in
set_option maxHeartbeats 4000000 in
theorem kX6_laidOn (l : Launch) (D : va_G) (E : Nat → Nat) (cI cC : ClassId) (Z : State → Prop) (hZo : ∀ M : Mem, ZOk (VC E cI cC M) Z) (hZb : ZBl Z) (M : Mem) (table : Int) (h1 : -2147483648 ≤ table ∧ table < 2147483648) (r : Int) (hE : fX6_laidOn M table = r) : Ci l yX6_laidOn wsX6_laidOn 1 22 [.ref (E 2), .int (iI table)] D (TY cI cC) (VC E cI cC) Z M r M := by
  refine Ci.of (cc := cX6_laidOn) (maxL := 2) (ret := (some .int)) (by decide +kernel) rfl (Nat.le_of_ble_eq_true rfl) ?_
  intro p e s m args below meth c ls hx hb hml hr hown hts hlocks hP hK hD hZ hS hl
  have hl : lv_has ls 2 [(0, .ref (E 2)), (1, .int (iI table))] := hl
  have S0 : CallFix p m c cX6_laidOn 2 s args wsX6_laidOn RX6 := ⟨hx, hb, hml, hown, hts⟩
  rw [fX6_laidOn] at hE
  refine lv_aload_n hx hb dX6_laidOn_0 rfl (lv_at hl 0 rfl) ?_
  refine z_bipush hx hb dX6_laidOn_1 (by decide +kernel) ?_
  refine lv_iload_n hx hb dX6_laidOn_3 rfl (lv_at hl 1 rfl) ?_
  refine ct_Vi (VC_fix E cI cC) hZo hZb hZ S0 (kX6_ofTable l D E cI cC Z hZo hZb M (68) table (by omega) (by omega) (fX6_ofTable M (68) table) rfl) (cwV 2 hts gX6_laidOn_X6_ofTable rfl rfl rfl (by decide +kernel) ⟨(Nat.le_of_ble_eq_true rfl), (Nat.le_of_ble_eq_true rfl)⟩) hK hP hD hS rfl rfl VC_2 rfl hl.1 rfl (Nat.le_of_ble_eq_true rfl) dX6_laidOn_4 ⟨Nat.zero_le _, Nat.zero_le _⟩ (fun H locs hP hD hS => ?_)
  exact ci_i hx hb hr hlocks hE rfl hS hP dX6_laidOn_7


theorem rg_X6_napkins {M : Mem} (h : CI M) : 0 ≤ fX6_napkins M ∧ fX6_napkins M ≤ 10 := CI_77 h
theorem bX6_hasNapkin (M : Mem) (n : Int) : 0 ≤ fX6_hasNapkin M n ∧ fX6_hasNapkin M n ≤ 1 := by unfold fX6_hasNapkin; (repeat' split) <;> omega
theorem rg_X6_laidOn {M : Mem} (h : CI M) (t : Int) : 0 ≤ fX6_laidOn M t ∧ fX6_laidOn M t ≤ 6 := by
  unfold fX6_laidOn fX6_ofTable
  (repeat' split)
  · omega
  · omega
  · exact CI_laid h _ (by omega) (by omega)

def fX6_hasPlace (M : Mem) (table place : Int) : Int := if (place < 0) then (0) else if ((fX6_laidOn M table) ≤ place) then (0) else (1)
set_option maxRecDepth 100000 in
set_option maxHeartbeats 4000000 in
theorem kX6_hasPlace (l : Launch) (D : va_G) (E : Nat → Nat) (cI cC : ClassId) (Z : State → Prop) (hZo : ∀ M : Mem, ZOk (VC E cI cC M) Z) (hZb : ZBl Z) (M : Mem) (table place : Int) (h1 : -2147483648 ≤ table ∧ table < 2147483648) (h2 : -2147483648 ≤ place ∧ place < 2147483648) (hC : CI M) (r : Int) (hE : fX6_hasPlace M table place = r) : Ci l yX6_hasPlace wsX6_hasPlace 2 43 [.ref (E 2), .int (iI table), .int (iI place)] D (TY cI cC) (VC E cI cC) Z M r M := by
  refine Ci.of (cc := cX6_hasPlace) (maxL := 3) (ret := (some .boolean)) (by decide +kernel) rfl (Nat.le_of_ble_eq_true rfl) ?_
  intro p e s m args below meth c ls hx hb hml hr hown hts hlocks hP hK hD hZ hS hl
  have hl : lv_has ls 3 [(0, .ref (E 2)), (1, .int (iI table)), (2, .int (iI place))] := hl
  have S0 : CallFix p m c cX6_hasPlace 3 s args wsX6_hasPlace RX6 := ⟨hx, hb, hml, hown, hts⟩
  rw [fX6_hasPlace] at hE
  refine lv_iload_n hx hb dX6_hasPlace_0 rfl (lv_at hl 2 rfl) ?_
  refine z_if_lt hx hb dX6_hasPlace_1 (tgt := 17) rfl (by omega) (fun b1 => ?_) (fun b1 => ?_)
  · rw [if_pos b1] at hE
    refine z_iconst hx hb dX6_hasPlace_17 ?_
    exact ci_i hx hb hr hlocks hE nr_b0 hS hP dX6_hasPlace_18
  · rw [if_neg b1] at hE
    refine lv_iload_n hx hb dX6_hasPlace_4 rfl (lv_at hl 2 rfl) ?_
    refine lv_aload_n hx hb dX6_hasPlace_5 rfl (lv_at hl 0 rfl) ?_
    refine lv_iload_n hx hb dX6_hasPlace_6 rfl (lv_at hl 1 rfl) ?_
    refine ct_Vi (VC_fix E cI cC) hZo hZb hZ S0 (kX6_laidOn l D E cI cC Z hZo hZb M table (by omega) (fX6_laidOn M table) rfl) (cwV 1 hts gX6_hasPlace_X6_laidOn rfl rfl rfl (by decide +kernel) ⟨(Nat.le_of_ble_eq_true rfl), (Nat.le_of_ble_eq_true rfl)⟩) hK hP hD hS rfl rfl VC_2 rfl hl.1 rfl (Nat.le_of_ble_eq_true rfl) dX6_hasPlace_7 ⟨Nat.zero_le _, Nat.zero_le _⟩ (fun H locs hP hD hS => ?_)
    have q2 := rg_X6_laidOn hC table
    refine z_icmp_ge hx hb dX6_hasPlace_10 (tgt := 17) rfl (by omega) (by omega) (fun b3 => ?_) (fun b3 => ?_)
    · rw [if_pos b3] at hE
      refine z_iconst hx hb dX6_hasPlace_17 ?_
      exact ci_i hx hb hr hlocks hE nr_b0 hS hP dX6_hasPlace_18
    · rw [if_neg b3] at hE
      refine z_iconst hx hb dX6_hasPlace_13 ?_
      refine lv_goto hx hb dX6_hasPlace_14 (tgt := 18) rfl ?_
      exact ci_i hx hb hr hlocks hE nr_b1 hS hP dX6_hasPlace_18


theorem bX6_hasPlace (M : Mem) (t p : Int) : 0 ≤ fX6_hasPlace M t p ∧ fX6_hasPlace M t p ≤ 1 := by unfold fX6_hasPlace; (repeat' split) <;> omega

def fX6_colourOf (M : Mem) (napkin : Int) : Int := (fX6_ofNapkin M (0) napkin)
set_option maxRecDepth 100000 in
set_option maxHeartbeats 4000000 in
theorem kX6_colourOf (l : Launch) (D : va_G) (E : Nat → Nat) (cI cC : ClassId) (Z : State → Prop) (hZo : ∀ M : Mem, ZOk (VC E cI cC M) Z) (hZb : ZBl Z) (M : Mem) (napkin : Int) (h1 : -2147483648 ≤ napkin ∧ napkin < 2147483648) (r : Int) (hE : fX6_colourOf M napkin = r) : Ci l yX6_colourOf wsX6_colourOf 1 22 [.ref (E 2), .int (iI napkin)] D (TY cI cC) (VC E cI cC) Z M r M := by
  refine Ci.of (cc := cX6_colourOf) (maxL := 2) (ret := (some .int)) (by decide +kernel) rfl (Nat.le_of_ble_eq_true rfl) ?_
  intro p e s m args below meth c ls hx hb hml hr hown hts hlocks hP hK hD hZ hS hl
  have hl : lv_has ls 2 [(0, .ref (E 2)), (1, .int (iI napkin))] := hl
  have S0 : CallFix p m c cX6_colourOf 2 s args wsX6_colourOf RX6 := ⟨hx, hb, hml, hown, hts⟩
  rw [fX6_colourOf] at hE
  refine lv_aload_n hx hb dX6_colourOf_0 rfl (lv_at hl 0 rfl) ?_
  refine z_iconst hx hb dX6_colourOf_1 ?_
  refine lv_iload_n hx hb dX6_colourOf_2 rfl (lv_at hl 1 rfl) ?_
  refine ct_Vi (VC_fix E cI cC) hZo hZb hZ S0 (kX6_ofNapkin l D E cI cC Z hZo hZb M (0) napkin (by omega) (by omega) (fX6_ofNapkin M (0) napkin) rfl) (cwV 2 hts gX6_colourOf_X6_ofNapkin rfl rfl rfl (by decide +kernel) ⟨(Nat.le_of_ble_eq_true rfl), (Nat.le_of_ble_eq_true rfl)⟩) hK hP hD hS rfl rfl VC_2 rfl hl.1 rfl (Nat.le_of_ble_eq_true rfl) dX6_colourOf_3 ⟨Nat.zero_le _, Nat.zero_le _⟩ (fun H locs hP hD hS => ?_)
  exact ci_i hx hb hr hlocks hE rfl hS hP dX6_colourOf_6


theorem rg_X6_colourOf {M : Mem} (h : CI M) (n : Int) : 0 ≤ fX6_colourOf M n ∧ fX6_colourOf M n ≤ 3 := by
  unfold fX6_colourOf fX6_ofNapkin
  (repeat' split)
  · omega
  · omega
  · exact h.1 _ (by omega) (by omega)

def fX6_foldOf (M : Mem) (napkin : Int) : Int := (fX6_ofNapkin M (10) napkin)
set_option maxRecDepth 100000 in
set_option maxHeartbeats 4000000 in
theorem kX6_foldOf (l : Launch) (D : va_G) (E : Nat → Nat) (cI cC : ClassId) (Z : State → Prop) (hZo : ∀ M : Mem, ZOk (VC E cI cC M) Z) (hZb : ZBl Z) (M : Mem) (napkin : Int) (h1 : -2147483648 ≤ napkin ∧ napkin < 2147483648) (r : Int) (hE : fX6_foldOf M napkin = r) : Ci l yX6_foldOf wsX6_foldOf 1 22 [.ref (E 2), .int (iI napkin)] D (TY cI cC) (VC E cI cC) Z M r M := by
  refine Ci.of (cc := cX6_foldOf) (maxL := 2) (ret := (some .int)) (by decide +kernel) rfl (Nat.le_of_ble_eq_true rfl) ?_
  intro p e s m args below meth c ls hx hb hml hr hown hts hlocks hP hK hD hZ hS hl
  have hl : lv_has ls 2 [(0, .ref (E 2)), (1, .int (iI napkin))] := hl
  have S0 : CallFix p m c cX6_foldOf 2 s args wsX6_foldOf RX6 := ⟨hx, hb, hml, hown, hts⟩
  rw [fX6_foldOf] at hE
  refine lv_aload_n hx hb dX6_foldOf_0 rfl (lv_at hl 0 rfl) ?_
  refine z_bipush hx hb dX6_foldOf_1 (by decide +kernel) ?_
  refine lv_iload_n hx hb dX6_foldOf_3 rfl (lv_at hl 1 rfl) ?_
  refine ct_Vi (VC_fix E cI cC) hZo hZb hZ S0 (kX6_ofNapkin l D E cI cC Z hZo hZb M (10) napkin (by omega) (by omega) (fX6_ofNapkin M (10) napkin) rfl) (cwV 2 hts gX6_foldOf_X6_ofNapkin rfl rfl rfl (by decide +kernel) ⟨(Nat.le_of_ble_eq_true rfl), (Nat.le_of_ble_eq_true rfl)⟩) hK hP hD hS rfl rfl VC_2 rfl hl.1 rfl (Nat.le_of_ble_eq_true rfl) dX6_foldOf_4 ⟨Nat.zero_le _, Nat.zero_le _⟩ (fun H locs hP hD hS => ?_)
  exact ci_i hx hb hr hlocks hE rfl hS hP dX6_foldOf_7


theorem rg_X6_foldOf {M : Mem} (h : CI M) (n : Int) : 0 ≤ fX6_foldOf M n ∧ fX6_foldOf M n ≤ 4 := by
  unfold fX6_foldOf fX6_ofNapkin
  (repeat' split)
  · omega
  · omega
  · exact h.2.1 _ (by omega) (by omega)

def fX6_creasesOf (M : Mem) (napkin : Int) : Int := (fX6_ofNapkin M (20) napkin)
set_option maxRecDepth 100000 in
set_option maxHeartbeats 4000000 in
theorem kX6_creasesOf (l : Launch) (D : va_G) (E : Nat → Nat) (cI cC : ClassId) (Z : State → Prop) (hZo : ∀ M : Mem, ZOk (VC E cI cC M) Z) (hZb : ZBl Z) (M : Mem) (napkin : Int) (h1 : -2147483648 ≤ napkin ∧ napkin < 2147483648) (r : Int) (hE : fX6_creasesOf M napkin = r) : Ci l yX6_creasesOf wsX6_creasesOf 1 22 [.ref (E 2), .int (iI napkin)] D (TY cI cC) (VC E cI cC) Z M r M := by
  refine Ci.of (cc := cX6_creasesOf) (maxL := 2) (ret := (some .int)) (by decide +kernel) rfl (Nat.le_of_ble_eq_true rfl) ?_
  intro p e s m args below meth c ls hx hb hml hr hown hts hlocks hP hK hD hZ hS hl
  have hl : lv_has ls 2 [(0, .ref (E 2)), (1, .int (iI napkin))] := hl
  have S0 : CallFix p m c cX6_creasesOf 2 s args wsX6_creasesOf RX6 := ⟨hx, hb, hml, hown, hts⟩
  rw [fX6_creasesOf] at hE
  refine lv_aload_n hx hb dX6_creasesOf_0 rfl (lv_at hl 0 rfl) ?_
  refine z_bipush hx hb dX6_creasesOf_1 (by decide +kernel) ?_
  refine lv_iload_n hx hb dX6_creasesOf_3 rfl (lv_at hl 1 rfl) ?_
  refine ct_Vi (VC_fix E cI cC) hZo hZb hZ S0 (kX6_ofNapkin l D E cI cC Z hZo hZb M (20) napkin (by omega) (by omega) (fX6_ofNapkin M (20) napkin) rfl) (cwV 2 hts gX6_creasesOf_X6_ofNapkin rfl rfl rfl (by decide +kernel) ⟨(Nat.le_of_ble_eq_true rfl), (Nat.le_of_ble_eq_true rfl)⟩) hK hP hD hS rfl rfl VC_2 rfl hl.1 rfl (Nat.le_of_ble_eq_true rfl) dX6_creasesOf_4 ⟨Nat.zero_le _, Nat.zero_le _⟩ (fun H locs hP hD hS => ?_)
  exact ci_i hx hb hr hlocks hE rfl hS hP dX6_creasesOf_7


theorem rg_X6_creasesOf {M : Mem} (h : CI M) (n : Int) : 0 ≤ fX6_creasesOf M n ∧ fX6_creasesOf M n ≤ 12 := by
  unfold fX6_creasesOf fX6_ofNapkin
  (repeat' split)
  · omega
  · omega
  · exact h.2.2.1 _ (by omega) (by omega)

def fX6_stainsOf (M : Mem) (napkin : Int) : Int := (fX6_ofNapkin M (30) napkin)
set_option maxRecDepth 100000 in
set_option maxHeartbeats 4000000 in
theorem kX6_stainsOf (l : Launch) (D : va_G) (E : Nat → Nat) (cI cC : ClassId) (Z : State → Prop) (hZo : ∀ M : Mem, ZOk (VC E cI cC M) Z) (hZb : ZBl Z) (M : Mem) (napkin : Int) (h1 : -2147483648 ≤ napkin ∧ napkin < 2147483648) (r : Int) (hE : fX6_stainsOf M napkin = r) : Ci l yX6_stainsOf wsX6_stainsOf 1 22 [.ref (E 2), .int (iI napkin)] D (TY cI cC) (VC E cI cC) Z M r M := by
  refine Ci.of (cc := cX6_stainsOf) (maxL := 2) (ret := (some .int)) (by decide +kernel) rfl (Nat.le_of_ble_eq_true rfl) ?_
  intro p e s m args below meth c ls hx hb hml hr hown hts hlocks hP hK hD hZ hS hl
  have hl : lv_has ls 2 [(0, .ref (E 2)), (1, .int (iI napkin))] := hl
  have S0 : CallFix p m c cX6_stainsOf 2 s args wsX6_stainsOf RX6 := ⟨hx, hb, hml, hown, hts⟩
  rw [fX6_stainsOf] at hE
  refine lv_aload_n hx hb dX6_stainsOf_0 rfl (lv_at hl 0 rfl) ?_
  refine z_bipush hx hb dX6_stainsOf_1 (by decide +kernel) ?_
  refine lv_iload_n hx hb dX6_stainsOf_3 rfl (lv_at hl 1 rfl) ?_
  refine ct_Vi (VC_fix E cI cC) hZo hZb hZ S0 (kX6_ofNapkin l D E cI cC Z hZo hZb M (30) napkin (by omega) (by omega) (fX6_ofNapkin M (30) napkin) rfl) (cwV 2 hts gX6_stainsOf_X6_ofNapkin rfl rfl rfl (by decide +kernel) ⟨(Nat.le_of_ble_eq_true rfl), (Nat.le_of_ble_eq_true rfl)⟩) hK hP hD hS rfl rfl VC_2 rfl hl.1 rfl (Nat.le_of_ble_eq_true rfl) dX6_stainsOf_4 ⟨Nat.zero_le _, Nat.zero_le _⟩ (fun H locs hP hD hS => ?_)
  exact ci_i hx hb hr hlocks hE rfl hS hP dX6_stainsOf_7


theorem rg_X6_stainsOf {M : Mem} (h : CI M) (n : Int) : 0 ≤ fX6_stainsOf M n ∧ fX6_stainsOf M n ≤ 9 := by
  unfold fX6_stainsOf fX6_ofNapkin
  (repeat' split)
  · omega
  · omega
  · exact h.2.2.2.1 _ (by omega) (by omega)

def fX6_foldingsOf (M : Mem) (napkin : Int) : Int := (fX6_ofNapkin M (40) napkin)
set_option maxRecDepth 100000 in
set_option maxHeartbeats 4000000 in
theorem kX6_foldingsOf (l : Launch) (D : va_G) (E : Nat → Nat) (cI cC : ClassId) (Z : State → Prop) (hZo : ∀ M : Mem, ZOk (VC E cI cC M) Z) (hZb : ZBl Z) (M : Mem) (napkin : Int) (h1 : -2147483648 ≤ napkin ∧ napkin < 2147483648) (r : Int) (hE : fX6_foldingsOf M napkin = r) : Ci l yX6_foldingsOf wsX6_foldingsOf 1 22 [.ref (E 2), .int (iI napkin)] D (TY cI cC) (VC E cI cC) Z M r M := by
  refine Ci.of (cc := cX6_foldingsOf) (maxL := 2) (ret := (some .int)) (by decide +kernel) rfl (Nat.le_of_ble_eq_true rfl) ?_
  intro p e s m args below meth c ls hx hb hml hr hown hts hlocks hP hK hD hZ hS hl
  have hl : lv_has ls 2 [(0, .ref (E 2)), (1, .int (iI napkin))] := hl
  have S0 : CallFix p m c cX6_foldingsOf 2 s args wsX6_foldingsOf RX6 := ⟨hx, hb, hml, hown, hts⟩
  rw [fX6_foldingsOf] at hE
  refine lv_aload_n hx hb dX6_foldingsOf_0 rfl (lv_at hl 0 rfl) ?_
  refine z_bipush hx hb dX6_foldingsOf_1 (by decide +kernel) ?_
  refine lv_iload_n hx hb dX6_foldingsOf_3 rfl (lv_at hl 1 rfl) ?_
  refine ct_Vi (VC_fix E cI cC) hZo hZb hZ S0 (kX6_ofNapkin l D E cI cC Z hZo hZb M (40) napkin (by omega) (by omega) (fX6_ofNapkin M (40) napkin) rfl) (cwV 2 hts gX6_foldingsOf_X6_ofNapkin rfl rfl rfl (by decide +kernel) ⟨(Nat.le_of_ble_eq_true rfl), (Nat.le_of_ble_eq_true rfl)⟩) hK hP hD hS rfl rfl VC_2 rfl hl.1 rfl (Nat.le_of_ble_eq_true rfl) dX6_foldingsOf_4 ⟨Nat.zero_le _, Nat.zero_le _⟩ (fun H locs hP hD hS => ?_)
  exact ci_i hx hb hr hlocks hE rfl hS hP dX6_foldingsOf_7

def fX6_readingsOf (M : Mem) (table : Int) : Int := (fX6_ofTable M (71) table)
set_option maxRecDepth 100000 in
set_option maxHeartbeats 4000000 in
theorem kX6_readingsOf (l : Launch) (D : va_G) (E : Nat → Nat) (cI cC : ClassId) (Z : State → Prop) (hZo : ∀ M : Mem, ZOk (VC E cI cC M) Z) (hZb : ZBl Z) (M : Mem) (table : Int) (h1 : -2147483648 ≤ table ∧ table < 2147483648) (r : Int) (hE : fX6_readingsOf M table = r) : Ci l yX6_readingsOf wsX6_readingsOf 1 22 [.ref (E 2), .int (iI table)] D (TY cI cC) (VC E cI cC) Z M r M := by
  refine Ci.of (cc := cX6_readingsOf) (maxL := 2) (ret := (some .int)) (by decide +kernel) rfl (Nat.le_of_ble_eq_true rfl) ?_
  intro p e s m args below meth c ls hx hb hml hr hown hts hlocks hP hK hD hZ hS hl
  have hl : lv_has ls 2 [(0, .ref (E 2)), (1, .int (iI table))] := hl
  have S0 : CallFix p m c cX6_readingsOf 2 s args wsX6_readingsOf RX6 := ⟨hx, hb, hml, hown, hts⟩
  rw [fX6_readingsOf] at hE
  refine lv_aload_n hx hb dX6_readingsOf_0 rfl (lv_at hl 0 rfl) ?_
  refine z_bipush hx hb dX6_readingsOf_1 (by decide +kernel) ?_
  refine lv_iload_n hx hb dX6_readingsOf_3 rfl (lv_at hl 1 rfl) ?_
  refine ct_Vi (VC_fix E cI cC) hZo hZb hZ S0 (kX6_ofTable l D E cI cC Z hZo hZb M (71) table (by omega) (by omega) (fX6_ofTable M (71) table) rfl) (cwV 2 hts gX6_readingsOf_X6_ofTable rfl rfl rfl (by decide +kernel) ⟨(Nat.le_of_ble_eq_true rfl), (Nat.le_of_ble_eq_true rfl)⟩) hK hP hD hS rfl rfl VC_2 rfl hl.1 rfl (Nat.le_of_ble_eq_true rfl) dX6_readingsOf_4 ⟨Nat.zero_le _, Nat.zero_le _⟩ (fun H locs hP hD hS => ?_)
  exact ci_i hx hb hr hlocks hE rfl hS hP dX6_readingsOf_7

def fX6_puzzlesOf (M : Mem) (table : Int) : Int := (fX6_ofTable M (74) table)
set_option maxRecDepth 100000 in
set_option maxHeartbeats 4000000 in
theorem kX6_puzzlesOf (l : Launch) (D : va_G) (E : Nat → Nat) (cI cC : ClassId) (Z : State → Prop) (hZo : ∀ M : Mem, ZOk (VC E cI cC M) Z) (hZb : ZBl Z) (M : Mem) (table : Int) (h1 : -2147483648 ≤ table ∧ table < 2147483648) (r : Int) (hE : fX6_puzzlesOf M table = r) : Ci l yX6_puzzlesOf wsX6_puzzlesOf 1 22 [.ref (E 2), .int (iI table)] D (TY cI cC) (VC E cI cC) Z M r M := by
  refine Ci.of (cc := cX6_puzzlesOf) (maxL := 2) (ret := (some .int)) (by decide +kernel) rfl (Nat.le_of_ble_eq_true rfl) ?_
  intro p e s m args below meth c ls hx hb hml hr hown hts hlocks hP hK hD hZ hS hl
  have hl : lv_has ls 2 [(0, .ref (E 2)), (1, .int (iI table))] := hl
  have S0 : CallFix p m c cX6_puzzlesOf 2 s args wsX6_puzzlesOf RX6 := ⟨hx, hb, hml, hown, hts⟩
  rw [fX6_puzzlesOf] at hE
  refine lv_aload_n hx hb dX6_puzzlesOf_0 rfl (lv_at hl 0 rfl) ?_
  refine z_bipush hx hb dX6_puzzlesOf_1 (by decide +kernel) ?_
  refine lv_iload_n hx hb dX6_puzzlesOf_3 rfl (lv_at hl 1 rfl) ?_
  refine ct_Vi (VC_fix E cI cC) hZo hZb hZ S0 (kX6_ofTable l D E cI cC Z hZo hZb M (74) table (by omega) (by omega) (fX6_ofTable M (74) table) rfl) (cwV 2 hts gX6_puzzlesOf_X6_ofTable rfl rfl rfl (by decide +kernel) ⟨(Nat.le_of_ble_eq_true rfl), (Nat.le_of_ble_eq_true rfl)⟩) hK hP hD hS rfl rfl VC_2 rfl hl.1 rfl (Nat.le_of_ble_eq_true rfl) dX6_puzzlesOf_4 ⟨Nat.zero_le _, Nat.zero_le _⟩ (fun H locs hP hD hS => ?_)
  exact ci_i hx hb hr hlocks hE rfl hS hP dX6_puzzlesOf_7

def fX6_seatUnder_L1 (M : Mem) (napkin : Int) : Nat → Int → (Int)
  | 0, _ => 0
  | k1 + 1, seat => if ((18) ≤ seat) then (-1) else if ((M 0 ((68) + (seat / (6)))) ≤ (seat % (6))) then fX6_seatUnder_L1 M napkin k1 (seat + 1) else if ((M 0 ((50) + seat)) = napkin) then seat else fX6_seatUnder_L1 M napkin k1 (seat + 1)
def fX6_seatUnder (M : Mem) (napkin : Int) : Int := fX6_seatUnder_L1 M napkin 19 (0)
set_option maxRecDepth 100000 in
set_option maxHeartbeats 4000000 in
theorem kX6_seatUnder (l : Launch) (D : va_G) (E : Nat → Nat) (cI cC : ClassId) (Z : State → Prop) (hZo : ∀ M : Mem, ZOk (VC E cI cC M) Z) (hZb : ZBl Z) (M : Mem) (napkin : Int) (h1 : -2147483648 ≤ napkin ∧ napkin < 2147483648) (hC : CI M) (r : Int) (hE : fX6_seatUnder M napkin = r) : Ci l yX6_seatUnder wsX6_seatUnder 0 0 [.ref (E 2), .int (iI napkin)] D (TY cI cC) (VC E cI cC) Z M r M := by
  refine Ci.of (cc := cX6_seatUnder) (maxL := 3) (ret := (some .int)) (by decide +kernel) rfl (Nat.le_of_ble_eq_true rfl) ?_
  intro p e s m args below meth c ls hx hb hml hr hown hts hlocks hP hK hD hZ hS hl
  have hl : lv_has ls 3 [(0, .ref (E 2)), (1, .int (iI napkin))] := hl
  have S0 : CallFix p m c cX6_seatUnder 3 s args wsX6_seatUnder RX6 := ⟨hx, hb, hml, hown, hts⟩
  have hinX6 : ∀ w ∈ u_ws RX6 TX6 1, w ∈ wsX6_seatUnder := by decide +kernel
  rw [fX6_seatUnder] at hE
  refine z_iconst hx hb dX6_seatUnder_0 ?_
  refine lv_istore_n hx hb dX6_seatUnder_1 rfl hl (Nat.le_of_ble_eq_true rfl) (lv' := [(2, .int (iI (0))), (0, .ref (E 2)), (1, .int (iI napkin))]) rfl (fun ls hl => ?_)
  have L1 : ∀ (k1 : Nat) (seat : Int) (ls : Array Slot) (H : Heap) (locs : List Loc), lv_has ls 3 [(0, .ref (E 2)), (1, .int (iI napkin)), (2, .int (iI seat))] → va_P D vwCl (VC E cI cC M) H → va_D (wA (VC E cI cC M)) (VC E cI cC M) → va_S (wA (VC E cI cC M)) s.heap H locs → (0 ≤ seat) → (seat ≤ 18) → (18 - seat < (k1 : Int)) → fX6_seatUnder_L1 M napkin k1 seat = r → W p l e (zRm 0 0) s m args below meth c H locs 0 0 (MQ below (ciQ D (VC E cI cC) M r M) args s 0 0 (wA (VC E cI cC M))) (F0 m 2 ls []) := by
    intro k1
    induction k1 with
    | zero => intro seat ls H locs hl hP hD hS i1 i2 i3 hE; exfalso; omega
    | succ k1 ih1 =>
      intro seat ls H locs hl hP hD hS i1 i2 i3 hE
      rw [fX6_seatUnder_L1] at hE
      refine lv_iload_n hx hb dX6_seatUnder_2 rfl (lv_at hl 2 rfl) ?_
      refine z_bipush hx hb dX6_seatUnder_3 (by decide +kernel) ?_
      refine z_icmp_ge hx hb dX6_seatUnder_5 (tgt := 48) rfl (by omega) (by omega) (fun b1 => ?_) (fun b1 => ?_)
      · rw [if_pos b1] at hE
        refine z_iconst hx hb dX6_seatUnder_48 ?_
        exact ci_i hx hb hr hlocks hE rfl hS hP dX6_seatUnder_49
      · rw [if_neg b1] at hE
        refine lv_iload_n hx hb dX6_seatUnder_8 rfl (lv_at hl 2 rfl) ?_
        refine z_bipush hx hb dX6_seatUnder_9 (by decide +kernel) ?_
        refine z_irem hx hb dX6_seatUnder_11 (by omega) (by omega) (by omega) (by omega) ?_
        refine lv_aload_n hx hb dX6_seatUnder_12 rfl (lv_at hl 0 rfl) ?_
        refine va_get (own := RX6) (ref := "NapkinSyntax$State") (C := RX6) (T := TX6) (N := 1) hx hb hts hinX6 hown hK hP 2 VC_2 rfl 0 (Nat.le_of_ble_eq_true rfl) (hts (.fieldLink RX6 11 "NapkinSyntax$State" "cells" "[I") (by decide +kernel)) (fun _ h => h) (v := .ref (E 3)) rfl dX6_seatUnder_13 ?_
        refine z_bipush hx hb dX6_seatUnder_16 (by decide +kernel) ?_
        refine lv_iload_n hx hb dX6_seatUnder_18 rfl (lv_at hl 2 rfl) ?_
        refine z_bipush hx hb dX6_seatUnder_19 (by decide +kernel) ?_
        refine z_idiv hx hb dX6_seatUnder_21 (by omega) (by omega) (by omega) (by omega) ?_
        refine z_iadd hx hb dX6_seatUnder_22 ?_
        refine z_iald hx hb hK hP 3 0 VC_3 rfl (by omega) (by omega) (by decide) dX6_seatUnder_23 ?_
        have q2 := CI_laid hC ((68) + (seat / (6))) (by omega) (by omega)
        refine z_icmp_ge hx hb dX6_seatUnder_24 (tgt := 42) rfl (by omega) (by omega) (fun b3 => ?_) (fun b3 => ?_)
        · rw [if_pos b3] at hE
          refine z_iinc hx hb dX6_seatUnder_42 hl (k := 2) rfl (Nat.le_of_ble_eq_true rfl) (lv' := [(2, .int (iI (seat + 1))), (0, .ref (E 2)), (1, .int (iI napkin))]) rfl (fun ls hl => ?_)
          refine lv_goto hx hb dX6_seatUnder_45 (tgt := 2) rfl ?_
          exact ih1 (seat + 1) ls _ _ (lv_sub hl [1, 2, 0] rfl) hP hD hS (by omega) (by omega) (by omega) hE
        · rw [if_neg b3] at hE
          refine lv_aload_n hx hb dX6_seatUnder_27 rfl (lv_at hl 0 rfl) ?_
          refine va_get (own := RX6) (ref := "NapkinSyntax$State") (C := RX6) (T := TX6) (N := 1) hx hb hts hinX6 hown hK hP 2 VC_2 rfl 0 (Nat.le_of_ble_eq_true rfl) (hts (.fieldLink RX6 11 "NapkinSyntax$State" "cells" "[I") (by decide +kernel)) (fun _ h => h) (v := .ref (E 3)) rfl dX6_seatUnder_28 ?_
          refine z_bipush hx hb dX6_seatUnder_31 (by decide +kernel) ?_
          refine lv_iload_n hx hb dX6_seatUnder_33 rfl (lv_at hl 2 rfl) ?_
          refine z_iadd hx hb dX6_seatUnder_34 ?_
          refine z_iald hx hb hK hP 3 0 VC_3 rfl (by omega) (by omega) (by decide) dX6_seatUnder_35 ?_
          have q4 := CI_seat hC ((50) + seat) (by omega) (by omega)
          refine lv_iload_n hx hb dX6_seatUnder_36 rfl (lv_at hl 1 rfl) ?_
          refine z_icmp_ne hx hb dX6_seatUnder_37 (tgt := 42) rfl (by omega) (by omega) (fun b5 => ?_) (fun b5 => ?_)
          · rw [if_neg b5] at hE
            refine z_iinc hx hb dX6_seatUnder_42 hl (k := 2) rfl (Nat.le_of_ble_eq_true rfl) (lv' := [(2, .int (iI (seat + 1))), (0, .ref (E 2)), (1, .int (iI napkin))]) rfl (fun ls hl => ?_)
            refine lv_goto hx hb dX6_seatUnder_45 (tgt := 2) rfl ?_
            exact ih1 (seat + 1) ls _ _ (lv_sub hl [1, 2, 0] rfl) hP hD hS (by omega) (by omega) (by omega) hE
          · rw [if_pos b5] at hE
            refine lv_iload_n hx hb dX6_seatUnder_40 rfl (lv_at hl 2 rfl) ?_
            exact ci_i hx hb hr hlocks hE rfl hS hP dX6_seatUnder_41
  exact L1 19 (0) ls _ _ (lv_sub hl [1, 2, 0] rfl) hP hD hS (by omega) (by omega) (by omega) hE


theorem rg_X6_seatUnder_L (M : Mem) (n : Int) : ∀ (k : Nat) (s : Int), 0 ≤ s → -1 ≤ fX6_seatUnder_L1 M n k s ∧ fX6_seatUnder_L1 M n k s ≤ 17 := by
  intro k
  induction k with
  | zero => intro s _; exact ⟨(by decide : (-1 : Int) ≤ 0), (by decide : (0 : Int) ≤ 17)⟩
  | succ k ih =>
    intro s hs
    rw [fX6_seatUnder_L1]
    have := ih (s + 1) (by omega)
    (repeat' split) <;> omega
theorem rg_X6_seatUnder (M : Mem) (n : Int) : -1 ≤ fX6_seatUnder M n ∧ fX6_seatUnder M n ≤ 17 := rg_X6_seatUnder_L M n 19 0 (by decide)

def fX6_tableUnder (M : Mem) (napkin : Int) : Int := if ((fX6_seatUnder M napkin) = (-1)) then (-1) else ((fX6_seatUnder M napkin) / (6))
set_option maxRecDepth 100000 in
set_option maxHeartbeats 4000000 in
theorem kX6_tableUnder (l : Launch) (D : va_G) (E : Nat → Nat) (cI cC : ClassId) (Z : State → Prop) (hZo : ∀ M : Mem, ZOk (VC E cI cC M) Z) (hZb : ZBl Z) (M : Mem) (napkin : Int) (h1 : -2147483648 ≤ napkin ∧ napkin < 2147483648) (hC : CI M) (r : Int) (hE : fX6_tableUnder M napkin = r) : Ci l yX6_tableUnder wsX6_tableUnder 1 22 [.ref (E 2), .int (iI napkin)] D (TY cI cC) (VC E cI cC) Z M r M := by
  refine Ci.of (cc := cX6_tableUnder) (maxL := 3) (ret := (some .int)) (by decide +kernel) rfl (Nat.le_of_ble_eq_true rfl) ?_
  intro p e s m args below meth c ls hx hb hml hr hown hts hlocks hP hK hD hZ hS hl
  have hl : lv_has ls 3 [(0, .ref (E 2)), (1, .int (iI napkin))] := hl
  have S0 : CallFix p m c cX6_tableUnder 3 s args wsX6_tableUnder RX6 := ⟨hx, hb, hml, hown, hts⟩
  rw [fX6_tableUnder] at hE
  refine lv_aload_n hx hb dX6_tableUnder_0 rfl (lv_at hl 0 rfl) ?_
  refine lv_iload_n hx hb dX6_tableUnder_1 rfl (lv_at hl 1 rfl) ?_
  refine ct_Vi (VC_fix E cI cC) hZo hZb hZ S0 (kX6_seatUnder l D E cI cC Z hZo hZb M napkin (by omega) hC (fX6_seatUnder M napkin) rfl) (cwV 1 hts gX6_tableUnder_X6_seatUnder rfl rfl rfl (by decide +kernel) ⟨(Nat.le_of_ble_eq_true rfl), (Nat.le_of_ble_eq_true rfl)⟩) hK hP hD hS rfl rfl VC_2 rfl hl.1 rfl (Nat.le_of_ble_eq_true rfl) dX6_tableUnder_2 ⟨Nat.zero_le _, Nat.zero_le _⟩ (fun H locs hP hD hS => ?_)
  have q1 := rg_X6_seatUnder M napkin
  refine lv_istore_n hx hb dX6_tableUnder_5 rfl hl (Nat.le_of_ble_eq_true rfl) (lv' := [(2, .int (iI (fX6_seatUnder M napkin))), (0, .ref (E 2)), (1, .int (iI napkin))]) rfl (fun ls hl => ?_)
  refine lv_iload_n hx hb dX6_tableUnder_6 rfl (lv_at hl 0 rfl) ?_
  refine z_iconst hx hb dX6_tableUnder_7 ?_
  refine z_icmp_eq hx hb dX6_tableUnder_8 (tgt := 18) rfl (by omega) (by omega) (fun b2 => ?_) (fun b2 => ?_)
  · rw [if_pos b2] at hE
    refine z_iconst hx hb dX6_tableUnder_18 ?_
    exact ci_i hx hb hr hlocks hE rfl hS hP dX6_tableUnder_19
  · rw [if_neg b2] at hE
    refine lv_iload_n hx hb dX6_tableUnder_11 rfl (lv_at hl 0 rfl) ?_
    refine z_bipush hx hb dX6_tableUnder_12 (by decide +kernel) ?_
    refine z_idiv hx hb dX6_tableUnder_14 (by omega) (by omega) (by omega) (by omega) ?_
    refine lv_goto hx hb dX6_tableUnder_15 (tgt := 19) rfl ?_
    exact ci_i hx hb hr hlocks hE rfl hS hP dX6_tableUnder_19

def fX6_placeUnder (M : Mem) (napkin : Int) : Int := if ((fX6_seatUnder M napkin) = (-1)) then (-1) else ((fX6_seatUnder M napkin) % (6))
set_option maxRecDepth 100000 in
set_option maxHeartbeats 4000000 in
theorem kX6_placeUnder (l : Launch) (D : va_G) (E : Nat → Nat) (cI cC : ClassId) (Z : State → Prop) (hZo : ∀ M : Mem, ZOk (VC E cI cC M) Z) (hZb : ZBl Z) (M : Mem) (napkin : Int) (h1 : -2147483648 ≤ napkin ∧ napkin < 2147483648) (hC : CI M) (r : Int) (hE : fX6_placeUnder M napkin = r) : Ci l yX6_placeUnder wsX6_placeUnder 1 22 [.ref (E 2), .int (iI napkin)] D (TY cI cC) (VC E cI cC) Z M r M := by
  refine Ci.of (cc := cX6_placeUnder) (maxL := 3) (ret := (some .int)) (by decide +kernel) rfl (Nat.le_of_ble_eq_true rfl) ?_
  intro p e s m args below meth c ls hx hb hml hr hown hts hlocks hP hK hD hZ hS hl
  have hl : lv_has ls 3 [(0, .ref (E 2)), (1, .int (iI napkin))] := hl
  have S0 : CallFix p m c cX6_placeUnder 3 s args wsX6_placeUnder RX6 := ⟨hx, hb, hml, hown, hts⟩
  rw [fX6_placeUnder] at hE
  refine lv_aload_n hx hb dX6_placeUnder_0 rfl (lv_at hl 0 rfl) ?_
  refine lv_iload_n hx hb dX6_placeUnder_1 rfl (lv_at hl 1 rfl) ?_
  refine ct_Vi (VC_fix E cI cC) hZo hZb hZ S0 (kX6_seatUnder l D E cI cC Z hZo hZb M napkin (by omega) hC (fX6_seatUnder M napkin) rfl) (cwV 1 hts gX6_placeUnder_X6_seatUnder rfl rfl rfl (by decide +kernel) ⟨(Nat.le_of_ble_eq_true rfl), (Nat.le_of_ble_eq_true rfl)⟩) hK hP hD hS rfl rfl VC_2 rfl hl.1 rfl (Nat.le_of_ble_eq_true rfl) dX6_placeUnder_2 ⟨Nat.zero_le _, Nat.zero_le _⟩ (fun H locs hP hD hS => ?_)
  have q1 := rg_X6_seatUnder M napkin
  refine lv_istore_n hx hb dX6_placeUnder_5 rfl hl (Nat.le_of_ble_eq_true rfl) (lv' := [(2, .int (iI (fX6_seatUnder M napkin))), (0, .ref (E 2)), (1, .int (iI napkin))]) rfl (fun ls hl => ?_)
  refine lv_iload_n hx hb dX6_placeUnder_6 rfl (lv_at hl 0 rfl) ?_
  refine z_iconst hx hb dX6_placeUnder_7 ?_
  refine z_icmp_eq hx hb dX6_placeUnder_8 (tgt := 18) rfl (by omega) (by omega) (fun b2 => ?_) (fun b2 => ?_)
  · rw [if_pos b2] at hE
    refine z_iconst hx hb dX6_placeUnder_18 ?_
    exact ci_i hx hb hr hlocks hE rfl hS hP dX6_placeUnder_19
  · rw [if_neg b2] at hE
    refine lv_iload_n hx hb dX6_placeUnder_11 rfl (lv_at hl 0 rfl) ?_
    refine z_bipush hx hb dX6_placeUnder_12 (by decide +kernel) ?_
    refine z_irem hx hb dX6_placeUnder_14 (by omega) (by omega) (by omega) (by omega) ?_
    refine lv_goto hx hb dX6_placeUnder_15 (tgt := 19) rfl ?_
    exact ci_i hx hb hr hlocks hE rfl hS hP dX6_placeUnder_19


theorem rg_X6_tableUnder (M : Mem) (n : Int) : -1 ≤ fX6_tableUnder M n ∧ fX6_tableUnder M n ≤ 2 := by
  have := rg_X6_seatUnder M n
  unfold fX6_tableUnder
  (repeat' split) <;> omega
theorem rg_X6_placeUnder (M : Mem) (n : Int) : -1 ≤ fX6_placeUnder M n ∧ fX6_placeUnder M n ≤ 5 := by
  have := rg_X6_seatUnder M n
  unfold fX6_placeUnder
  (repeat' split) <;> omega

def fX6_sumOf_L1 (M : Mem) (first count : Int) : Nat → Int → Int → (Int)
  | 0, _, _ => 0
  | k1 + 1, sum, index => if ((first + count) ≤ index) then sum else if ((80) ≤ index) then sum else fX6_sumOf_L1 M first count k1 (sum + (M 0 index)) (index + 1)
def fX6_sumOf (M : Mem) (first count : Int) : Int := fX6_sumOf_L1 M first count 11 (0) first
set_option maxRecDepth 100000 in
set_option maxHeartbeats 4000000 in
theorem kX6_sumOf (l : Launch) (D : va_G) (E : Nat → Nat) (cI cC : ClassId) (Z : State → Prop) (hZo : ∀ M : Mem, ZOk (VC E cI cC M) Z) (hZb : ZBl Z) (M : Mem) (first count : Int) (h1 : 0 ≤ first ∧ first ≤ 74) (h2 : 0 ≤ count ∧ count ≤ 10) (r : Int) (hE : fX6_sumOf M first count = r) : Ci l yX6_sumOf wsX6_sumOf 0 0 [.ref (E 2), .int (iI first), .int (iI count)] D (TY cI cC) (VC E cI cC) Z M r M := by
  refine Ci.of (cc := cX6_sumOf) (maxL := 5) (ret := (some .int)) (by decide +kernel) rfl (Nat.le_of_ble_eq_true rfl) ?_
  intro p e s m args below meth c ls hx hb hml hr hown hts hlocks hP hK hD hZ hS hl
  have hl : lv_has ls 5 [(0, .ref (E 2)), (1, .int (iI first)), (2, .int (iI count))] := hl
  have S0 : CallFix p m c cX6_sumOf 5 s args wsX6_sumOf RX6 := ⟨hx, hb, hml, hown, hts⟩
  have hinX6 : ∀ w ∈ u_ws RX6 TX6 1, w ∈ wsX6_sumOf := by decide +kernel
  rw [fX6_sumOf] at hE
  refine z_iconst hx hb dX6_sumOf_0 ?_
  refine lv_istore_n hx hb dX6_sumOf_1 rfl hl (Nat.le_of_ble_eq_true rfl) (lv' := [(3, .int (iI (0))), (0, .ref (E 2)), (1, .int (iI first)), (2, .int (iI count))]) rfl (fun ls hl => ?_)
  refine lv_iload_n hx hb dX6_sumOf_2 rfl (lv_at hl 2 rfl) ?_
  refine lv_istore hx hb dX6_sumOf_3 hl (Nat.le_of_ble_eq_true rfl) (lv' := [(4, .int (iI first)), (3, .int (iI (0))), (0, .ref (E 2)), (1, .int (iI first)), (2, .int (iI count))]) rfl (fun ls hl => ?_)
  have L1 : ∀ (k1 : Nat) (sum index : Int) (ls : Array Slot) (H : Heap) (locs : List Loc), lv_has ls 5 [(0, .ref (E 2)), (1, .int (iI first)), (2, .int (iI count)), (3, .int (iI sum)), (4, .int (iI index))] → va_P D vwCl (VC E cI cC M) H → va_D (wA (VC E cI cC M)) (VC E cI cC M) → va_S (wA (VC E cI cC M)) s.heap H locs → (first ≤ index) → (index ≤ first + count) → (first + count - index < (k1 : Int)) → fX6_sumOf_L1 M first count k1 sum index = r → W p l e (zRm 0 0) s m args below meth c H locs 0 0 (MQ below (ciQ D (VC E cI cC) M r M) args s 0 0 (wA (VC E cI cC M))) (F0 m 5 ls []) := by
    intro k1
    induction k1 with
    | zero => intro sum index ls H locs hl hP hD hS i1 i2 i3 hE; exfalso; omega
    | succ k1 ih1 =>
      intro sum index ls H locs hl hP hD hS i1 i2 i3 hE
      rw [fX6_sumOf_L1] at hE
      refine lv_iload hx hb dX6_sumOf_5 (lv_at hl 4 rfl) ?_
      refine lv_iload_n hx hb dX6_sumOf_7 rfl (lv_at hl 1 rfl) ?_
      refine lv_iload_n hx hb dX6_sumOf_8 rfl (lv_at hl 2 rfl) ?_
      refine z_iadd hx hb dX6_sumOf_9 ?_
      refine z_icmp_ge hx hb dX6_sumOf_10 (tgt := 36) rfl (by omega) (by omega) (fun b1 => ?_) (fun b1 => ?_)
      · rw [if_pos b1] at hE
        refine lv_iload_n hx hb dX6_sumOf_36 rfl (lv_at hl 3 rfl) ?_
        exact ci_i hx hb hr hlocks hE rfl hS hP dX6_sumOf_37
      · rw [if_neg b1] at hE
        refine lv_iload hx hb dX6_sumOf_13 (lv_at hl 4 rfl) ?_
        refine z_bipush hx hb dX6_sumOf_15 (by decide +kernel) ?_
        refine z_icmp_ge hx hb dX6_sumOf_17 (tgt := 36) rfl (by omega) (by omega) (fun b2 => ?_) (fun b2 => ?_)
        · rw [if_pos b2] at hE
          refine lv_iload_n hx hb dX6_sumOf_36 rfl (lv_at hl 3 rfl) ?_
          exact ci_i hx hb hr hlocks hE rfl hS hP dX6_sumOf_37
        · rw [if_neg b2] at hE
          refine lv_iload_n hx hb dX6_sumOf_20 rfl (lv_at hl 3 rfl) ?_
          refine lv_aload_n hx hb dX6_sumOf_21 rfl (lv_at hl 0 rfl) ?_
          refine va_get (own := RX6) (ref := "NapkinSyntax$State") (C := RX6) (T := TX6) (N := 1) hx hb hts hinX6 hown hK hP 2 VC_2 rfl 0 (Nat.le_of_ble_eq_true rfl) (hts (.fieldLink RX6 11 "NapkinSyntax$State" "cells" "[I") (by decide +kernel)) (fun _ h => h) (v := .ref (E 3)) rfl dX6_sumOf_22 ?_
          refine lv_iload hx hb dX6_sumOf_25 (lv_at hl 4 rfl) ?_
          refine z_iald hx hb hK hP 3 0 VC_3 rfl (by omega) (by omega) (by decide) dX6_sumOf_27 ?_
          refine z_iadd hx hb dX6_sumOf_28 ?_
          refine lv_istore_n hx hb dX6_sumOf_29 rfl hl (Nat.le_of_ble_eq_true rfl) (lv' := [(3, .int (iI (sum + (M 0 index)))), (0, .ref (E 2)), (1, .int (iI first)), (2, .int (iI count)), (4, .int (iI index))]) rfl (fun ls hl => ?_)
          refine z_iinc hx hb dX6_sumOf_30 hl (k := 4) rfl (Nat.le_of_ble_eq_true rfl) (lv' := [(4, .int (iI (index + 1))), (3, .int (iI (sum + (M 0 index)))), (0, .ref (E 2)), (1, .int (iI first)), (2, .int (iI count))]) rfl (fun ls hl => ?_)
          refine lv_goto hx hb dX6_sumOf_33 (tgt := 5) rfl ?_
          exact ih1 (sum + (M 0 index)) (index + 1) ls _ _ (lv_sub hl [2, 3, 4, 1, 0] rfl) hP hD hS (by omega) (by omega) (by omega) hE
  exact L1 11 (0) first ls _ _ (lv_sub hl [2, 3, 4, 1, 0] rfl) hP hD hS (by omega) (by omega) (by omega) hE

def fX6_laidCount (M : Mem) : Int := (fX6_sumOf M (68) (3))
set_option maxRecDepth 100000 in
set_option maxHeartbeats 4000000 in
theorem kX6_laidCount (l : Launch) (D : va_G) (E : Nat → Nat) (cI cC : ClassId) (Z : State → Prop) (hZo : ∀ M : Mem, ZOk (VC E cI cC M) Z) (hZb : ZBl Z) (M : Mem)  (r : Int) (hE : fX6_laidCount M = r) : Ci l yX6_laidCount wsX6_laidCount 1 24 [.ref (E 2)] D (TY cI cC) (VC E cI cC) Z M r M := by
  refine Ci.of (cc := cX6_laidCount) (maxL := 1) (ret := (some .int)) (by decide +kernel) rfl (Nat.le_of_ble_eq_true rfl) ?_
  intro p e s m args below meth c ls hx hb hml hr hown hts hlocks hP hK hD hZ hS hl
  have hl : lv_has ls 1 [(0, .ref (E 2))] := hl
  have S0 : CallFix p m c cX6_laidCount 1 s args wsX6_laidCount RX6 := ⟨hx, hb, hml, hown, hts⟩
  rw [fX6_laidCount] at hE
  refine lv_aload_n hx hb dX6_laidCount_0 rfl (lv_at hl 0 rfl) ?_
  refine z_bipush hx hb dX6_laidCount_1 (by decide +kernel) ?_
  refine z_iconst hx hb dX6_laidCount_3 ?_
  refine ct_Vi (VC_fix E cI cC) hZo hZb hZ S0 (kX6_sumOf l D E cI cC Z hZo hZb M (68) (3) (by omega) (by omega) (fX6_sumOf M (68) (3)) rfl) (cwV 2 hts gX6_laidCount_X6_sumOf rfl rfl rfl (by decide +kernel) ⟨(Nat.le_of_ble_eq_true rfl), (Nat.le_of_ble_eq_true rfl)⟩) hK hP hD hS rfl rfl VC_2 rfl hl.1 rfl (Nat.le_of_ble_eq_true rfl) dX6_laidCount_4 ⟨Nat.zero_le _, Nat.zero_le _⟩ (fun H locs hP hD hS => ?_)
  exact ci_i hx hb hr hlocks hE rfl hS hP dX6_laidCount_7

def fX6_creasesSum (M : Mem) : Int := (fX6_sumOf M (20) (10))
set_option maxRecDepth 100000 in
set_option maxHeartbeats 4000000 in
theorem kX6_creasesSum (l : Launch) (D : va_G) (E : Nat → Nat) (cI cC : ClassId) (Z : State → Prop) (hZo : ∀ M : Mem, ZOk (VC E cI cC M) Z) (hZb : ZBl Z) (M : Mem)  (r : Int) (hE : fX6_creasesSum M = r) : Ci l yX6_creasesSum wsX6_creasesSum 1 24 [.ref (E 2)] D (TY cI cC) (VC E cI cC) Z M r M := by
  refine Ci.of (cc := cX6_creasesSum) (maxL := 1) (ret := (some .int)) (by decide +kernel) rfl (Nat.le_of_ble_eq_true rfl) ?_
  intro p e s m args below meth c ls hx hb hml hr hown hts hlocks hP hK hD hZ hS hl
  have hl : lv_has ls 1 [(0, .ref (E 2))] := hl
  have S0 : CallFix p m c cX6_creasesSum 1 s args wsX6_creasesSum RX6 := ⟨hx, hb, hml, hown, hts⟩
  rw [fX6_creasesSum] at hE
  refine lv_aload_n hx hb dX6_creasesSum_0 rfl (lv_at hl 0 rfl) ?_
  refine z_bipush hx hb dX6_creasesSum_1 (by decide +kernel) ?_
  refine z_bipush hx hb dX6_creasesSum_3 (by decide +kernel) ?_
  refine ct_Vi (VC_fix E cI cC) hZo hZb hZ S0 (kX6_sumOf l D E cI cC Z hZo hZb M (20) (10) (by omega) (by omega) (fX6_sumOf M (20) (10)) rfl) (cwV 2 hts gX6_creasesSum_X6_sumOf rfl rfl rfl (by decide +kernel) ⟨(Nat.le_of_ble_eq_true rfl), (Nat.le_of_ble_eq_true rfl)⟩) hK hP hD hS rfl rfl VC_2 rfl hl.1 rfl (Nat.le_of_ble_eq_true rfl) dX6_creasesSum_5 ⟨Nat.zero_le _, Nat.zero_le _⟩ (fun H locs hP hD hS => ?_)
  exact ci_i hx hb hr hlocks hE rfl hS hP dX6_creasesSum_8

def fX6_stainsSum (M : Mem) : Int := (fX6_sumOf M (30) (10))
set_option maxRecDepth 100000 in
set_option maxHeartbeats 4000000 in
theorem kX6_stainsSum (l : Launch) (D : va_G) (E : Nat → Nat) (cI cC : ClassId) (Z : State → Prop) (hZo : ∀ M : Mem, ZOk (VC E cI cC M) Z) (hZb : ZBl Z) (M : Mem)  (r : Int) (hE : fX6_stainsSum M = r) : Ci l yX6_stainsSum wsX6_stainsSum 1 24 [.ref (E 2)] D (TY cI cC) (VC E cI cC) Z M r M := by
  refine Ci.of (cc := cX6_stainsSum) (maxL := 1) (ret := (some .int)) (by decide +kernel) rfl (Nat.le_of_ble_eq_true rfl) ?_
  intro p e s m args below meth c ls hx hb hml hr hown hts hlocks hP hK hD hZ hS hl
  have hl : lv_has ls 1 [(0, .ref (E 2))] := hl
  have S0 : CallFix p m c cX6_stainsSum 1 s args wsX6_stainsSum RX6 := ⟨hx, hb, hml, hown, hts⟩
  rw [fX6_stainsSum] at hE
  refine lv_aload_n hx hb dX6_stainsSum_0 rfl (lv_at hl 0 rfl) ?_
  refine z_bipush hx hb dX6_stainsSum_1 (by decide +kernel) ?_
  refine z_bipush hx hb dX6_stainsSum_3 (by decide +kernel) ?_
  refine ct_Vi (VC_fix E cI cC) hZo hZb hZ S0 (kX6_sumOf l D E cI cC Z hZo hZb M (30) (10) (by omega) (by omega) (fX6_sumOf M (30) (10)) rfl) (cwV 2 hts gX6_stainsSum_X6_sumOf rfl rfl rfl (by decide +kernel) ⟨(Nat.le_of_ble_eq_true rfl), (Nat.le_of_ble_eq_true rfl)⟩) hK hP hD hS rfl rfl VC_2 rfl hl.1 rfl (Nat.le_of_ble_eq_true rfl) dX6_stainsSum_5 ⟨Nat.zero_le _, Nat.zero_le _⟩ (fun H locs hP hD hS => ?_)
  exact ci_i hx hb hr hlocks hE rfl hS hP dX6_stainsSum_8

def fX6_foldingsSum (M : Mem) : Int := (fX6_sumOf M (40) (10))
set_option maxRecDepth 100000 in
set_option maxHeartbeats 4000000 in
theorem kX6_foldingsSum (l : Launch) (D : va_G) (E : Nat → Nat) (cI cC : ClassId) (Z : State → Prop) (hZo : ∀ M : Mem, ZOk (VC E cI cC M) Z) (hZb : ZBl Z) (M : Mem)  (r : Int) (hE : fX6_foldingsSum M = r) : Ci l yX6_foldingsSum wsX6_foldingsSum 1 24 [.ref (E 2)] D (TY cI cC) (VC E cI cC) Z M r M := by
  refine Ci.of (cc := cX6_foldingsSum) (maxL := 1) (ret := (some .int)) (by decide +kernel) rfl (Nat.le_of_ble_eq_true rfl) ?_
  intro p e s m args below meth c ls hx hb hml hr hown hts hlocks hP hK hD hZ hS hl
  have hl : lv_has ls 1 [(0, .ref (E 2))] := hl
  have S0 : CallFix p m c cX6_foldingsSum 1 s args wsX6_foldingsSum RX6 := ⟨hx, hb, hml, hown, hts⟩
  rw [fX6_foldingsSum] at hE
  refine lv_aload_n hx hb dX6_foldingsSum_0 rfl (lv_at hl 0 rfl) ?_
  refine z_bipush hx hb dX6_foldingsSum_1 (by decide +kernel) ?_
  refine z_bipush hx hb dX6_foldingsSum_3 (by decide +kernel) ?_
  refine ct_Vi (VC_fix E cI cC) hZo hZb hZ S0 (kX6_sumOf l D E cI cC Z hZo hZb M (40) (10) (by omega) (by omega) (fX6_sumOf M (40) (10)) rfl) (cwV 2 hts gX6_foldingsSum_X6_sumOf rfl rfl rfl (by decide +kernel) ⟨(Nat.le_of_ble_eq_true rfl), (Nat.le_of_ble_eq_true rfl)⟩) hK hP hD hS rfl rfl VC_2 rfl hl.1 rfl (Nat.le_of_ble_eq_true rfl) dX6_foldingsSum_5 ⟨Nat.zero_le _, Nat.zero_le _⟩ (fun H locs hP hD hS => ?_)
  exact ci_i hx hb hr hlocks hE rfl hS hP dX6_foldingsSum_8

def fX6_puzzlesSum (M : Mem) : Int := (fX6_sumOf M (74) (3))
set_option maxRecDepth 100000 in
set_option maxHeartbeats 4000000 in
theorem kX6_puzzlesSum (l : Launch) (D : va_G) (E : Nat → Nat) (cI cC : ClassId) (Z : State → Prop) (hZo : ∀ M : Mem, ZOk (VC E cI cC M) Z) (hZb : ZBl Z) (M : Mem)  (r : Int) (hE : fX6_puzzlesSum M = r) : Ci l yX6_puzzlesSum wsX6_puzzlesSum 1 24 [.ref (E 2)] D (TY cI cC) (VC E cI cC) Z M r M := by
  refine Ci.of (cc := cX6_puzzlesSum) (maxL := 1) (ret := (some .int)) (by decide +kernel) rfl (Nat.le_of_ble_eq_true rfl) ?_
  intro p e s m args below meth c ls hx hb hml hr hown hts hlocks hP hK hD hZ hS hl
  have hl : lv_has ls 1 [(0, .ref (E 2))] := hl
  have S0 : CallFix p m c cX6_puzzlesSum 1 s args wsX6_puzzlesSum RX6 := ⟨hx, hb, hml, hown, hts⟩
  rw [fX6_puzzlesSum] at hE
  refine lv_aload_n hx hb dX6_puzzlesSum_0 rfl (lv_at hl 0 rfl) ?_
  refine z_bipush hx hb dX6_puzzlesSum_1 (by decide +kernel) ?_
  refine z_iconst hx hb dX6_puzzlesSum_3 ?_
  refine ct_Vi (VC_fix E cI cC) hZo hZb hZ S0 (kX6_sumOf l D E cI cC Z hZo hZb M (74) (3) (by omega) (by omega) (fX6_sumOf M (74) (3)) rfl) (cwV 2 hts gX6_puzzlesSum_X6_sumOf rfl rfl rfl (by decide +kernel) ⟨(Nat.le_of_ble_eq_true rfl), (Nat.le_of_ble_eq_true rfl)⟩) hK hP hD hS rfl rfl VC_2 rfl hl.1 rfl (Nat.le_of_ble_eq_true rfl) dX6_puzzlesSum_4 ⟨Nat.zero_le _, Nat.zero_le _⟩ (fun H locs hP hD hS => ?_)
  exact ci_i hx hb hr hlocks hE rfl hS hP dX6_puzzlesSum_7
