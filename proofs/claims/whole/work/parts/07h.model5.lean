/-! the model: reading a text, its signs -/

theorem z_hole {offs : Array Int} {dflt lo hi a : Int} {L : List Int} (h : ∀ n : Nat, n < (hi - lo + 1).toNat → offs[n]? = some dflt ∨ (lo + n) ∈ L) (ha : ∀ x ∈ L, ¬ a = x) : a < lo ∨ hi < a ∨ offs[(a - lo).toNat]? = some dflt := by
  by_cases h1 : a < lo
  · exact Or.inl h1
  · by_cases h2 : hi < a
    · exact Or.inr (Or.inl h2)
    · rcases h (a - lo).toNat (by omega) with g | g
      · exact Or.inr (Or.inr g)
      · exact absurd (show a = lo + ((a - lo).toNat : Int) by omega) (ha _ g)
section
variable {p : Program} {l : Launch} {e : Env} {R : Room} {s : State} {m : MethodId} {args : Array Value} {below : List Frame} {meth : Method} {c : Code} {H : Heap} {locs : List Loc} {cells slots : Nat} {Q : State → Prop}
variable {cc : ByteArray} {pc : Nat} {ls : Array Slot} {rest : List Value}
theorem z_tableX (hx : p.tables.exec = Jvm.exec) (hb : c.code = cc) {dflt lo hi : Int} {offs : Array Int} {len : Nat} {a : Int} {tgt : Nat} (hdg : decode cc pc = .ok (.tableswitch dflt lo hi offs, len)) (ha : I32 a) (h : a < lo ∨ hi < a ∨ offs[(a - lo).toNat]? = some dflt) (ht : (pc : Int) + dflt = (tgt : Int))
    (k : W p l e R s m args below meth c H locs cells slots Q (F0 m tgt ls rest)) : W p l e R s m args below meth c H locs cells slots Q (F0 m pc ls (.int (iI a) :: rest)) := by
  by_cases h1 : a < lo ∨ hi < a
  · exact z_tableD hx hb hdg ha h1 ht k
  · rcases h with h | h | h
    · exact absurd (Or.inl h) h1
    · exact absurd (Or.inr h) h1
    · exact lv_tableIn hx hb hdg (by rw [iI_ti ha]; omega) (by rw [iI_ti ha]; omega) (by rw [iI_ti ha]; exact h) ht k
end
def TL (M : Mem) : Prop := ∀ j : Int, 0 ≤ j → j < 240 → -1 ≤ M 6 j ∧ M 6 j < 65536
theorem TL_of {M N : Mem} (h6 : N 6 = M 6) (h : TL M) : TL N := by unfold TL at *; rw [h6]; exact h
theorem TL_up {M : Mem} (h : TL M) {z v : Int} (hv : -1 ≤ v ∧ v < 65536) : TL (mst M 6 z v) := fun j a b => by
  have := h j a b
  show -1 ≤ up (M 6) z v j ∧ up (M 6) z v j < 65536
  unfold up
  split
  · exact hv
  · exact this
theorem RI_27s {M : Mem} (h : RI M) {v : Int} (hv : 0 ≤ v ∧ v ≤ 60) : RI (msf M 27 v) := ⟨h.1, hv, h.2.2.1, h.2.2.2⟩
theorem RI_28s {M : Mem} (h : RI M) {v : Int} (hv : 0 ≤ v ∧ v ≤ 1) : RI (msf M 28 v) := ⟨h.1, h.2.1, hv, h.2.2.2⟩

def fX9_here (M : Mem) : Int := if ((M 17 0) ≤ (M 27 0)) then (-1) else (M 4 (M 27 0))
set_option maxRecDepth 100000 in
set_option maxHeartbeats 4000000 in
theorem kX9_here (l : Launch) (D : va_G) (E : Nat → Nat) (cI cC : ClassId) (Z : State → Prop) (hZo : ∀ M : Mem, ZOk (VG E cI cC M) Z) (hZb : ZBl Z) (M : Mem) (hR : RI M) (r : Int) (hE : fX9_here M = r) : Ci l yX9_here wsX9_here 0 0 [.ref (E 0)] D (TY cI cC) (VG E cI cC) Z M r M := by
  refine Ci.of (cc := cX9_here) (maxL := 1) (ret := (some .int)) (by decide +kernel) rfl (Nat.le_of_ble_eq_true rfl) ?_
  intro p e s m args below meth c ls hx hb hml hr hown hts hlocks hP hK hD hZ hS hl
  have hl : lv_has ls 1 [(0, .ref (E 0))] := hl
  have S0 : CallFix p m c cX9_here 1 s args wsX9_here RX9 := ⟨hx, hb, hml, hown, hts⟩
  have hinX9 : ∀ w ∈ u_ws RX9 TX9 20, w ∈ wsX9_here := by decide +kernel
  rw [fX9_here] at hE
  refine lv_aload_n hx hb dX9_here_0 rfl (lv_at hl 0 rfl) ?_
  refine va_get (own := RX9) (ref := "NapkinSyntaxModel") (C := RX9) (T := TX9) (N := 20) hx hb hts hinX9 hown hK hP 0 VG_0 rfl 17 (Nat.le_of_ble_eq_true rfl) (hts (.fieldLink RX9 199 "NapkinSyntaxModel" "spot" "I") (by decide +kernel)) (fun _ h => h) (v := .int (iI (M 27 0))) rfl dX9_here_1 ?_
  have q1 := RI_27 hR
  refine lv_aload_n hx hb dX9_here_4 rfl (lv_at hl 0 rfl) ?_
  refine va_get (own := RX9) (ref := "NapkinSyntaxModel") (C := RX9) (T := TX9) (N := 20) hx hb hts hinX9 hown hK hP 0 VG_0 rfl 7 (Nat.le_of_ble_eq_true rfl) (hts (.fieldLink RX9 196 "NapkinSyntaxModel" "typed" "I") (by decide +kernel)) (fun _ h => h) (v := .int (iI (M 17 0))) rfl dX9_here_5 ?_
  have q2 := RI_17 hR
  refine z_icmp_ge hx hb dX9_here_8 (tgt := 23) rfl (by omega) (by omega) (fun b3 => ?_) (fun b3 => ?_)
  · rw [if_pos b3] at hE
    refine z_iconst hx hb dX9_here_23 ?_
    exact ci_i hx hb hr hlocks hE rfl hS hP dX9_here_24
  · rw [if_neg b3] at hE
    refine lv_aload_n hx hb dX9_here_11 rfl (lv_at hl 0 rfl) ?_
    refine va_get (own := RX9) (ref := "NapkinSyntaxModel") (C := RX9) (T := TX9) (N := 20) hx hb hts hinX9 hown hK hP 0 VG_0 rfl 6 (Nat.le_of_ble_eq_true rfl) (hts (.fieldLink RX9 22 "NapkinSyntaxModel" "input" "[C") (by decide +kernel)) (fun _ h => h) (v := .ref (E 5)) rfl dX9_here_12 ?_
    refine lv_aload_n hx hb dX9_here_15 rfl (lv_at hl 0 rfl) ?_
    refine va_get (own := RX9) (ref := "NapkinSyntaxModel") (C := RX9) (T := TX9) (N := 20) hx hb hts hinX9 hown hK hP 0 VG_0 rfl 17 (Nat.le_of_ble_eq_true rfl) (hts (.fieldLink RX9 199 "NapkinSyntaxModel" "spot" "I") (by decide +kernel)) (fun _ h => h) (v := .int (iI (M 27 0))) rfl dX9_here_16 ?_
    have q4 := RI_27 hR
    refine z_cald hx hb hK hP 5 1 VG_5 rfl (by omega) (by omega) (by decide) dX9_here_19 ?_
    have q5 := RI_4 hR (M 27 0) (by omega) (by omega)
    refine lv_goto hx hb dX9_here_20 (tgt := 24) rfl ?_
    exact ci_i hx hb hr hlocks hE rfl hS hP dX9_here_24


theorem dX9_here {M : Mem} (h : RI M) : (fX9_here M = -1 ∧ M 17 0 ≤ M 27 0) ∨ (0 ≤ fX9_here M ∧ fX9_here M < 65536 ∧ M 27 0 < M 17 0) := by
  have a := RI_17 h
  have b := RI_27 h
  unfold fX9_here
  by_cases q : M 17 0 ≤ M 27 0
  · left
    rw [if_pos q]
    exact ⟨rfl, q⟩
  · right
    rw [if_neg q]
    have c := RI_4 h (M 27 0) (by omega) (by omega)
    exact ⟨c.1, c.2, by omega⟩

def fX9_needs (M : Mem) (ch : Int) : Mem := if ((M 28 0) = 0) then if ((fX9_here M) = ch) then (msf (msf M 28 (0)) 27 ((M 27 0) + (1))) else (msf (msf M 28 (1)) 27 ((M 27 0) + (0))) else (msf (msf M 28 (1)) 27 ((M 27 0) + (0)))
set_option maxRecDepth 100000 in
set_option maxHeartbeats 4000000 in
theorem kX9_needs (l : Launch) (D : va_G) (E : Nat → Nat) (cI cC : ClassId) (Z : State → Prop) (hZo : ∀ M : Mem, ZOk (VG E cI cC M) Z) (hZb : ZBl Z) (M : Mem) (ch : Int) (h1 : 0 ≤ ch ∧ ch < 65536) (hR : RI M) (M' : Mem) (hE : fX9_needs M ch = M') : Cv l yX9_needs wsX9_needs 1 20 [.ref (E 0), .int (iI ch)] D (TY cI cC) (VG E cI cC) Z M M' := by
  refine Cv.of (cc := cX9_needs) (maxL := 2) (ret := none) (by decide +kernel) rfl (Nat.le_of_ble_eq_true rfl) ?_
  intro p e s m args below meth c ls hx hb hml hr hown hts hlocks hP hK hD hZ hS hl
  have hl : lv_has ls 2 [(0, .ref (E 0)), (1, .int (iI ch))] := hl
  have S0 : CallFix p m c cX9_needs 2 s args wsX9_needs RX9 := ⟨hx, hb, hml, hown, hts⟩
  have hinX9 : ∀ w ∈ u_ws RX9 TX9 20, w ∈ wsX9_needs := by decide +kernel
  rw [fX9_needs] at hE
  refine lv_aload_n hx hb dX9_needs_0 rfl (lv_at hl 0 rfl) ?_
  refine lv_aload_n hx hb dX9_needs_1 rfl (lv_at hl 0 rfl) ?_
  refine va_get (own := RX9) (ref := "NapkinSyntaxModel") (C := RX9) (T := TX9) (N := 20) hx hb hts hinX9 hown hK hP 0 VG_0 rfl 18 (Nat.le_of_ble_eq_true rfl) (hts (.fieldLink RX9 202 "NapkinSyntaxModel" "isWrong" "Z") (by decide +kernel)) (fun _ h => h) (v := .int (iI (M 28 0))) rfl dX9_needs_2 ?_
  have q1 := RI_28 hR
  refine z_if_ne hx hb dX9_needs_5 (tgt := 16) rfl (by omega) (fun b2 => ?_) (fun b2 => ?_)
  · rw [if_neg b2] at hE
    refine z_iconst hx hb dX9_needs_16 ?_
    refine lv_goto hx hb dX9_needs_17 (tgt := 21) rfl ?_
    refine va_put (own := RX9) (ref := "NapkinSyntaxModel") (C := RX9) (T := TX9) (N := 20) hx hb hts hinX9 tyX9 tyX9_ok nmX9 hown hK hP hD hS 0 VG_0 rfl 18 (Nat.le_of_ble_eq_true rfl) (hts (.fieldLink RX9 202 "NapkinSyntaxModel" "isWrong" "Z") (by decide +kernel)) (fun _ h => h) rfl (ty := .boolean) (v := .int (iI (1))) (by decide +kernel) nr_b1 rfl (Nat.le_of_ble_eq_true rfl) dX9_needs_21 (fun H locs hP hD hS => ?_)
    rw [VGf_28] at hP hD
    refine lv_aload_n hx hb dX9_needs_24 rfl (lv_at hl 0 rfl) ?_
    refine lv_dup hx hb dX9_needs_25 rfl ?_
    refine va_get (own := RX9) (ref := "NapkinSyntaxModel") (C := RX9) (T := TX9) (N := 20) hx hb hts hinX9 hown hK hP 0 VG_0 rfl 17 (Nat.le_of_ble_eq_true rfl) (hts (.fieldLink RX9 199 "NapkinSyntaxModel" "spot" "I") (by decide +kernel)) (fun _ h => h) (v := .int (iI (M 27 0))) rfl dX9_needs_26 ?_
    have q3 := RI_27 hR
    refine lv_aload_n hx hb dX9_needs_29 rfl (lv_at hl 0 rfl) ?_
    refine va_get (own := RX9) (ref := "NapkinSyntaxModel") (C := RX9) (T := TX9) (N := 20) hx hb hts hinX9 hown hK hP 0 VG_0 rfl 18 (Nat.le_of_ble_eq_true rfl) (hts (.fieldLink RX9 202 "NapkinSyntaxModel" "isWrong" "Z") (by decide +kernel)) (fun _ h => h) (v := .int (iI (1))) rfl dX9_needs_30 ?_
    have q4 := RI_28 (RI_28s hR (by omega))
    refine z_if_eq hx hb dX9_needs_33 (tgt := 40) rfl (by omega) (fun h => absurd h (by decide)) (fun h => ?_)
    refine z_iconst hx hb dX9_needs_36 ?_
    refine lv_goto hx hb dX9_needs_37 (tgt := 41) rfl ?_
    refine z_iadd hx hb dX9_needs_41 ?_
    refine va_put (own := RX9) (ref := "NapkinSyntaxModel") (C := RX9) (T := TX9) (N := 20) hx hb hts hinX9 tyX9 tyX9_ok nmX9 hown hK hP hD hS 0 VG_0 rfl 17 (Nat.le_of_ble_eq_true rfl) (hts (.fieldLink RX9 199 "NapkinSyntaxModel" "spot" "I") (by decide +kernel)) (fun _ h => h) rfl (ty := .int) (v := .int (iI ((M 27 0) + (0)))) (by decide +kernel) rfl rfl (Nat.le_of_ble_eq_true rfl) dX9_needs_42 (fun H locs hP hD hS => ?_)
    rw [VGf_27] at hP hD
    subst hE
    exact cv_v hx hb hr hlocks hS hP dX9_needs_45
  · rw [if_pos b2] at hE
    refine lv_aload_n hx hb dX9_needs_8 rfl (lv_at hl 0 rfl) ?_
    refine ct_Vi (VG_fix E cI cC) hZo hZb hZ S0 (kX9_here l D E cI cC Z hZo hZb M hR (fX9_here M) rfl) (cwV 0 hts gX9_needs_X9_here rfl rfl rfl (by decide +kernel) ⟨(Nat.le_of_ble_eq_true rfl), (Nat.le_of_ble_eq_true rfl)⟩) hK hP hD hS rfl rfl VG_0 rfl hl.1 rfl (Nat.le_of_ble_eq_true rfl) dX9_needs_9 ⟨Nat.zero_le _, Nat.zero_le _⟩ (fun H locs hP hD hS => ?_)
    have q5 := dX9_here hR
    refine lv_iload_n hx hb dX9_needs_12 rfl (lv_at hl 1 rfl) ?_
    refine z_icmp_eq hx hb dX9_needs_13 (tgt := 20) rfl (by omega) (by omega) (fun b6 => ?_) (fun b6 => ?_)
    · rw [if_pos b6] at hE
      refine z_iconst hx hb dX9_needs_20 ?_
      refine va_put (own := RX9) (ref := "NapkinSyntaxModel") (C := RX9) (T := TX9) (N := 20) hx hb hts hinX9 tyX9 tyX9_ok nmX9 hown hK hP hD hS 0 VG_0 rfl 18 (Nat.le_of_ble_eq_true rfl) (hts (.fieldLink RX9 202 "NapkinSyntaxModel" "isWrong" "Z") (by decide +kernel)) (fun _ h => h) rfl (ty := .boolean) (v := .int (iI (0))) (by decide +kernel) nr_b0 rfl (Nat.le_of_ble_eq_true rfl) dX9_needs_21 (fun H locs hP hD hS => ?_)
      rw [VGf_28] at hP hD
      refine lv_aload_n hx hb dX9_needs_24 rfl (lv_at hl 0 rfl) ?_
      refine lv_dup hx hb dX9_needs_25 rfl ?_
      refine va_get (own := RX9) (ref := "NapkinSyntaxModel") (C := RX9) (T := TX9) (N := 20) hx hb hts hinX9 hown hK hP 0 VG_0 rfl 17 (Nat.le_of_ble_eq_true rfl) (hts (.fieldLink RX9 199 "NapkinSyntaxModel" "spot" "I") (by decide +kernel)) (fun _ h => h) (v := .int (iI (M 27 0))) rfl dX9_needs_26 ?_
      have q7 := RI_27 hR
      refine lv_aload_n hx hb dX9_needs_29 rfl (lv_at hl 0 rfl) ?_
      refine va_get (own := RX9) (ref := "NapkinSyntaxModel") (C := RX9) (T := TX9) (N := 20) hx hb hts hinX9 hown hK hP 0 VG_0 rfl 18 (Nat.le_of_ble_eq_true rfl) (hts (.fieldLink RX9 202 "NapkinSyntaxModel" "isWrong" "Z") (by decide +kernel)) (fun _ h => h) (v := .int (iI (0))) rfl dX9_needs_30 ?_
      have q8 := RI_28 (RI_28s hR (by omega))
      refine z_if_eq hx hb dX9_needs_33 (tgt := 40) rfl (by omega) (fun h => ?_) (fun h => absurd h (by decide))
      refine z_iconst hx hb dX9_needs_40 ?_
      refine z_iadd hx hb dX9_needs_41 ?_
      refine va_put (own := RX9) (ref := "NapkinSyntaxModel") (C := RX9) (T := TX9) (N := 20) hx hb hts hinX9 tyX9 tyX9_ok nmX9 hown hK hP hD hS 0 VG_0 rfl 17 (Nat.le_of_ble_eq_true rfl) (hts (.fieldLink RX9 199 "NapkinSyntaxModel" "spot" "I") (by decide +kernel)) (fun _ h => h) rfl (ty := .int) (v := .int (iI ((M 27 0) + (1)))) (by decide +kernel) rfl rfl (Nat.le_of_ble_eq_true rfl) dX9_needs_42 (fun H locs hP hD hS => ?_)
      rw [VGf_27] at hP hD
      subst hE
      exact cv_v hx hb hr hlocks hS hP dX9_needs_45
    · rw [if_neg b6] at hE
      refine z_iconst hx hb dX9_needs_16 ?_
      refine lv_goto hx hb dX9_needs_17 (tgt := 21) rfl ?_
      refine va_put (own := RX9) (ref := "NapkinSyntaxModel") (C := RX9) (T := TX9) (N := 20) hx hb hts hinX9 tyX9 tyX9_ok nmX9 hown hK hP hD hS 0 VG_0 rfl 18 (Nat.le_of_ble_eq_true rfl) (hts (.fieldLink RX9 202 "NapkinSyntaxModel" "isWrong" "Z") (by decide +kernel)) (fun _ h => h) rfl (ty := .boolean) (v := .int (iI (1))) (by decide +kernel) nr_b1 rfl (Nat.le_of_ble_eq_true rfl) dX9_needs_21 (fun H locs hP hD hS => ?_)
      rw [VGf_28] at hP hD
      refine lv_aload_n hx hb dX9_needs_24 rfl (lv_at hl 0 rfl) ?_
      refine lv_dup hx hb dX9_needs_25 rfl ?_
      refine va_get (own := RX9) (ref := "NapkinSyntaxModel") (C := RX9) (T := TX9) (N := 20) hx hb hts hinX9 hown hK hP 0 VG_0 rfl 17 (Nat.le_of_ble_eq_true rfl) (hts (.fieldLink RX9 199 "NapkinSyntaxModel" "spot" "I") (by decide +kernel)) (fun _ h => h) (v := .int (iI (M 27 0))) rfl dX9_needs_26 ?_
      have q9 := RI_27 hR
      refine lv_aload_n hx hb dX9_needs_29 rfl (lv_at hl 0 rfl) ?_
      refine va_get (own := RX9) (ref := "NapkinSyntaxModel") (C := RX9) (T := TX9) (N := 20) hx hb hts hinX9 hown hK hP 0 VG_0 rfl 18 (Nat.le_of_ble_eq_true rfl) (hts (.fieldLink RX9 202 "NapkinSyntaxModel" "isWrong" "Z") (by decide +kernel)) (fun _ h => h) (v := .int (iI (1))) rfl dX9_needs_30 ?_
      have q10 := RI_28 (RI_28s hR (by omega))
      refine z_if_eq hx hb dX9_needs_33 (tgt := 40) rfl (by omega) (fun h => absurd h (by decide)) (fun h => ?_)
      refine z_iconst hx hb dX9_needs_36 ?_
      refine lv_goto hx hb dX9_needs_37 (tgt := 41) rfl ?_
      refine z_iadd hx hb dX9_needs_41 ?_
      refine va_put (own := RX9) (ref := "NapkinSyntaxModel") (C := RX9) (T := TX9) (N := 20) hx hb hts hinX9 tyX9 tyX9_ok nmX9 hown hK hP hD hS 0 VG_0 rfl 17 (Nat.le_of_ble_eq_true rfl) (hts (.fieldLink RX9 199 "NapkinSyntaxModel" "spot" "I") (by decide +kernel)) (fun _ h => h) rfl (ty := .int) (v := .int (iI ((M 27 0) + (0)))) (by decide +kernel) rfl rfl (Nat.le_of_ble_eq_true rfl) dX9_needs_42 (fun H locs hP hD hS => ?_)
      rw [VGf_27] at hP hD
      subst hE
      exact cv_v hx hb hr hlocks hS hP dX9_needs_45

theorem fr_fX9_needs {M : Mem} (ch : Int) {r : Nat} (h27 : Nat.beq r 27 = false) (h28 : Nat.beq r 28 = false) : (fX9_needs M ch) r = M r := by
  unfold fX9_needs
  (repeat' with_reducible refine frite_v (fun _ => ?_) (fun _ => ?_)) <;> first | with_reducible rfl | simp only [mst_o, msf_o, mcp_o, h27, h28]


theorem msf_27 (M : Mem) (v : Int) : msf M 27 v 27 0 = v := rfl
theorem msf_28 (M : Mem) (v : Int) : msf M 28 v 28 0 = v := rfl
theorem msf_27_28 (M : Mem) (v : Int) : msf M 28 v 27 0 = M 27 0 := rfl
theorem msf_28_27 (M : Mem) (v : Int) : msf M 27 v 28 0 = M 28 0 := rfl
/-- what the reading's places do: the wrong stays wrong, the spot doesn't fall, both stay within bounds -/
def SP (M N : Mem) : Prop := M 27 0 ≤ N 27 0 ∧ M 28 0 ≤ N 28 0 ∧ RI N ∧ N 17 0 = M 17 0
theorem SP_t {M N O : Mem} (h1 : SP M N) (h2 : SP N O) : SP M O := ⟨Int.le_trans h1.1 h2.1, Int.le_trans h1.2.1 h2.2.1, h2.2.2.1, h2.2.2.2.trans h1.2.2.2⟩
theorem sp_needs {M : Mem} (h : RI M) (c : Int) (hc : 0 ≤ c) : SP M (fX9_needs M c) := by
  have a := RI_27 h
  have b := RI_28 h
  have d := dX9_here h
  have t := RI_17 h
  unfold fX9_needs
  (repeat' split) <;> refine ⟨?_, ?_, ?_, rfl⟩ <;> first
    | exact RI_27s (RI_28s h (by omega)) (by omega)
    | (simp only [msf_27, msf_28, msf_27_28, msf_28_27]; omega)
theorem RI_needs {M : Mem} (h : RI M) (c : Int) (hc : 0 ≤ c) : RI (fX9_needs M c) := (sp_needs h c hc).2.2.1

def fX9_needsThree (M : Mem) (c1 c2 c3 : Int) : Mem := (fX9_needs (fX9_needs (fX9_needs M c1) c2) c3)
set_option maxRecDepth 100000 in
set_option maxHeartbeats 4000000 in
theorem kX9_needsThree (l : Launch) (D : va_G) (E : Nat → Nat) (cI cC : ClassId) (Z : State → Prop) (hZo : ∀ M : Mem, ZOk (VG E cI cC M) Z) (hZb : ZBl Z) (M : Mem) (c1 c2 c3 : Int) (h1 : 0 ≤ c1 ∧ c1 < 65536) (h2 : 0 ≤ c2 ∧ c2 < 65536) (h3 : 0 ≤ c3 ∧ c3 < 65536) (hR : RI M) (M' : Mem) (hE : fX9_needsThree M c1 c2 c3 = M') : Cv l yX9_needsThree wsX9_needsThree 2 41 [.ref (E 0), .int (iI c1), .int (iI c2), .int (iI c3)] D (TY cI cC) (VG E cI cC) Z M M' := by
  refine Cv.of (cc := cX9_needsThree) (maxL := 4) (ret := none) (by decide +kernel) rfl (Nat.le_of_ble_eq_true rfl) ?_
  intro p e s m args below meth c ls hx hb hml hr hown hts hlocks hP hK hD hZ hS hl
  have hl : lv_has ls 4 [(0, .ref (E 0)), (1, .int (iI c1)), (2, .int (iI c2)), (3, .int (iI c3))] := hl
  have S0 : CallFix p m c cX9_needsThree 4 s args wsX9_needsThree RX9 := ⟨hx, hb, hml, hown, hts⟩
  rw [fX9_needsThree] at hE
  refine lv_aload_n hx hb dX9_needsThree_0 rfl (lv_at hl 0 rfl) ?_
  refine lv_iload_n hx hb dX9_needsThree_1 rfl (lv_at hl 1 rfl) ?_
  refine ct_Vv (VG_fix E cI cC) hZo hZb hZ S0 (kX9_needs l D E cI cC Z hZo hZb M c1 (by omega) hR (fX9_needs M c1) rfl) (cwV 1 hts gX9_needsThree_X9_needs rfl rfl rfl (by decide +kernel) ⟨(Nat.le_of_ble_eq_true rfl), (Nat.le_of_ble_eq_true rfl)⟩) hK hP hD hS rfl rfl VG_0 rfl hl.1 rfl (Nat.le_of_ble_eq_true rfl) dX9_needsThree_2 ⟨Nat.zero_le _, Nat.zero_le _⟩ (fun H locs hP hD hS => ?_)
  refine lv_aload_n hx hb dX9_needsThree_5 rfl (lv_at hl 0 rfl) ?_
  refine lv_iload_n hx hb dX9_needsThree_6 rfl (lv_at hl 2 rfl) ?_
  refine ct_Vv (VG_fix E cI cC) hZo hZb hZ S0 (kX9_needs l D E cI cC Z hZo hZb (fX9_needs M c1) c2 (by omega) (RI_needs hR c1 (by omega)) (fX9_needs (fX9_needs M c1) c2) rfl) (cwV 1 hts gX9_needsThree_X9_needs rfl rfl rfl (by decide +kernel) ⟨(Nat.le_of_ble_eq_true rfl), (Nat.le_of_ble_eq_true rfl)⟩) hK hP hD hS rfl rfl VG_0 rfl hl.1 rfl (Nat.le_of_ble_eq_true rfl) dX9_needsThree_7 ⟨Nat.zero_le _, Nat.zero_le _⟩ (fun H locs hP hD hS => ?_)
  refine lv_aload_n hx hb dX9_needsThree_10 rfl (lv_at hl 0 rfl) ?_
  refine lv_iload_n hx hb dX9_needsThree_11 rfl (lv_at hl 3 rfl) ?_
  refine ct_Vv (VG_fix E cI cC) hZo hZb hZ S0 (kX9_needs l D E cI cC Z hZo hZb (fX9_needs (fX9_needs M c1) c2) c3 (by omega) (RI_needs (RI_needs hR c1 (by omega)) c2 (by omega)) (fX9_needs (fX9_needs (fX9_needs M c1) c2) c3) rfl) (cwV 1 hts gX9_needsThree_X9_needs rfl rfl rfl (by decide +kernel) ⟨(Nat.le_of_ble_eq_true rfl), (Nat.le_of_ble_eq_true rfl)⟩) hK hP hD hS rfl rfl VG_0 rfl hl.1 rfl (Nat.le_of_ble_eq_true rfl) dX9_needsThree_12 ⟨Nat.zero_le _, Nat.zero_le _⟩ (fun H locs hP hD hS => ?_)
  subst hE
  exact cv_v hx hb hr hlocks hS hP dX9_needsThree_15

theorem fr_fX9_needsThree {M : Mem} (c1 c2 c3 : Int) {r : Nat} (h27 : Nat.beq r 27 = false) (h28 : Nat.beq r 28 = false) : (fX9_needsThree M c1 c2 c3) r = M r := by
  unfold fX9_needsThree
  (repeat' with_reducible refine frite_v (fun _ => ?_) (fun _ => ?_)) <;> first | with_reducible rfl | simp only [mst_o, msf_o, mcp_o, fr_fX9_needs, h27, h28]


theorem sp_needsThree {M : Mem} (h : RI M) (a b c : Int) (ha : 0 ≤ a) (hb : 0 ≤ b) (hc : 0 ≤ c) : SP M (fX9_needsThree M a b c) :=
  SP_t (sp_needs h a ha) (SP_t (sp_needs (RI_needs h a ha) b hb) (sp_needs (RI_needs (RI_needs h a ha) b hb) c hc))
theorem RI_needsThree {M : Mem} (h : RI M) (a b c : Int) (ha : 0 ≤ a) (hb : 0 ≤ b) (hc : 0 ≤ c) : RI (fX9_needsThree M a b c) := (sp_needsThree h a b c ha hb hc).2.2.1

def fX9_figure (M : Mem) : Int × Mem := if ((M 28 0) = 0) then if ((fX9_in (fX9_here M) (48) (57)) = 0) then ((0), (msf (msf M 28 (1)) 27 ((M 27 0) + (0)))) else (((fX9_here M) - (48)), (msf (msf M 28 (0)) 27 ((M 27 0) + (1)))) else ((0), (msf (msf M 28 (1)) 27 ((M 27 0) + (0))))
set_option maxRecDepth 100000 in
set_option maxHeartbeats 4000000 in
theorem kX9_figure (l : Launch) (D : va_G) (E : Nat → Nat) (cI cC : ClassId) (Z : State → Prop) (hZo : ∀ M : Mem, ZOk (VG E cI cC M) Z) (hZb : ZBl Z) (M : Mem) (hR : RI M) (r : Int) (M' : Mem) (hE : fX9_figure M = (r, M')) : Ci l yX9_figure wsX9_figure 1 22 [.ref (E 0)] D (TY cI cC) (VG E cI cC) Z M r M' := by
  refine Ci.of (cc := cX9_figure) (maxL := 2) (ret := (some .int)) (by decide +kernel) rfl (Nat.le_of_ble_eq_true rfl) ?_
  intro p e s m args below meth c ls hx hb hml hr hown hts hlocks hP hK hD hZ hS hl
  have hl : lv_has ls 2 [(0, .ref (E 0))] := hl
  have S0 : CallFix p m c cX9_figure 2 s args wsX9_figure RX9 := ⟨hx, hb, hml, hown, hts⟩
  have hinX9 : ∀ w ∈ u_ws RX9 TX9 20, w ∈ wsX9_figure := by decide +kernel
  rw [fX9_figure] at hE
  refine lv_aload_n hx hb dX9_figure_0 rfl (lv_at hl 0 rfl) ?_
  refine ct_Vi (VG_fix E cI cC) hZo hZb hZ S0 (kX9_here l D E cI cC Z hZo hZb M hR (fX9_here M) rfl) (cwV 0 hts gX9_figure_X9_here rfl rfl rfl (by decide +kernel) ⟨(Nat.le_of_ble_eq_true rfl), (Nat.le_of_ble_eq_true rfl)⟩) hK hP hD hS rfl rfl VG_0 rfl hl.1 rfl (Nat.le_of_ble_eq_true rfl) dX9_figure_1 ⟨Nat.zero_le _, Nat.zero_le _⟩ (fun H locs hP hD hS => ?_)
  have q1 := dX9_here hR
  refine lv_istore_n hx hb dX9_figure_4 rfl hl (Nat.le_of_ble_eq_true rfl) (lv' := [(1, .int (iI (fX9_here M))), (0, .ref (E 0))]) rfl (fun ls hl => ?_)
  refine lv_aload_n hx hb dX9_figure_5 rfl (lv_at hl 1 rfl) ?_
  refine lv_aload_n hx hb dX9_figure_6 rfl (lv_at hl 1 rfl) ?_
  refine va_get (own := RX9) (ref := "NapkinSyntaxModel") (C := RX9) (T := TX9) (N := 20) hx hb hts hinX9 hown hK hP 0 VG_0 rfl 18 (Nat.le_of_ble_eq_true rfl) (hts (.fieldLink RX9 202 "NapkinSyntaxModel" "isWrong" "Z") (by decide +kernel)) (fun _ h => h) (v := .int (iI (M 28 0))) rfl dX9_figure_7 ?_
  have q2 := RI_28 hR
  refine z_if_ne hx hb dX9_figure_10 (tgt := 24) rfl (by omega) (fun b3 => ?_) (fun b3 => ?_)
  · rw [if_neg b3] at hE
    refine z_iconst hx hb dX9_figure_24 ?_
    refine lv_goto hx hb dX9_figure_25 (tgt := 29) rfl ?_
    refine va_put (own := RX9) (ref := "NapkinSyntaxModel") (C := RX9) (T := TX9) (N := 20) hx hb hts hinX9 tyX9 tyX9_ok nmX9 hown hK hP hD hS 0 VG_0 rfl 18 (Nat.le_of_ble_eq_true rfl) (hts (.fieldLink RX9 202 "NapkinSyntaxModel" "isWrong" "Z") (by decide +kernel)) (fun _ h => h) rfl (ty := .boolean) (v := .int (iI (1))) (by decide +kernel) nr_b1 rfl (Nat.le_of_ble_eq_true rfl) dX9_figure_29 (fun H locs hP hD hS => ?_)
    rw [VGf_28] at hP hD
    refine lv_aload_n hx hb dX9_figure_32 rfl (lv_at hl 1 rfl) ?_
    refine lv_dup hx hb dX9_figure_33 rfl ?_
    refine va_get (own := RX9) (ref := "NapkinSyntaxModel") (C := RX9) (T := TX9) (N := 20) hx hb hts hinX9 hown hK hP 0 VG_0 rfl 17 (Nat.le_of_ble_eq_true rfl) (hts (.fieldLink RX9 199 "NapkinSyntaxModel" "spot" "I") (by decide +kernel)) (fun _ h => h) (v := .int (iI (M 27 0))) rfl dX9_figure_34 ?_
    have q4 := RI_27 hR
    refine lv_aload_n hx hb dX9_figure_37 rfl (lv_at hl 1 rfl) ?_
    refine va_get (own := RX9) (ref := "NapkinSyntaxModel") (C := RX9) (T := TX9) (N := 20) hx hb hts hinX9 hown hK hP 0 VG_0 rfl 18 (Nat.le_of_ble_eq_true rfl) (hts (.fieldLink RX9 202 "NapkinSyntaxModel" "isWrong" "Z") (by decide +kernel)) (fun _ h => h) (v := .int (iI (1))) rfl dX9_figure_38 ?_
    have q5 := RI_28 (RI_28s hR (by omega))
    refine z_if_eq hx hb dX9_figure_41 (tgt := 48) rfl (by omega) (fun h => absurd h (by decide)) (fun h => ?_)
    refine z_iconst hx hb dX9_figure_44 ?_
    refine lv_goto hx hb dX9_figure_45 (tgt := 49) rfl ?_
    refine z_iadd hx hb dX9_figure_49 ?_
    refine va_put (own := RX9) (ref := "NapkinSyntaxModel") (C := RX9) (T := TX9) (N := 20) hx hb hts hinX9 tyX9 tyX9_ok nmX9 hown hK hP hD hS 0 VG_0 rfl 17 (Nat.le_of_ble_eq_true rfl) (hts (.fieldLink RX9 199 "NapkinSyntaxModel" "spot" "I") (by decide +kernel)) (fun _ h => h) rfl (ty := .int) (v := .int (iI ((M 27 0) + (0)))) (by decide +kernel) rfl rfl (Nat.le_of_ble_eq_true rfl) dX9_figure_50 (fun H locs hP hD hS => ?_)
    rw [VGf_27] at hP hD
    refine lv_aload_n hx hb dX9_figure_53 rfl (lv_at hl 1 rfl) ?_
    refine va_get (own := RX9) (ref := "NapkinSyntaxModel") (C := RX9) (T := TX9) (N := 20) hx hb hts hinX9 hown hK hP 0 VG_0 rfl 18 (Nat.le_of_ble_eq_true rfl) (hts (.fieldLink RX9 202 "NapkinSyntaxModel" "isWrong" "Z") (by decide +kernel)) (fun _ h => h) (v := .int (iI (1))) rfl dX9_figure_54 ?_
    have q6 := RI_28 (RI_28s hR (by omega))
    refine z_if_eq hx hb dX9_figure_57 (tgt := 64) rfl (by omega) (fun h => absurd h (by decide)) (fun h => ?_)
    refine z_iconst hx hb dX9_figure_60 ?_
    refine lv_goto hx hb dX9_figure_61 (tgt := 68) rfl ?_
    obtain ⟨e1, e2⟩ := Prod.mk.inj hE
    subst e2
    exact ci_i hx hb hr hlocks e1 rfl hS hP dX9_figure_68
  · rw [if_pos b3] at hE
    refine lv_iload_n hx hb dX9_figure_13 rfl (lv_at hl 0 rfl) ?_
    refine z_bipush hx hb dX9_figure_14 (by decide +kernel) ?_
    refine z_bipush hx hb dX9_figure_16 (by decide +kernel) ?_
    refine ct_Si (VG_fix E cI cC) hZo hZb hZ S0 (kX9_in l D E cI cC Z hZo hZb M (fX9_here M) (48) (57) (by omega) (by omega) (by omega) (fX9_in (fX9_here M) (48) (57)) rfl) (va_cwS 3 hts gX9_figure_X9_in rfl rfl rfl (by decide +kernel) ⟨(Nat.le_of_ble_eq_true rfl), (Nat.le_of_ble_eq_true rfl)⟩) hK hP hD hS rfl hl.1 rfl (Nat.le_of_ble_eq_true rfl) dX9_figure_18 ⟨Nat.zero_le _, Nat.zero_le _⟩ (fun H locs hP hD hS => ?_)
    have q7 := dX9_in (fX9_here M) (48) (57)
    refine z_if_ne hx hb dX9_figure_21 (tgt := 28) rfl (by omega) (fun b8 => ?_) (fun b8 => ?_)
    · rw [if_neg b8] at hE
      refine z_iconst hx hb dX9_figure_28 ?_
      refine va_put (own := RX9) (ref := "NapkinSyntaxModel") (C := RX9) (T := TX9) (N := 20) hx hb hts hinX9 tyX9 tyX9_ok nmX9 hown hK hP hD hS 0 VG_0 rfl 18 (Nat.le_of_ble_eq_true rfl) (hts (.fieldLink RX9 202 "NapkinSyntaxModel" "isWrong" "Z") (by decide +kernel)) (fun _ h => h) rfl (ty := .boolean) (v := .int (iI (0))) (by decide +kernel) nr_b0 rfl (Nat.le_of_ble_eq_true rfl) dX9_figure_29 (fun H locs hP hD hS => ?_)
      rw [VGf_28] at hP hD
      refine lv_aload_n hx hb dX9_figure_32 rfl (lv_at hl 1 rfl) ?_
      refine lv_dup hx hb dX9_figure_33 rfl ?_
      refine va_get (own := RX9) (ref := "NapkinSyntaxModel") (C := RX9) (T := TX9) (N := 20) hx hb hts hinX9 hown hK hP 0 VG_0 rfl 17 (Nat.le_of_ble_eq_true rfl) (hts (.fieldLink RX9 199 "NapkinSyntaxModel" "spot" "I") (by decide +kernel)) (fun _ h => h) (v := .int (iI (M 27 0))) rfl dX9_figure_34 ?_
      have q9 := RI_27 hR
      refine lv_aload_n hx hb dX9_figure_37 rfl (lv_at hl 1 rfl) ?_
      refine va_get (own := RX9) (ref := "NapkinSyntaxModel") (C := RX9) (T := TX9) (N := 20) hx hb hts hinX9 hown hK hP 0 VG_0 rfl 18 (Nat.le_of_ble_eq_true rfl) (hts (.fieldLink RX9 202 "NapkinSyntaxModel" "isWrong" "Z") (by decide +kernel)) (fun _ h => h) (v := .int (iI (0))) rfl dX9_figure_38 ?_
      have q10 := RI_28 (RI_28s hR (by omega))
      refine z_if_eq hx hb dX9_figure_41 (tgt := 48) rfl (by omega) (fun h => ?_) (fun h => absurd h (by decide))
      refine z_iconst hx hb dX9_figure_48 ?_
      refine z_iadd hx hb dX9_figure_49 ?_
      refine va_put (own := RX9) (ref := "NapkinSyntaxModel") (C := RX9) (T := TX9) (N := 20) hx hb hts hinX9 tyX9 tyX9_ok nmX9 hown hK hP hD hS 0 VG_0 rfl 17 (Nat.le_of_ble_eq_true rfl) (hts (.fieldLink RX9 199 "NapkinSyntaxModel" "spot" "I") (by decide +kernel)) (fun _ h => h) rfl (ty := .int) (v := .int (iI ((M 27 0) + (1)))) (by decide +kernel) rfl rfl (Nat.le_of_ble_eq_true rfl) dX9_figure_50 (fun H locs hP hD hS => ?_)
      rw [VGf_27] at hP hD
      refine lv_aload_n hx hb dX9_figure_53 rfl (lv_at hl 1 rfl) ?_
      refine va_get (own := RX9) (ref := "NapkinSyntaxModel") (C := RX9) (T := TX9) (N := 20) hx hb hts hinX9 hown hK hP 0 VG_0 rfl 18 (Nat.le_of_ble_eq_true rfl) (hts (.fieldLink RX9 202 "NapkinSyntaxModel" "isWrong" "Z") (by decide +kernel)) (fun _ h => h) (v := .int (iI (0))) rfl dX9_figure_54 ?_
      have q11 := RI_28 (RI_28s hR (by omega))
      refine z_if_eq hx hb dX9_figure_57 (tgt := 64) rfl (by omega) (fun h => ?_) (fun h => absurd h (by decide))
      refine lv_iload_n hx hb dX9_figure_64 rfl (lv_at hl 0 rfl) ?_
      refine z_bipush hx hb dX9_figure_65 (by decide +kernel) ?_
      refine z_isub hx hb dX9_figure_67 ?_
      obtain ⟨e1, e2⟩ := Prod.mk.inj hE
      subst e2
      exact ci_i hx hb hr hlocks e1 rfl hS hP dX9_figure_68
    · rw [if_pos b8] at hE
      refine z_iconst hx hb dX9_figure_24 ?_
      refine lv_goto hx hb dX9_figure_25 (tgt := 29) rfl ?_
      refine va_put (own := RX9) (ref := "NapkinSyntaxModel") (C := RX9) (T := TX9) (N := 20) hx hb hts hinX9 tyX9 tyX9_ok nmX9 hown hK hP hD hS 0 VG_0 rfl 18 (Nat.le_of_ble_eq_true rfl) (hts (.fieldLink RX9 202 "NapkinSyntaxModel" "isWrong" "Z") (by decide +kernel)) (fun _ h => h) rfl (ty := .boolean) (v := .int (iI (1))) (by decide +kernel) nr_b1 rfl (Nat.le_of_ble_eq_true rfl) dX9_figure_29 (fun H locs hP hD hS => ?_)
      rw [VGf_28] at hP hD
      refine lv_aload_n hx hb dX9_figure_32 rfl (lv_at hl 1 rfl) ?_
      refine lv_dup hx hb dX9_figure_33 rfl ?_
      refine va_get (own := RX9) (ref := "NapkinSyntaxModel") (C := RX9) (T := TX9) (N := 20) hx hb hts hinX9 hown hK hP 0 VG_0 rfl 17 (Nat.le_of_ble_eq_true rfl) (hts (.fieldLink RX9 199 "NapkinSyntaxModel" "spot" "I") (by decide +kernel)) (fun _ h => h) (v := .int (iI (M 27 0))) rfl dX9_figure_34 ?_
      have q12 := RI_27 hR
      refine lv_aload_n hx hb dX9_figure_37 rfl (lv_at hl 1 rfl) ?_
      refine va_get (own := RX9) (ref := "NapkinSyntaxModel") (C := RX9) (T := TX9) (N := 20) hx hb hts hinX9 hown hK hP 0 VG_0 rfl 18 (Nat.le_of_ble_eq_true rfl) (hts (.fieldLink RX9 202 "NapkinSyntaxModel" "isWrong" "Z") (by decide +kernel)) (fun _ h => h) (v := .int (iI (1))) rfl dX9_figure_38 ?_
      have q13 := RI_28 (RI_28s hR (by omega))
      refine z_if_eq hx hb dX9_figure_41 (tgt := 48) rfl (by omega) (fun h => absurd h (by decide)) (fun h => ?_)
      refine z_iconst hx hb dX9_figure_44 ?_
      refine lv_goto hx hb dX9_figure_45 (tgt := 49) rfl ?_
      refine z_iadd hx hb dX9_figure_49 ?_
      refine va_put (own := RX9) (ref := "NapkinSyntaxModel") (C := RX9) (T := TX9) (N := 20) hx hb hts hinX9 tyX9 tyX9_ok nmX9 hown hK hP hD hS 0 VG_0 rfl 17 (Nat.le_of_ble_eq_true rfl) (hts (.fieldLink RX9 199 "NapkinSyntaxModel" "spot" "I") (by decide +kernel)) (fun _ h => h) rfl (ty := .int) (v := .int (iI ((M 27 0) + (0)))) (by decide +kernel) rfl rfl (Nat.le_of_ble_eq_true rfl) dX9_figure_50 (fun H locs hP hD hS => ?_)
      rw [VGf_27] at hP hD
      refine lv_aload_n hx hb dX9_figure_53 rfl (lv_at hl 1 rfl) ?_
      refine va_get (own := RX9) (ref := "NapkinSyntaxModel") (C := RX9) (T := TX9) (N := 20) hx hb hts hinX9 hown hK hP 0 VG_0 rfl 18 (Nat.le_of_ble_eq_true rfl) (hts (.fieldLink RX9 202 "NapkinSyntaxModel" "isWrong" "Z") (by decide +kernel)) (fun _ h => h) (v := .int (iI (1))) rfl dX9_figure_54 ?_
      have q14 := RI_28 (RI_28s hR (by omega))
      refine z_if_eq hx hb dX9_figure_57 (tgt := 64) rfl (by omega) (fun h => absurd h (by decide)) (fun h => ?_)
      refine z_iconst hx hb dX9_figure_60 ?_
      refine lv_goto hx hb dX9_figure_61 (tgt := 68) rfl ?_
      obtain ⟨e1, e2⟩ := Prod.mk.inj hE
      subst e2
      exact ci_i hx hb hr hlocks e1 rfl hS hP dX9_figure_68

theorem fr_fX9_figure {M : Mem} {r : Nat} (h27 : Nat.beq r 27 = false) (h28 : Nat.beq r 28 = false) : (fX9_figure M).2 r = M r := by
  unfold fX9_figure
  (repeat' with_reducible refine frite_w (fun _ => ?_) (fun _ => ?_)) <;> first | with_reducible rfl | simp only [mst_o, msf_o, mcp_o, h27, h28]


theorem sp_figure {M : Mem} (h : RI M) : SP M (fX9_figure M).2 ∧ 0 ≤ (fX9_figure M).1 ∧ (fX9_figure M).1 ≤ 9 := by
  have a := RI_27 h
  have b := RI_28 h
  have d := dX9_here h
  have d2 := dX9_in (fX9_here M) 48 57
  have t := RI_17 h
  unfold fX9_figure
  (repeat' split) <;> refine ⟨⟨?_, ?_, ?_, rfl⟩, ?_, ?_⟩ <;> first
    | exact RI_27s (RI_28s h (by omega)) (by omega)
    | (simp only [msf_27, msf_28, msf_27_28, msf_28_27]; omega)
    | (show (0 : Int) ≤ _; omega)
    | (show (0 : Int) ≤ 9; omega)
    | (show fX9_here M - 48 ≤ 9; omega)
theorem RI_figure {M : Mem} (h : RI M) : RI (fX9_figure M).2 := (sp_figure h).1.2.2.1

def fX9_figureBehind (M : Mem) (sign : Int) : Int × Mem := ((fX9_figure (fX9_needs M sign)).1, (fX9_figure (fX9_needs M sign)).2)
set_option maxRecDepth 100000 in
set_option maxHeartbeats 4000000 in
theorem kX9_figureBehind (l : Launch) (D : va_G) (E : Nat → Nat) (cI cC : ClassId) (Z : State → Prop) (hZo : ∀ M : Mem, ZOk (VG E cI cC M) Z) (hZb : ZBl Z) (M : Mem) (sign : Int) (h1 : 0 ≤ sign ∧ sign < 65536) (hR : RI M) (r : Int) (M' : Mem) (hE : fX9_figureBehind M sign = (r, M')) : Ci l yX9_figureBehind wsX9_figureBehind 2 43 [.ref (E 0), .int (iI sign)] D (TY cI cC) (VG E cI cC) Z M r M' := by
  refine Ci.of (cc := cX9_figureBehind) (maxL := 2) (ret := (some .int)) (by decide +kernel) rfl (Nat.le_of_ble_eq_true rfl) ?_
  intro p e s m args below meth c ls hx hb hml hr hown hts hlocks hP hK hD hZ hS hl
  have hl : lv_has ls 2 [(0, .ref (E 0)), (1, .int (iI sign))] := hl
  have S0 : CallFix p m c cX9_figureBehind 2 s args wsX9_figureBehind RX9 := ⟨hx, hb, hml, hown, hts⟩
  rw [fX9_figureBehind] at hE
  refine lv_aload_n hx hb dX9_figureBehind_0 rfl (lv_at hl 0 rfl) ?_
  refine lv_iload_n hx hb dX9_figureBehind_1 rfl (lv_at hl 1 rfl) ?_
  refine ct_Vv (VG_fix E cI cC) hZo hZb hZ S0 (kX9_needs l D E cI cC Z hZo hZb M sign (by omega) hR (fX9_needs M sign) rfl) (cwV 1 hts gX9_figureBehind_X9_needs rfl rfl rfl (by decide +kernel) ⟨(Nat.le_of_ble_eq_true rfl), (Nat.le_of_ble_eq_true rfl)⟩) hK hP hD hS rfl rfl VG_0 rfl hl.1 rfl (Nat.le_of_ble_eq_true rfl) dX9_figureBehind_2 ⟨Nat.zero_le _, Nat.zero_le _⟩ (fun H locs hP hD hS => ?_)
  refine lv_aload_n hx hb dX9_figureBehind_5 rfl (lv_at hl 0 rfl) ?_
  refine ct_Vi (VG_fix E cI cC) hZo hZb hZ S0 (kX9_figure l D E cI cC Z hZo hZb (fX9_needs M sign) (RI_needs hR sign (by omega)) (fX9_figure (fX9_needs M sign)).1 (fX9_figure (fX9_needs M sign)).2 (Prod.ext rfl rfl)) (cwV 0 hts gX9_figureBehind_X9_figure rfl rfl rfl (by decide +kernel) ⟨(Nat.le_of_ble_eq_true rfl), (Nat.le_of_ble_eq_true rfl)⟩) hK hP hD hS rfl rfl VG_0 rfl hl.1 rfl (Nat.le_of_ble_eq_true rfl) dX9_figureBehind_6 ⟨Nat.zero_le _, Nat.zero_le _⟩ (fun H locs hP hD hS => ?_)
  have q1 := (sp_figure (RI_needs hR sign (by omega))).2
  obtain ⟨e1, e2⟩ := Prod.mk.inj hE
  subst e2
  exact ci_i hx hb hr hlocks e1 rfl hS hP dX9_figureBehind_9

theorem fr_fX9_figureBehind {M : Mem} (sign : Int) {r : Nat} (h27 : Nat.beq r 27 = false) (h28 : Nat.beq r 28 = false) : (fX9_figureBehind M sign).2 r = M r := by
  unfold fX9_figureBehind
  (repeat' with_reducible refine frite_w (fun _ => ?_) (fun _ => ?_)) <;> first | with_reducible rfl | simp only [mst_o, msf_o, mcp_o, fr_fX9_figure, fr_fX9_needs, h27, h28]


theorem sp_figureBehind {M : Mem} (h : RI M) (c : Int) (hc : 0 ≤ c) : SP M (fX9_figureBehind M c).2 ∧ 0 ≤ (fX9_figureBehind M c).1 ∧ (fX9_figureBehind M c).1 ≤ 9 :=
  ⟨SP_t (sp_needs h c hc) (sp_figure (RI_needs h c hc)).1, (sp_figure (RI_needs h c hc)).2⟩
theorem RI_figureBehind {M : Mem} (h : RI M) (c : Int) (hc : 0 ≤ c) : RI (fX9_figureBehind M c).2 := (sp_figureBehind h c hc).1.2.2.1

def fX9_foldOf (ch : Int) : Int := if (ch = (115)) then (1) else if (ch = (102)) then (2) else if (ch = (98)) then (3) else if (ch = (99)) then (4) else (0)
set_option maxRecDepth 100000 in
set_option maxHeartbeats 4000000 in
theorem kX9_foldOf (l : Launch) (D : va_G) (E : Nat → Nat) (cI cC : ClassId) (Z : State → Prop) (hZo : ∀ M : Mem, ZOk (VG E cI cC M) Z) (hZb : ZBl Z) (M : Mem) (ch : Int) (h1 : -1 ≤ ch ∧ ch < 65536) (r : Int) (hE : fX9_foldOf ch = r) : Ci l yX9_foldOf wsX9_foldOf 0 0 [.int (iI ch)] D (TY cI cC) (VG E cI cC) Z M r M := by
  refine Ci.of (cc := cX9_foldOf) (maxL := 1) (ret := (some .int)) (by decide +kernel) rfl (Nat.le_of_ble_eq_true rfl) ?_
  intro p e s m args below meth c ls hx hb hml hr hown hts hlocks hP hK hD hZ hS hl
  have hl : lv_has ls 1 [(0, .int (iI ch))] := hl
  have S0 : CallFix p m c cX9_foldOf 1 s args wsX9_foldOf RX9 := ⟨hx, hb, hml, hown, hts⟩
  rw [fX9_foldOf] at hE
  refine lv_iload_n hx hb dX9_foldOf_0 rfl (lv_at hl 0 rfl) ?_
  refine z_bipush hx hb dX9_foldOf_1 (by decide +kernel) ?_
  refine z_icmp_ne hx hb dX9_foldOf_3 (tgt := 10) rfl (by omega) (by omega) (fun b1 => ?_) (fun b1 => ?_)
  · rw [if_neg b1] at hE
    refine lv_iload_n hx hb dX9_foldOf_10 rfl (lv_at hl 0 rfl) ?_
    refine z_bipush hx hb dX9_foldOf_11 (by decide +kernel) ?_
    refine z_icmp_ne hx hb dX9_foldOf_13 (tgt := 20) rfl (by omega) (by omega) (fun b2 => ?_) (fun b2 => ?_)
    · rw [if_neg b2] at hE
      refine lv_iload_n hx hb dX9_foldOf_20 rfl (lv_at hl 0 rfl) ?_
      refine z_bipush hx hb dX9_foldOf_21 (by decide +kernel) ?_
      refine z_icmp_ne hx hb dX9_foldOf_23 (tgt := 30) rfl (by omega) (by omega) (fun b3 => ?_) (fun b3 => ?_)
      · rw [if_neg b3] at hE
        refine lv_iload_n hx hb dX9_foldOf_30 rfl (lv_at hl 0 rfl) ?_
        refine z_bipush hx hb dX9_foldOf_31 (by decide +kernel) ?_
        refine z_icmp_ne hx hb dX9_foldOf_33 (tgt := 40) rfl (by omega) (by omega) (fun b4 => ?_) (fun b4 => ?_)
        · rw [if_neg b4] at hE
          refine z_iconst hx hb dX9_foldOf_40 ?_
          exact ci_i hx hb hr hlocks hE rfl hS hP dX9_foldOf_41
        · rw [if_pos b4] at hE
          refine z_iconst hx hb dX9_foldOf_36 ?_
          refine lv_goto hx hb dX9_foldOf_37 (tgt := 41) rfl ?_
          exact ci_i hx hb hr hlocks hE rfl hS hP dX9_foldOf_41
      · rw [if_pos b3] at hE
        refine z_iconst hx hb dX9_foldOf_26 ?_
        refine lv_goto hx hb dX9_foldOf_27 (tgt := 41) rfl ?_
        exact ci_i hx hb hr hlocks hE rfl hS hP dX9_foldOf_41
    · rw [if_pos b2] at hE
      refine z_iconst hx hb dX9_foldOf_16 ?_
      refine lv_goto hx hb dX9_foldOf_17 (tgt := 41) rfl ?_
      exact ci_i hx hb hr hlocks hE rfl hS hP dX9_foldOf_41
  · rw [if_pos b1] at hE
    refine z_iconst hx hb dX9_foldOf_6 ?_
    refine lv_goto hx hb dX9_foldOf_7 (tgt := 41) rfl ?_
    exact ci_i hx hb hr hlocks hE rfl hS hP dX9_foldOf_41


theorem dX9_foldOf (c : Int) : 0 ≤ fX9_foldOf c ∧ fX9_foldOf c ≤ 4 ∧ (fX9_foldOf c = 0 ∨ 0 ≤ c) := by unfold fX9_foldOf; (repeat' split) <;> omega

def fX9_foldHere (M : Mem) : Int × Mem := if ((M 28 0) = 0) then if ((fX9_foldOf (fX9_here M)) = 0) then ((fX9_foldOf (fX9_here M)), (msf (msf M 28 (1)) 27 ((M 27 0) + (0)))) else ((fX9_foldOf (fX9_here M)), (msf (msf M 28 (0)) 27 ((M 27 0) + (1)))) else ((fX9_foldOf (fX9_here M)), (msf (msf M 28 (1)) 27 ((M 27 0) + (0))))
set_option maxRecDepth 100000 in
set_option maxHeartbeats 4000000 in
theorem kX9_foldHere (l : Launch) (D : va_G) (E : Nat → Nat) (cI cC : ClassId) (Z : State → Prop) (hZo : ∀ M : Mem, ZOk (VG E cI cC M) Z) (hZb : ZBl Z) (M : Mem) (hR : RI M) (r : Int) (M' : Mem) (hE : fX9_foldHere M = (r, M')) : Ci l yX9_foldHere wsX9_foldHere 1 20 [.ref (E 0)] D (TY cI cC) (VG E cI cC) Z M r M' := by
  refine Ci.of (cc := cX9_foldHere) (maxL := 2) (ret := (some .int)) (by decide +kernel) rfl (Nat.le_of_ble_eq_true rfl) ?_
  intro p e s m args below meth c ls hx hb hml hr hown hts hlocks hP hK hD hZ hS hl
  have hl : lv_has ls 2 [(0, .ref (E 0))] := hl
  have S0 : CallFix p m c cX9_foldHere 2 s args wsX9_foldHere RX9 := ⟨hx, hb, hml, hown, hts⟩
  have hinX9 : ∀ w ∈ u_ws RX9 TX9 20, w ∈ wsX9_foldHere := by decide +kernel
  rw [fX9_foldHere] at hE
  refine lv_aload_n hx hb dX9_foldHere_0 rfl (lv_at hl 0 rfl) ?_
  refine ct_Vi (VG_fix E cI cC) hZo hZb hZ S0 (kX9_here l D E cI cC Z hZo hZb M hR (fX9_here M) rfl) (cwV 0 hts gX9_foldHere_X9_here rfl rfl rfl (by decide +kernel) ⟨(Nat.le_of_ble_eq_true rfl), (Nat.le_of_ble_eq_true rfl)⟩) hK hP hD hS rfl rfl VG_0 rfl hl.1 rfl (Nat.le_of_ble_eq_true rfl) dX9_foldHere_1 ⟨Nat.zero_le _, Nat.zero_le _⟩ (fun H locs hP hD hS => ?_)
  have q1 := dX9_here hR
  refine ct_Si (VG_fix E cI cC) hZo hZb hZ S0 (kX9_foldOf l D E cI cC Z hZo hZb M (fX9_here M) (by omega) (fX9_foldOf (fX9_here M)) rfl) (va_cwS 1 hts gX9_foldHere_X9_foldOf rfl rfl rfl (by decide +kernel) ⟨(Nat.le_of_ble_eq_true rfl), (Nat.le_of_ble_eq_true rfl)⟩) hK hP hD hS rfl hl.1 rfl (Nat.le_of_ble_eq_true rfl) dX9_foldHere_4 ⟨Nat.zero_le _, Nat.zero_le _⟩ (fun H locs hP hD hS => ?_)
  have q2 := dX9_foldOf (fX9_here M)
  refine lv_istore_n hx hb dX9_foldHere_7 rfl hl (Nat.le_of_ble_eq_true rfl) (lv' := [(1, .int (iI (fX9_foldOf (fX9_here M)))), (0, .ref (E 0))]) rfl (fun ls hl => ?_)
  refine lv_aload_n hx hb dX9_foldHere_8 rfl (lv_at hl 1 rfl) ?_
  refine lv_aload_n hx hb dX9_foldHere_9 rfl (lv_at hl 1 rfl) ?_
  refine va_get (own := RX9) (ref := "NapkinSyntaxModel") (C := RX9) (T := TX9) (N := 20) hx hb hts hinX9 hown hK hP 0 VG_0 rfl 18 (Nat.le_of_ble_eq_true rfl) (hts (.fieldLink RX9 202 "NapkinSyntaxModel" "isWrong" "Z") (by decide +kernel)) (fun _ h => h) (v := .int (iI (M 28 0))) rfl dX9_foldHere_10 ?_
  have q3 := RI_28 hR
  refine z_if_ne hx hb dX9_foldHere_13 (tgt := 20) rfl (by omega) (fun b4 => ?_) (fun b4 => ?_)
  · rw [if_neg b4] at hE
    refine z_iconst hx hb dX9_foldHere_20 ?_
    refine lv_goto hx hb dX9_foldHere_21 (tgt := 25) rfl ?_
    refine va_put (own := RX9) (ref := "NapkinSyntaxModel") (C := RX9) (T := TX9) (N := 20) hx hb hts hinX9 tyX9 tyX9_ok nmX9 hown hK hP hD hS 0 VG_0 rfl 18 (Nat.le_of_ble_eq_true rfl) (hts (.fieldLink RX9 202 "NapkinSyntaxModel" "isWrong" "Z") (by decide +kernel)) (fun _ h => h) rfl (ty := .boolean) (v := .int (iI (1))) (by decide +kernel) nr_b1 rfl (Nat.le_of_ble_eq_true rfl) dX9_foldHere_25 (fun H locs hP hD hS => ?_)
    rw [VGf_28] at hP hD
    refine lv_aload_n hx hb dX9_foldHere_28 rfl (lv_at hl 1 rfl) ?_
    refine lv_dup hx hb dX9_foldHere_29 rfl ?_
    refine va_get (own := RX9) (ref := "NapkinSyntaxModel") (C := RX9) (T := TX9) (N := 20) hx hb hts hinX9 hown hK hP 0 VG_0 rfl 17 (Nat.le_of_ble_eq_true rfl) (hts (.fieldLink RX9 199 "NapkinSyntaxModel" "spot" "I") (by decide +kernel)) (fun _ h => h) (v := .int (iI (M 27 0))) rfl dX9_foldHere_30 ?_
    have q5 := RI_27 hR
    refine lv_aload_n hx hb dX9_foldHere_33 rfl (lv_at hl 1 rfl) ?_
    refine va_get (own := RX9) (ref := "NapkinSyntaxModel") (C := RX9) (T := TX9) (N := 20) hx hb hts hinX9 hown hK hP 0 VG_0 rfl 18 (Nat.le_of_ble_eq_true rfl) (hts (.fieldLink RX9 202 "NapkinSyntaxModel" "isWrong" "Z") (by decide +kernel)) (fun _ h => h) (v := .int (iI (1))) rfl dX9_foldHere_34 ?_
    have q6 := RI_28 (RI_28s hR (by omega))
    refine z_if_eq hx hb dX9_foldHere_37 (tgt := 44) rfl (by omega) (fun h => absurd h (by decide)) (fun h => ?_)
    refine z_iconst hx hb dX9_foldHere_40 ?_
    refine lv_goto hx hb dX9_foldHere_41 (tgt := 45) rfl ?_
    refine z_iadd hx hb dX9_foldHere_45 ?_
    refine va_put (own := RX9) (ref := "NapkinSyntaxModel") (C := RX9) (T := TX9) (N := 20) hx hb hts hinX9 tyX9 tyX9_ok nmX9 hown hK hP hD hS 0 VG_0 rfl 17 (Nat.le_of_ble_eq_true rfl) (hts (.fieldLink RX9 199 "NapkinSyntaxModel" "spot" "I") (by decide +kernel)) (fun _ h => h) rfl (ty := .int) (v := .int (iI ((M 27 0) + (0)))) (by decide +kernel) rfl rfl (Nat.le_of_ble_eq_true rfl) dX9_foldHere_46 (fun H locs hP hD hS => ?_)
    rw [VGf_27] at hP hD
    refine lv_iload_n hx hb dX9_foldHere_49 rfl (lv_at hl 0 rfl) ?_
    obtain ⟨e1, e2⟩ := Prod.mk.inj hE
    subst e2
    exact ci_i hx hb hr hlocks e1 rfl hS hP dX9_foldHere_50
  · rw [if_pos b4] at hE
    refine lv_iload_n hx hb dX9_foldHere_16 rfl (lv_at hl 0 rfl) ?_
    refine z_if_ne hx hb dX9_foldHere_17 (tgt := 24) rfl (by omega) (fun b7 => ?_) (fun b7 => ?_)
    · rw [if_neg b7] at hE
      refine z_iconst hx hb dX9_foldHere_24 ?_
      refine va_put (own := RX9) (ref := "NapkinSyntaxModel") (C := RX9) (T := TX9) (N := 20) hx hb hts hinX9 tyX9 tyX9_ok nmX9 hown hK hP hD hS 0 VG_0 rfl 18 (Nat.le_of_ble_eq_true rfl) (hts (.fieldLink RX9 202 "NapkinSyntaxModel" "isWrong" "Z") (by decide +kernel)) (fun _ h => h) rfl (ty := .boolean) (v := .int (iI (0))) (by decide +kernel) nr_b0 rfl (Nat.le_of_ble_eq_true rfl) dX9_foldHere_25 (fun H locs hP hD hS => ?_)
      rw [VGf_28] at hP hD
      refine lv_aload_n hx hb dX9_foldHere_28 rfl (lv_at hl 1 rfl) ?_
      refine lv_dup hx hb dX9_foldHere_29 rfl ?_
      refine va_get (own := RX9) (ref := "NapkinSyntaxModel") (C := RX9) (T := TX9) (N := 20) hx hb hts hinX9 hown hK hP 0 VG_0 rfl 17 (Nat.le_of_ble_eq_true rfl) (hts (.fieldLink RX9 199 "NapkinSyntaxModel" "spot" "I") (by decide +kernel)) (fun _ h => h) (v := .int (iI (M 27 0))) rfl dX9_foldHere_30 ?_
      have q8 := RI_27 hR
      refine lv_aload_n hx hb dX9_foldHere_33 rfl (lv_at hl 1 rfl) ?_
      refine va_get (own := RX9) (ref := "NapkinSyntaxModel") (C := RX9) (T := TX9) (N := 20) hx hb hts hinX9 hown hK hP 0 VG_0 rfl 18 (Nat.le_of_ble_eq_true rfl) (hts (.fieldLink RX9 202 "NapkinSyntaxModel" "isWrong" "Z") (by decide +kernel)) (fun _ h => h) (v := .int (iI (0))) rfl dX9_foldHere_34 ?_
      have q9 := RI_28 (RI_28s hR (by omega))
      refine z_if_eq hx hb dX9_foldHere_37 (tgt := 44) rfl (by omega) (fun h => ?_) (fun h => absurd h (by decide))
      refine z_iconst hx hb dX9_foldHere_44 ?_
      refine z_iadd hx hb dX9_foldHere_45 ?_
      refine va_put (own := RX9) (ref := "NapkinSyntaxModel") (C := RX9) (T := TX9) (N := 20) hx hb hts hinX9 tyX9 tyX9_ok nmX9 hown hK hP hD hS 0 VG_0 rfl 17 (Nat.le_of_ble_eq_true rfl) (hts (.fieldLink RX9 199 "NapkinSyntaxModel" "spot" "I") (by decide +kernel)) (fun _ h => h) rfl (ty := .int) (v := .int (iI ((M 27 0) + (1)))) (by decide +kernel) rfl rfl (Nat.le_of_ble_eq_true rfl) dX9_foldHere_46 (fun H locs hP hD hS => ?_)
      rw [VGf_27] at hP hD
      refine lv_iload_n hx hb dX9_foldHere_49 rfl (lv_at hl 0 rfl) ?_
      obtain ⟨e1, e2⟩ := Prod.mk.inj hE
      subst e2
      exact ci_i hx hb hr hlocks e1 rfl hS hP dX9_foldHere_50
    · rw [if_pos b7] at hE
      refine z_iconst hx hb dX9_foldHere_20 ?_
      refine lv_goto hx hb dX9_foldHere_21 (tgt := 25) rfl ?_
      refine va_put (own := RX9) (ref := "NapkinSyntaxModel") (C := RX9) (T := TX9) (N := 20) hx hb hts hinX9 tyX9 tyX9_ok nmX9 hown hK hP hD hS 0 VG_0 rfl 18 (Nat.le_of_ble_eq_true rfl) (hts (.fieldLink RX9 202 "NapkinSyntaxModel" "isWrong" "Z") (by decide +kernel)) (fun _ h => h) rfl (ty := .boolean) (v := .int (iI (1))) (by decide +kernel) nr_b1 rfl (Nat.le_of_ble_eq_true rfl) dX9_foldHere_25 (fun H locs hP hD hS => ?_)
      rw [VGf_28] at hP hD
      refine lv_aload_n hx hb dX9_foldHere_28 rfl (lv_at hl 1 rfl) ?_
      refine lv_dup hx hb dX9_foldHere_29 rfl ?_
      refine va_get (own := RX9) (ref := "NapkinSyntaxModel") (C := RX9) (T := TX9) (N := 20) hx hb hts hinX9 hown hK hP 0 VG_0 rfl 17 (Nat.le_of_ble_eq_true rfl) (hts (.fieldLink RX9 199 "NapkinSyntaxModel" "spot" "I") (by decide +kernel)) (fun _ h => h) (v := .int (iI (M 27 0))) rfl dX9_foldHere_30 ?_
      have q10 := RI_27 hR
      refine lv_aload_n hx hb dX9_foldHere_33 rfl (lv_at hl 1 rfl) ?_
      refine va_get (own := RX9) (ref := "NapkinSyntaxModel") (C := RX9) (T := TX9) (N := 20) hx hb hts hinX9 hown hK hP 0 VG_0 rfl 18 (Nat.le_of_ble_eq_true rfl) (hts (.fieldLink RX9 202 "NapkinSyntaxModel" "isWrong" "Z") (by decide +kernel)) (fun _ h => h) (v := .int (iI (1))) rfl dX9_foldHere_34 ?_
      have q11 := RI_28 (RI_28s hR (by omega))
      refine z_if_eq hx hb dX9_foldHere_37 (tgt := 44) rfl (by omega) (fun h => absurd h (by decide)) (fun h => ?_)
      refine z_iconst hx hb dX9_foldHere_40 ?_
      refine lv_goto hx hb dX9_foldHere_41 (tgt := 45) rfl ?_
      refine z_iadd hx hb dX9_foldHere_45 ?_
      refine va_put (own := RX9) (ref := "NapkinSyntaxModel") (C := RX9) (T := TX9) (N := 20) hx hb hts hinX9 tyX9 tyX9_ok nmX9 hown hK hP hD hS 0 VG_0 rfl 17 (Nat.le_of_ble_eq_true rfl) (hts (.fieldLink RX9 199 "NapkinSyntaxModel" "spot" "I") (by decide +kernel)) (fun _ h => h) rfl (ty := .int) (v := .int (iI ((M 27 0) + (0)))) (by decide +kernel) rfl rfl (Nat.le_of_ble_eq_true rfl) dX9_foldHere_46 (fun H locs hP hD hS => ?_)
      rw [VGf_27] at hP hD
      refine lv_iload_n hx hb dX9_foldHere_49 rfl (lv_at hl 0 rfl) ?_
      obtain ⟨e1, e2⟩ := Prod.mk.inj hE
      subst e2
      exact ci_i hx hb hr hlocks e1 rfl hS hP dX9_foldHere_50

theorem fr_fX9_foldHere {M : Mem} {r : Nat} (h27 : Nat.beq r 27 = false) (h28 : Nat.beq r 28 = false) : (fX9_foldHere M).2 r = M r := by
  unfold fX9_foldHere
  (repeat' with_reducible refine frite_w (fun _ => ?_) (fun _ => ?_)) <;> first | with_reducible rfl | simp only [mst_o, msf_o, mcp_o, h27, h28]


theorem sp_foldHere {M : Mem} (h : RI M) : SP M (fX9_foldHere M).2 ∧ 0 ≤ (fX9_foldHere M).1 ∧ (fX9_foldHere M).1 ≤ 4 := by
  have a := RI_27 h
  have b := RI_28 h
  have d := dX9_here h
  have d2 := dX9_foldOf (fX9_here M)
  have t := RI_17 h
  unfold fX9_foldHere
  (repeat' split) <;> refine ⟨⟨?_, ?_, ?_, rfl⟩, ?_, ?_⟩ <;> first
    | exact RI_27s (RI_28s h (by omega)) (by omega)
    | (simp only [msf_27, msf_28, msf_27_28, msf_28_27]; omega)
    | exact d2.1
    | exact d2.2.1
theorem RI_foldHere {M : Mem} (h : RI M) : RI (fX9_foldHere M).2 := (sp_foldHere h).1.2.2.1

def fX9_readsOrder (M : Mem) (k : Int) : Mem := if ((fX9_here M) = 102) then (mst (fX9_foldHere (mst (fX9_figureBehind (fX9_needsThree (mst (msf M 27 ((M 27 0) + (1))) 6 k (fX9_here M)) (111) (108) (100)) (32)).2 6 (k + (1)) (fX9_figureBehind (fX9_needsThree (mst (msf M 27 ((M 27 0) + (1))) 6 k (fX9_here M)) (111) (108) (100)) (32)).1)).2 6 (k + (2)) (fX9_foldHere (mst (fX9_figureBehind (fX9_needsThree (mst (msf M 27 ((M 27 0) + (1))) 6 k (fX9_here M)) (111) (108) (100)) (32)).2 6 (k + (1)) (fX9_figureBehind (fX9_needsThree (mst (msf M 27 ((M 27 0) + (1))) 6 k (fX9_here M)) (111) (108) (100)) (32)).1)).1) else if ((fX9_here M) = 108) then (mst (fX9_figureBehind (mst (fX9_figureBehind (fX9_needs (fX9_needs (mst (msf M 27 ((M 27 0) + (1))) 6 k (fX9_here M)) (97)) (121)) (32)).2 6 (k + (1)) (fX9_figureBehind (fX9_needs (fX9_needs (mst (msf M 27 ((M 27 0) + (1))) 6 k (fX9_here M)) (97)) (121)) (32)).1) (32)).2 6 (k + (2)) (fX9_figureBehind (mst (fX9_figureBehind (fX9_needs (fX9_needs (mst (msf M 27 ((M 27 0) + (1))) 6 k (fX9_here M)) (97)) (121)) (32)).2 6 (k + (1)) (fX9_figureBehind (fX9_needs (fX9_needs (mst (msf M 27 ((M 27 0) + (1))) 6 k (fX9_here M)) (97)) (121)) (32)).1) (32)).1) else if ((fX9_here M) = 109) then (mst (fX9_figure (mst (fX9_figureBehind (mst (fX9_figureBehind (fX9_needsThree (mst (msf M 27 ((M 27 0) + (1))) 6 k (fX9_here M)) (111) (118) (101)) (32)).2 6 (k + (1)) (fX9_figureBehind (fX9_needsThree (mst (msf M 27 ((M 27 0) + (1))) 6 k (fX9_here M)) (111) (118) (101)) (32)).1) (32)).2 6 (k + (2)) (fX9_figureBehind (mst (fX9_figureBehind (fX9_needsThree (mst (msf M 27 ((M 27 0) + (1))) 6 k (fX9_here M)) (111) (118) (101)) (32)).2 6 (k + (1)) (fX9_figureBehind (fX9_needsThree (mst (msf M 27 ((M 27 0) + (1))) 6 k (fX9_here M)) (111) (118) (101)) (32)).1) (32)).1)).2 6 (k + (3)) (fX9_figure (mst (fX9_figureBehind (mst (fX9_figureBehind (fX9_needsThree (mst (msf M 27 ((M 27 0) + (1))) 6 k (fX9_here M)) (111) (118) (101)) (32)).2 6 (k + (1)) (fX9_figureBehind (fX9_needsThree (mst (msf M 27 ((M 27 0) + (1))) 6 k (fX9_here M)) (111) (118) (101)) (32)).1) (32)).2 6 (k + (2)) (fX9_figureBehind (mst (fX9_figureBehind (fX9_needsThree (mst (msf M 27 ((M 27 0) + (1))) 6 k (fX9_here M)) (111) (118) (101)) (32)).2 6 (k + (1)) (fX9_figureBehind (fX9_needsThree (mst (msf M 27 ((M 27 0) + (1))) 6 k (fX9_here M)) (111) (118) (101)) (32)).1) (32)).1)).1) else if ((fX9_here M) = 110) then (mst (fX9_figureBehind (fX9_needs (fX9_needs (mst (msf M 27 ((M 27 0) + (1))) 6 k (fX9_here M)) (101)) (119)) (32)).2 6 (k + (1)) (fX9_figureBehind (fX9_needs (fX9_needs (mst (msf M 27 ((M 27 0) + (1))) 6 k (fX9_here M)) (101)) (119)) (32)).1) else if ((fX9_here M) = 111) then (mst (fX9_figureBehind (fX9_needsThree (mst (msf M 27 ((M 27 0) + (1))) 6 k (fX9_here M)) (112) (101) (110)) (32)).2 6 (k + (1)) (fX9_figureBehind (fX9_needsThree (mst (msf M 27 ((M 27 0) + (1))) 6 k (fX9_here M)) (112) (101) (110)) (32)).1) else if ((fX9_here M) = 114) then (mst (fX9_figureBehind (fX9_needsThree (mst (msf M 27 ((M 27 0) + (1))) 6 k (fX9_here M)) (101) (97) (100)) (32)).2 6 (k + (1)) (fX9_figureBehind (fX9_needsThree (mst (msf M 27 ((M 27 0) + (1))) 6 k (fX9_here M)) (101) (97) (100)) (32)).1) else if ((fX9_here M) = 115) then (mst (fX9_figureBehind (mst (fX9_figureBehind (fX9_needs (fX9_needsThree (mst (msf M 27 ((M 27 0) + (1))) 6 k (fX9_here M)) (116) (97) (105)) (110)) (32)).2 6 (k + (1)) (fX9_figureBehind (fX9_needs (fX9_needsThree (mst (msf M 27 ((M 27 0) + (1))) 6 k (fX9_here M)) (116) (97) (105)) (110)) (32)).1) (43)).2 6 (k + (2)) (fX9_figureBehind (mst (fX9_figureBehind (fX9_needs (fX9_needsThree (mst (msf M 27 ((M 27 0) + (1))) 6 k (fX9_here M)) (116) (97) (105)) (110)) (32)).2 6 (k + (1)) (fX9_figureBehind (fX9_needs (fX9_needsThree (mst (msf M 27 ((M 27 0) + (1))) 6 k (fX9_here M)) (116) (97) (105)) (110)) (32)).1) (43)).1) else if ((fX9_here M) = 116) then (mst (fX9_figureBehind (fX9_needsThree (mst (msf M 27 ((M 27 0) + (1))) 6 k (fX9_here M)) (97) (107) (101)) (32)).2 6 (k + (1)) (fX9_figureBehind (fX9_needsThree (mst (msf M 27 ((M 27 0) + (1))) 6 k (fX9_here M)) (97) (107) (101)) (32)).1) else if ((fX9_here M) = 119) then (mst (fX9_figureBehind (fX9_needsThree (mst (msf M 27 ((M 27 0) + (1))) 6 k (fX9_here M)) (97) (115) (104)) (32)).2 6 (k + (1)) (fX9_figureBehind (fX9_needsThree (mst (msf M 27 ((M 27 0) + (1))) 6 k (fX9_here M)) (97) (115) (104)) (32)).1) else (msf (msf (mst (msf M 27 ((M 27 0) + (1))) 6 k (fX9_here M)) 28 (1)) 27 (((M 27 0) + (1)) - (1)))
set_option maxRecDepth 100000 in
set_option maxHeartbeats 4000000 in
theorem kX9_readsOrder (l : Launch) (D : va_G) (E : Nat → Nat) (cI cC : ClassId) (Z : State → Prop) (hZo : ∀ M : Mem, ZOk (VG E cI cC M) Z) (hZb : ZBl Z) (M : Mem) (k : Int) (h1 : 0 ≤ k ∧ k ≤ 236) (hR : RI M) (M' : Mem) (hE : fX9_readsOrder M k = M') : Cv l yX9_readsOrder wsX9_readsOrder 3 64 [.ref (E 0), .int (iI k)] D (TY cI cC) (VG E cI cC) Z M M' := by
  refine Cv.of (cc := cX9_readsOrder) (maxL := 3) (ret := none) (by decide +kernel) rfl (Nat.le_of_ble_eq_true rfl) ?_
  intro p e s m args below meth c ls hx hb hml hr hown hts hlocks hP hK hD hZ hS hl
  have hl : lv_has ls 3 [(0, .ref (E 0)), (1, .int (iI k))] := hl
  have S0 : CallFix p m c cX9_readsOrder 3 s args wsX9_readsOrder RX9 := ⟨hx, hb, hml, hown, hts⟩
  have hinX9 : ∀ w ∈ u_ws RX9 TX9 20, w ∈ wsX9_readsOrder := by decide +kernel
  have q79 := RI_17 hR
  rw [fX9_readsOrder] at hE
  refine lv_aload_n hx hb dX9_readsOrder_0 rfl (lv_at hl 0 rfl) ?_
  refine ct_Vi (VG_fix E cI cC) hZo hZb hZ S0 (kX9_here l D E cI cC Z hZo hZb M hR (fX9_here M) rfl) (cwV 0 hts gX9_readsOrder_X9_here rfl rfl rfl (by decide +kernel) ⟨(Nat.le_of_ble_eq_true rfl), (Nat.le_of_ble_eq_true rfl)⟩) hK hP hD hS rfl rfl VG_0 rfl hl.1 rfl (Nat.le_of_ble_eq_true rfl) dX9_readsOrder_1 ⟨Nat.zero_le _, Nat.zero_le _⟩ (fun H locs hP hD hS => ?_)
  have q1 := dX9_here hR
  refine lv_istore_n hx hb dX9_readsOrder_4 rfl hl (Nat.le_of_ble_eq_true rfl) (lv' := [(2, .int (iI (fX9_here M))), (0, .ref (E 0)), (1, .int (iI k))]) rfl (fun ls hl => ?_)
  refine lv_aload_n hx hb dX9_readsOrder_5 rfl (lv_at hl 1 rfl) ?_
  refine lv_dup hx hb dX9_readsOrder_6 rfl ?_
  refine va_get (own := RX9) (ref := "NapkinSyntaxModel") (C := RX9) (T := TX9) (N := 20) hx hb hts hinX9 hown hK hP 0 VG_0 rfl 17 (Nat.le_of_ble_eq_true rfl) (hts (.fieldLink RX9 199 "NapkinSyntaxModel" "spot" "I") (by decide +kernel)) (fun _ h => h) (v := .int (iI (M 27 0))) rfl dX9_readsOrder_7 ?_
  have q2 := RI_27 hR
  refine z_iconst hx hb dX9_readsOrder_10 ?_
  refine z_iadd hx hb dX9_readsOrder_11 ?_
  refine va_put (own := RX9) (ref := "NapkinSyntaxModel") (C := RX9) (T := TX9) (N := 20) hx hb hts hinX9 tyX9 tyX9_ok nmX9 hown hK hP hD hS 0 VG_0 rfl 17 (Nat.le_of_ble_eq_true rfl) (hts (.fieldLink RX9 199 "NapkinSyntaxModel" "spot" "I") (by decide +kernel)) (fun _ h => h) rfl (ty := .int) (v := .int (iI ((M 27 0) + (1)))) (by decide +kernel) rfl rfl (Nat.le_of_ble_eq_true rfl) dX9_readsOrder_12 (fun H locs hP hD hS => ?_)
  rw [VGf_27] at hP hD
  refine lv_aload_n hx hb dX9_readsOrder_15 rfl (lv_at hl 1 rfl) ?_
  refine va_get (own := RX9) (ref := "NapkinSyntaxModel") (C := RX9) (T := TX9) (N := 20) hx hb hts hinX9 hown hK hP 0 VG_0 rfl 19 (Nat.le_of_ble_eq_true rfl) (hts (.fieldLink RX9 33 "NapkinSyntaxModel" "told" "[I") (by decide +kernel)) (fun _ h => h) (v := .ref (E 7)) rfl dX9_readsOrder_16 ?_
  refine lv_iload_n hx hb dX9_readsOrder_19 rfl (lv_at hl 2 rfl) ?_
  refine lv_iload_n hx hb dX9_readsOrder_20 rfl (lv_at hl 0 rfl) ?_
  refine z_iast hx hb hK hP hD hS 7 0 VG_7 rfl (by omega) (by omega) (by decide) dX9_readsOrder_21 VGw_6 (fun H locs hP hD hS => ?_)
  refine lv_iload_n hx hb dX9_readsOrder_22 rfl (lv_at hl 0 rfl) ?_
  by_cases b3 : ((fX9_here M) = 102)
  · rw [if_pos b3] at hE
    refine z_table hx hb dX9_readsOrder_23 (k0 := 102) (tgt := 137) (by omega) b3 (by decide) (by decide) rfl rfl ?_
    refine lv_aload_n hx hb dX9_readsOrder_137 rfl (lv_at hl 1 rfl) ?_
    refine z_bipush hx hb dX9_readsOrder_138 (by decide +kernel) ?_
    refine z_bipush hx hb dX9_readsOrder_140 (by decide +kernel) ?_
    refine z_bipush hx hb dX9_readsOrder_142 (by decide +kernel) ?_
    have k4 : RI (msf M 27 ((M 27 0) + (1))) := (RI_27s hR (by omega))
    have k5 : RI (mst (msf M 27 ((M 27 0) + (1))) 6 k (fX9_here M)) := (RI_of rfl rfl rfl rfl k4)
    refine ct_Vv (VG_fix E cI cC) hZo hZb hZ S0 (kX9_needsThree l D E cI cC Z hZo hZb (mst (msf M 27 ((M 27 0) + (1))) 6 k (fX9_here M)) (111) (108) (100) (by omega) (by omega) (by omega) k5 (fX9_needsThree (mst (msf M 27 ((M 27 0) + (1))) 6 k (fX9_here M)) (111) (108) (100)) rfl) (cwV 3 hts gX9_readsOrder_X9_needsThree rfl rfl rfl (by decide +kernel) ⟨(Nat.le_of_ble_eq_true rfl), (Nat.le_of_ble_eq_true rfl)⟩) hK hP hD hS rfl rfl VG_0 rfl hl.1 rfl (Nat.le_of_ble_eq_true rfl) dX9_readsOrder_144 ⟨Nat.zero_le _, Nat.zero_le _⟩ (fun H locs hP hD hS => ?_)
    refine lv_aload_n hx hb dX9_readsOrder_147 rfl (lv_at hl 1 rfl) ?_
    refine va_get (own := RX9) (ref := "NapkinSyntaxModel") (C := RX9) (T := TX9) (N := 20) hx hb hts hinX9 hown hK hP 0 VG_0 rfl 19 (Nat.le_of_ble_eq_true rfl) (hts (.fieldLink RX9 33 "NapkinSyntaxModel" "told" "[I") (by decide +kernel)) (fun _ h => h) (v := .ref (E 7)) rfl dX9_readsOrder_148 ?_
    refine lv_iload_n hx hb dX9_readsOrder_151 rfl (lv_at hl 2 rfl) ?_
    refine z_iconst hx hb dX9_readsOrder_152 ?_
    refine z_iadd hx hb dX9_readsOrder_153 ?_
    refine lv_aload_n hx hb dX9_readsOrder_154 rfl (lv_at hl 1 rfl) ?_
    refine z_bipush hx hb dX9_readsOrder_155 (by decide +kernel) ?_
    have k6 : RI (fX9_needsThree (mst (msf M 27 ((M 27 0) + (1))) 6 k (fX9_here M)) (111) (108) (100)) := (RI_needsThree k5 (111) (108) (100) (by omega) (by omega) (by omega))
    refine ct_Vi (VG_fix E cI cC) hZo hZb hZ S0 (kX9_figureBehind l D E cI cC Z hZo hZb (fX9_needsThree (mst (msf M 27 ((M 27 0) + (1))) 6 k (fX9_here M)) (111) (108) (100)) (32) (by omega) k6 (fX9_figureBehind (fX9_needsThree (mst (msf M 27 ((M 27 0) + (1))) 6 k (fX9_here M)) (111) (108) (100)) (32)).1 (fX9_figureBehind (fX9_needsThree (mst (msf M 27 ((M 27 0) + (1))) 6 k (fX9_here M)) (111) (108) (100)) (32)).2 (Prod.ext rfl rfl)) (cwV 1 hts gX9_readsOrder_X9_figureBehind rfl rfl rfl (by decide +kernel) ⟨(Nat.le_of_ble_eq_true rfl), (Nat.le_of_ble_eq_true rfl)⟩) hK hP hD hS rfl rfl VG_0 rfl hl.1 rfl (Nat.le_of_ble_eq_true rfl) dX9_readsOrder_157 ⟨Nat.zero_le _, Nat.zero_le _⟩ (fun H locs hP hD hS => ?_)
    have q7 := (sp_figureBehind k6 (32) (by omega)).2
    refine z_iast hx hb hK hP hD hS 7 0 VG_7 rfl (by omega) (by omega) (by decide) dX9_readsOrder_160 VGw_6 (fun H locs hP hD hS => ?_)
    refine lv_aload_n hx hb dX9_readsOrder_161 rfl (lv_at hl 1 rfl) ?_
    refine va_get (own := RX9) (ref := "NapkinSyntaxModel") (C := RX9) (T := TX9) (N := 20) hx hb hts hinX9 hown hK hP 0 VG_0 rfl 19 (Nat.le_of_ble_eq_true rfl) (hts (.fieldLink RX9 33 "NapkinSyntaxModel" "told" "[I") (by decide +kernel)) (fun _ h => h) (v := .ref (E 7)) rfl dX9_readsOrder_162 ?_
    refine lv_iload_n hx hb dX9_readsOrder_165 rfl (lv_at hl 2 rfl) ?_
    refine z_iconst hx hb dX9_readsOrder_166 ?_
    refine z_iadd hx hb dX9_readsOrder_167 ?_
    refine lv_aload_n hx hb dX9_readsOrder_168 rfl (lv_at hl 1 rfl) ?_
    have k8 : RI (fX9_figureBehind (fX9_needsThree (mst (msf M 27 ((M 27 0) + (1))) 6 k (fX9_here M)) (111) (108) (100)) (32)).2 := (RI_figureBehind k6 (32) (by omega))
    have k9 : RI (mst (fX9_figureBehind (fX9_needsThree (mst (msf M 27 ((M 27 0) + (1))) 6 k (fX9_here M)) (111) (108) (100)) (32)).2 6 (k + (1)) (fX9_figureBehind (fX9_needsThree (mst (msf M 27 ((M 27 0) + (1))) 6 k (fX9_here M)) (111) (108) (100)) (32)).1) := (RI_of rfl rfl rfl rfl k8)
    refine ct_Vi (VG_fix E cI cC) hZo hZb hZ S0 (kX9_foldHere l D E cI cC Z hZo hZb (mst (fX9_figureBehind (fX9_needsThree (mst (msf M 27 ((M 27 0) + (1))) 6 k (fX9_here M)) (111) (108) (100)) (32)).2 6 (k + (1)) (fX9_figureBehind (fX9_needsThree (mst (msf M 27 ((M 27 0) + (1))) 6 k (fX9_here M)) (111) (108) (100)) (32)).1) k9 (fX9_foldHere (mst (fX9_figureBehind (fX9_needsThree (mst (msf M 27 ((M 27 0) + (1))) 6 k (fX9_here M)) (111) (108) (100)) (32)).2 6 (k + (1)) (fX9_figureBehind (fX9_needsThree (mst (msf M 27 ((M 27 0) + (1))) 6 k (fX9_here M)) (111) (108) (100)) (32)).1)).1 (fX9_foldHere (mst (fX9_figureBehind (fX9_needsThree (mst (msf M 27 ((M 27 0) + (1))) 6 k (fX9_here M)) (111) (108) (100)) (32)).2 6 (k + (1)) (fX9_figureBehind (fX9_needsThree (mst (msf M 27 ((M 27 0) + (1))) 6 k (fX9_here M)) (111) (108) (100)) (32)).1)).2 (Prod.ext rfl rfl)) (cwV 0 hts gX9_readsOrder_X9_foldHere rfl rfl rfl (by decide +kernel) ⟨(Nat.le_of_ble_eq_true rfl), (Nat.le_of_ble_eq_true rfl)⟩) hK hP hD hS rfl rfl VG_0 rfl hl.1 rfl (Nat.le_of_ble_eq_true rfl) dX9_readsOrder_169 ⟨Nat.zero_le _, Nat.zero_le _⟩ (fun H locs hP hD hS => ?_)
    have q10 := (sp_foldHere k9).2
    refine z_iast hx hb hK hP hD hS 7 0 VG_7 rfl (by omega) (by omega) (by decide) dX9_readsOrder_172 VGw_6 (fun H locs hP hD hS => ?_)
    refine lv_goto hx hb dX9_readsOrder_173 (tgt := 442) rfl ?_
    subst hE
    exact cv_v hx hb hr hlocks hS hP dX9_readsOrder_442
  · rw [if_neg b3] at hE
    by_cases b11 : ((fX9_here M) = 108)
    · rw [if_pos b11] at hE
      refine z_table hx hb dX9_readsOrder_23 (k0 := 108) (tgt := 284) (by omega) b11 (by decide) (by decide) rfl rfl ?_
      refine lv_aload_n hx hb dX9_readsOrder_284 rfl (lv_at hl 1 rfl) ?_
      refine z_bipush hx hb dX9_readsOrder_285 (by decide +kernel) ?_
      have k12 : RI (msf M 27 ((M 27 0) + (1))) := (RI_27s hR (by omega))
      have k13 : RI (mst (msf M 27 ((M 27 0) + (1))) 6 k (fX9_here M)) := (RI_of rfl rfl rfl rfl k12)
      refine ct_Vv (VG_fix E cI cC) hZo hZb hZ S0 (kX9_needs l D E cI cC Z hZo hZb (mst (msf M 27 ((M 27 0) + (1))) 6 k (fX9_here M)) (97) (by omega) k13 (fX9_needs (mst (msf M 27 ((M 27 0) + (1))) 6 k (fX9_here M)) (97)) rfl) (cwV 1 hts gX9_readsOrder_X9_needs rfl rfl rfl (by decide +kernel) ⟨(Nat.le_of_ble_eq_true rfl), (Nat.le_of_ble_eq_true rfl)⟩) hK hP hD hS rfl rfl VG_0 rfl hl.1 rfl (Nat.le_of_ble_eq_true rfl) dX9_readsOrder_287 ⟨Nat.zero_le _, Nat.zero_le _⟩ (fun H locs hP hD hS => ?_)
      refine lv_aload_n hx hb dX9_readsOrder_290 rfl (lv_at hl 1 rfl) ?_
      refine z_bipush hx hb dX9_readsOrder_291 (by decide +kernel) ?_
      have k14 : RI (fX9_needs (mst (msf M 27 ((M 27 0) + (1))) 6 k (fX9_here M)) (97)) := (RI_needs k13 (97) (by omega))
      refine ct_Vv (VG_fix E cI cC) hZo hZb hZ S0 (kX9_needs l D E cI cC Z hZo hZb (fX9_needs (mst (msf M 27 ((M 27 0) + (1))) 6 k (fX9_here M)) (97)) (121) (by omega) k14 (fX9_needs (fX9_needs (mst (msf M 27 ((M 27 0) + (1))) 6 k (fX9_here M)) (97)) (121)) rfl) (cwV 1 hts gX9_readsOrder_X9_needs rfl rfl rfl (by decide +kernel) ⟨(Nat.le_of_ble_eq_true rfl), (Nat.le_of_ble_eq_true rfl)⟩) hK hP hD hS rfl rfl VG_0 rfl hl.1 rfl (Nat.le_of_ble_eq_true rfl) dX9_readsOrder_293 ⟨Nat.zero_le _, Nat.zero_le _⟩ (fun H locs hP hD hS => ?_)
      refine lv_aload_n hx hb dX9_readsOrder_296 rfl (lv_at hl 1 rfl) ?_
      refine va_get (own := RX9) (ref := "NapkinSyntaxModel") (C := RX9) (T := TX9) (N := 20) hx hb hts hinX9 hown hK hP 0 VG_0 rfl 19 (Nat.le_of_ble_eq_true rfl) (hts (.fieldLink RX9 33 "NapkinSyntaxModel" "told" "[I") (by decide +kernel)) (fun _ h => h) (v := .ref (E 7)) rfl dX9_readsOrder_297 ?_
      refine lv_iload_n hx hb dX9_readsOrder_300 rfl (lv_at hl 2 rfl) ?_
      refine z_iconst hx hb dX9_readsOrder_301 ?_
      refine z_iadd hx hb dX9_readsOrder_302 ?_
      refine lv_aload_n hx hb dX9_readsOrder_303 rfl (lv_at hl 1 rfl) ?_
      refine z_bipush hx hb dX9_readsOrder_304 (by decide +kernel) ?_
      have k15 : RI (fX9_needs (fX9_needs (mst (msf M 27 ((M 27 0) + (1))) 6 k (fX9_here M)) (97)) (121)) := (RI_needs k14 (121) (by omega))
      refine ct_Vi (VG_fix E cI cC) hZo hZb hZ S0 (kX9_figureBehind l D E cI cC Z hZo hZb (fX9_needs (fX9_needs (mst (msf M 27 ((M 27 0) + (1))) 6 k (fX9_here M)) (97)) (121)) (32) (by omega) k15 (fX9_figureBehind (fX9_needs (fX9_needs (mst (msf M 27 ((M 27 0) + (1))) 6 k (fX9_here M)) (97)) (121)) (32)).1 (fX9_figureBehind (fX9_needs (fX9_needs (mst (msf M 27 ((M 27 0) + (1))) 6 k (fX9_here M)) (97)) (121)) (32)).2 (Prod.ext rfl rfl)) (cwV 1 hts gX9_readsOrder_X9_figureBehind rfl rfl rfl (by decide +kernel) ⟨(Nat.le_of_ble_eq_true rfl), (Nat.le_of_ble_eq_true rfl)⟩) hK hP hD hS rfl rfl VG_0 rfl hl.1 rfl (Nat.le_of_ble_eq_true rfl) dX9_readsOrder_306 ⟨Nat.zero_le _, Nat.zero_le _⟩ (fun H locs hP hD hS => ?_)
      have q16 := (sp_figureBehind k15 (32) (by omega)).2
      refine z_iast hx hb hK hP hD hS 7 0 VG_7 rfl (by omega) (by omega) (by decide) dX9_readsOrder_309 VGw_6 (fun H locs hP hD hS => ?_)
      refine lv_aload_n hx hb dX9_readsOrder_310 rfl (lv_at hl 1 rfl) ?_
      refine va_get (own := RX9) (ref := "NapkinSyntaxModel") (C := RX9) (T := TX9) (N := 20) hx hb hts hinX9 hown hK hP 0 VG_0 rfl 19 (Nat.le_of_ble_eq_true rfl) (hts (.fieldLink RX9 33 "NapkinSyntaxModel" "told" "[I") (by decide +kernel)) (fun _ h => h) (v := .ref (E 7)) rfl dX9_readsOrder_311 ?_
      refine lv_iload_n hx hb dX9_readsOrder_314 rfl (lv_at hl 2 rfl) ?_
      refine z_iconst hx hb dX9_readsOrder_315 ?_
      refine z_iadd hx hb dX9_readsOrder_316 ?_
      refine lv_aload_n hx hb dX9_readsOrder_317 rfl (lv_at hl 1 rfl) ?_
      refine z_bipush hx hb dX9_readsOrder_318 (by decide +kernel) ?_
      have k17 : RI (fX9_figureBehind (fX9_needs (fX9_needs (mst (msf M 27 ((M 27 0) + (1))) 6 k (fX9_here M)) (97)) (121)) (32)).2 := (RI_figureBehind k15 (32) (by omega))
      have k18 : RI (mst (fX9_figureBehind (fX9_needs (fX9_needs (mst (msf M 27 ((M 27 0) + (1))) 6 k (fX9_here M)) (97)) (121)) (32)).2 6 (k + (1)) (fX9_figureBehind (fX9_needs (fX9_needs (mst (msf M 27 ((M 27 0) + (1))) 6 k (fX9_here M)) (97)) (121)) (32)).1) := (RI_of rfl rfl rfl rfl k17)
      refine ct_Vi (VG_fix E cI cC) hZo hZb hZ S0 (kX9_figureBehind l D E cI cC Z hZo hZb (mst (fX9_figureBehind (fX9_needs (fX9_needs (mst (msf M 27 ((M 27 0) + (1))) 6 k (fX9_here M)) (97)) (121)) (32)).2 6 (k + (1)) (fX9_figureBehind (fX9_needs (fX9_needs (mst (msf M 27 ((M 27 0) + (1))) 6 k (fX9_here M)) (97)) (121)) (32)).1) (32) (by omega) k18 (fX9_figureBehind (mst (fX9_figureBehind (fX9_needs (fX9_needs (mst (msf M 27 ((M 27 0) + (1))) 6 k (fX9_here M)) (97)) (121)) (32)).2 6 (k + (1)) (fX9_figureBehind (fX9_needs (fX9_needs (mst (msf M 27 ((M 27 0) + (1))) 6 k (fX9_here M)) (97)) (121)) (32)).1) (32)).1 (fX9_figureBehind (mst (fX9_figureBehind (fX9_needs (fX9_needs (mst (msf M 27 ((M 27 0) + (1))) 6 k (fX9_here M)) (97)) (121)) (32)).2 6 (k + (1)) (fX9_figureBehind (fX9_needs (fX9_needs (mst (msf M 27 ((M 27 0) + (1))) 6 k (fX9_here M)) (97)) (121)) (32)).1) (32)).2 (Prod.ext rfl rfl)) (cwV 1 hts gX9_readsOrder_X9_figureBehind rfl rfl rfl (by decide +kernel) ⟨(Nat.le_of_ble_eq_true rfl), (Nat.le_of_ble_eq_true rfl)⟩) hK hP hD hS rfl rfl VG_0 rfl hl.1 rfl (Nat.le_of_ble_eq_true rfl) dX9_readsOrder_320 ⟨Nat.zero_le _, Nat.zero_le _⟩ (fun H locs hP hD hS => ?_)
      have q19 := (sp_figureBehind k18 (32) (by omega)).2
      refine z_iast hx hb hK hP hD hS 7 0 VG_7 rfl (by omega) (by omega) (by decide) dX9_readsOrder_323 VGw_6 (fun H locs hP hD hS => ?_)
      refine lv_goto hx hb dX9_readsOrder_324 (tgt := 442) rfl ?_
      subst hE
      exact cv_v hx hb hr hlocks hS hP dX9_readsOrder_442
    · rw [if_neg b11] at hE
      by_cases b20 : ((fX9_here M) = 109)
      · rw [if_pos b20] at hE
        refine z_table hx hb dX9_readsOrder_23 (k0 := 109) (tgt := 327) (by omega) b20 (by decide) (by decide) rfl rfl ?_
        refine lv_aload_n hx hb dX9_readsOrder_327 rfl (lv_at hl 1 rfl) ?_
        refine z_bipush hx hb dX9_readsOrder_328 (by decide +kernel) ?_
        refine z_bipush hx hb dX9_readsOrder_330 (by decide +kernel) ?_
        refine z_bipush hx hb dX9_readsOrder_332 (by decide +kernel) ?_
        have k21 : RI (msf M 27 ((M 27 0) + (1))) := (RI_27s hR (by omega))
        have k22 : RI (mst (msf M 27 ((M 27 0) + (1))) 6 k (fX9_here M)) := (RI_of rfl rfl rfl rfl k21)
        refine ct_Vv (VG_fix E cI cC) hZo hZb hZ S0 (kX9_needsThree l D E cI cC Z hZo hZb (mst (msf M 27 ((M 27 0) + (1))) 6 k (fX9_here M)) (111) (118) (101) (by omega) (by omega) (by omega) k22 (fX9_needsThree (mst (msf M 27 ((M 27 0) + (1))) 6 k (fX9_here M)) (111) (118) (101)) rfl) (cwV 3 hts gX9_readsOrder_X9_needsThree rfl rfl rfl (by decide +kernel) ⟨(Nat.le_of_ble_eq_true rfl), (Nat.le_of_ble_eq_true rfl)⟩) hK hP hD hS rfl rfl VG_0 rfl hl.1 rfl (Nat.le_of_ble_eq_true rfl) dX9_readsOrder_334 ⟨Nat.zero_le _, Nat.zero_le _⟩ (fun H locs hP hD hS => ?_)
        refine lv_aload_n hx hb dX9_readsOrder_337 rfl (lv_at hl 1 rfl) ?_
        refine va_get (own := RX9) (ref := "NapkinSyntaxModel") (C := RX9) (T := TX9) (N := 20) hx hb hts hinX9 hown hK hP 0 VG_0 rfl 19 (Nat.le_of_ble_eq_true rfl) (hts (.fieldLink RX9 33 "NapkinSyntaxModel" "told" "[I") (by decide +kernel)) (fun _ h => h) (v := .ref (E 7)) rfl dX9_readsOrder_338 ?_
        refine lv_iload_n hx hb dX9_readsOrder_341 rfl (lv_at hl 2 rfl) ?_
        refine z_iconst hx hb dX9_readsOrder_342 ?_
        refine z_iadd hx hb dX9_readsOrder_343 ?_
        refine lv_aload_n hx hb dX9_readsOrder_344 rfl (lv_at hl 1 rfl) ?_
        refine z_bipush hx hb dX9_readsOrder_345 (by decide +kernel) ?_
        have k23 : RI (fX9_needsThree (mst (msf M 27 ((M 27 0) + (1))) 6 k (fX9_here M)) (111) (118) (101)) := (RI_needsThree k22 (111) (118) (101) (by omega) (by omega) (by omega))
        refine ct_Vi (VG_fix E cI cC) hZo hZb hZ S0 (kX9_figureBehind l D E cI cC Z hZo hZb (fX9_needsThree (mst (msf M 27 ((M 27 0) + (1))) 6 k (fX9_here M)) (111) (118) (101)) (32) (by omega) k23 (fX9_figureBehind (fX9_needsThree (mst (msf M 27 ((M 27 0) + (1))) 6 k (fX9_here M)) (111) (118) (101)) (32)).1 (fX9_figureBehind (fX9_needsThree (mst (msf M 27 ((M 27 0) + (1))) 6 k (fX9_here M)) (111) (118) (101)) (32)).2 (Prod.ext rfl rfl)) (cwV 1 hts gX9_readsOrder_X9_figureBehind rfl rfl rfl (by decide +kernel) ⟨(Nat.le_of_ble_eq_true rfl), (Nat.le_of_ble_eq_true rfl)⟩) hK hP hD hS rfl rfl VG_0 rfl hl.1 rfl (Nat.le_of_ble_eq_true rfl) dX9_readsOrder_347 ⟨Nat.zero_le _, Nat.zero_le _⟩ (fun H locs hP hD hS => ?_)
        have q24 := (sp_figureBehind k23 (32) (by omega)).2
        refine z_iast hx hb hK hP hD hS 7 0 VG_7 rfl (by omega) (by omega) (by decide) dX9_readsOrder_350 VGw_6 (fun H locs hP hD hS => ?_)
        refine lv_aload_n hx hb dX9_readsOrder_351 rfl (lv_at hl 1 rfl) ?_
        refine va_get (own := RX9) (ref := "NapkinSyntaxModel") (C := RX9) (T := TX9) (N := 20) hx hb hts hinX9 hown hK hP 0 VG_0 rfl 19 (Nat.le_of_ble_eq_true rfl) (hts (.fieldLink RX9 33 "NapkinSyntaxModel" "told" "[I") (by decide +kernel)) (fun _ h => h) (v := .ref (E 7)) rfl dX9_readsOrder_352 ?_
        refine lv_iload_n hx hb dX9_readsOrder_355 rfl (lv_at hl 2 rfl) ?_
        refine z_iconst hx hb dX9_readsOrder_356 ?_
        refine z_iadd hx hb dX9_readsOrder_357 ?_
        refine lv_aload_n hx hb dX9_readsOrder_358 rfl (lv_at hl 1 rfl) ?_
        refine z_bipush hx hb dX9_readsOrder_359 (by decide +kernel) ?_
        have k25 : RI (fX9_figureBehind (fX9_needsThree (mst (msf M 27 ((M 27 0) + (1))) 6 k (fX9_here M)) (111) (118) (101)) (32)).2 := (RI_figureBehind k23 (32) (by omega))
        have k26 : RI (mst (fX9_figureBehind (fX9_needsThree (mst (msf M 27 ((M 27 0) + (1))) 6 k (fX9_here M)) (111) (118) (101)) (32)).2 6 (k + (1)) (fX9_figureBehind (fX9_needsThree (mst (msf M 27 ((M 27 0) + (1))) 6 k (fX9_here M)) (111) (118) (101)) (32)).1) := (RI_of rfl rfl rfl rfl k25)
        refine ct_Vi (VG_fix E cI cC) hZo hZb hZ S0 (kX9_figureBehind l D E cI cC Z hZo hZb (mst (fX9_figureBehind (fX9_needsThree (mst (msf M 27 ((M 27 0) + (1))) 6 k (fX9_here M)) (111) (118) (101)) (32)).2 6 (k + (1)) (fX9_figureBehind (fX9_needsThree (mst (msf M 27 ((M 27 0) + (1))) 6 k (fX9_here M)) (111) (118) (101)) (32)).1) (32) (by omega) k26 (fX9_figureBehind (mst (fX9_figureBehind (fX9_needsThree (mst (msf M 27 ((M 27 0) + (1))) 6 k (fX9_here M)) (111) (118) (101)) (32)).2 6 (k + (1)) (fX9_figureBehind (fX9_needsThree (mst (msf M 27 ((M 27 0) + (1))) 6 k (fX9_here M)) (111) (118) (101)) (32)).1) (32)).1 (fX9_figureBehind (mst (fX9_figureBehind (fX9_needsThree (mst (msf M 27 ((M 27 0) + (1))) 6 k (fX9_here M)) (111) (118) (101)) (32)).2 6 (k + (1)) (fX9_figureBehind (fX9_needsThree (mst (msf M 27 ((M 27 0) + (1))) 6 k (fX9_here M)) (111) (118) (101)) (32)).1) (32)).2 (Prod.ext rfl rfl)) (cwV 1 hts gX9_readsOrder_X9_figureBehind rfl rfl rfl (by decide +kernel) ⟨(Nat.le_of_ble_eq_true rfl), (Nat.le_of_ble_eq_true rfl)⟩) hK hP hD hS rfl rfl VG_0 rfl hl.1 rfl (Nat.le_of_ble_eq_true rfl) dX9_readsOrder_361 ⟨Nat.zero_le _, Nat.zero_le _⟩ (fun H locs hP hD hS => ?_)
        have q27 := (sp_figureBehind k26 (32) (by omega)).2
        refine z_iast hx hb hK hP hD hS 7 0 VG_7 rfl (by omega) (by omega) (by decide) dX9_readsOrder_364 VGw_6 (fun H locs hP hD hS => ?_)
        refine lv_aload_n hx hb dX9_readsOrder_365 rfl (lv_at hl 1 rfl) ?_
        refine va_get (own := RX9) (ref := "NapkinSyntaxModel") (C := RX9) (T := TX9) (N := 20) hx hb hts hinX9 hown hK hP 0 VG_0 rfl 19 (Nat.le_of_ble_eq_true rfl) (hts (.fieldLink RX9 33 "NapkinSyntaxModel" "told" "[I") (by decide +kernel)) (fun _ h => h) (v := .ref (E 7)) rfl dX9_readsOrder_366 ?_
        refine lv_iload_n hx hb dX9_readsOrder_369 rfl (lv_at hl 2 rfl) ?_
        refine z_iconst hx hb dX9_readsOrder_370 ?_
        refine z_iadd hx hb dX9_readsOrder_371 ?_
        refine lv_aload_n hx hb dX9_readsOrder_372 rfl (lv_at hl 1 rfl) ?_
        have k28 : RI (fX9_figureBehind (mst (fX9_figureBehind (fX9_needsThree (mst (msf M 27 ((M 27 0) + (1))) 6 k (fX9_here M)) (111) (118) (101)) (32)).2 6 (k + (1)) (fX9_figureBehind (fX9_needsThree (mst (msf M 27 ((M 27 0) + (1))) 6 k (fX9_here M)) (111) (118) (101)) (32)).1) (32)).2 := (RI_figureBehind k26 (32) (by omega))
        have k29 : RI (mst (fX9_figureBehind (mst (fX9_figureBehind (fX9_needsThree (mst (msf M 27 ((M 27 0) + (1))) 6 k (fX9_here M)) (111) (118) (101)) (32)).2 6 (k + (1)) (fX9_figureBehind (fX9_needsThree (mst (msf M 27 ((M 27 0) + (1))) 6 k (fX9_here M)) (111) (118) (101)) (32)).1) (32)).2 6 (k + (2)) (fX9_figureBehind (mst (fX9_figureBehind (fX9_needsThree (mst (msf M 27 ((M 27 0) + (1))) 6 k (fX9_here M)) (111) (118) (101)) (32)).2 6 (k + (1)) (fX9_figureBehind (fX9_needsThree (mst (msf M 27 ((M 27 0) + (1))) 6 k (fX9_here M)) (111) (118) (101)) (32)).1) (32)).1) := (RI_of rfl rfl rfl rfl k28)
        refine ct_Vi (VG_fix E cI cC) hZo hZb hZ S0 (kX9_figure l D E cI cC Z hZo hZb (mst (fX9_figureBehind (mst (fX9_figureBehind (fX9_needsThree (mst (msf M 27 ((M 27 0) + (1))) 6 k (fX9_here M)) (111) (118) (101)) (32)).2 6 (k + (1)) (fX9_figureBehind (fX9_needsThree (mst (msf M 27 ((M 27 0) + (1))) 6 k (fX9_here M)) (111) (118) (101)) (32)).1) (32)).2 6 (k + (2)) (fX9_figureBehind (mst (fX9_figureBehind (fX9_needsThree (mst (msf M 27 ((M 27 0) + (1))) 6 k (fX9_here M)) (111) (118) (101)) (32)).2 6 (k + (1)) (fX9_figureBehind (fX9_needsThree (mst (msf M 27 ((M 27 0) + (1))) 6 k (fX9_here M)) (111) (118) (101)) (32)).1) (32)).1) k29 (fX9_figure (mst (fX9_figureBehind (mst (fX9_figureBehind (fX9_needsThree (mst (msf M 27 ((M 27 0) + (1))) 6 k (fX9_here M)) (111) (118) (101)) (32)).2 6 (k + (1)) (fX9_figureBehind (fX9_needsThree (mst (msf M 27 ((M 27 0) + (1))) 6 k (fX9_here M)) (111) (118) (101)) (32)).1) (32)).2 6 (k + (2)) (fX9_figureBehind (mst (fX9_figureBehind (fX9_needsThree (mst (msf M 27 ((M 27 0) + (1))) 6 k (fX9_here M)) (111) (118) (101)) (32)).2 6 (k + (1)) (fX9_figureBehind (fX9_needsThree (mst (msf M 27 ((M 27 0) + (1))) 6 k (fX9_here M)) (111) (118) (101)) (32)).1) (32)).1)).1 (fX9_figure (mst (fX9_figureBehind (mst (fX9_figureBehind (fX9_needsThree (mst (msf M 27 ((M 27 0) + (1))) 6 k (fX9_here M)) (111) (118) (101)) (32)).2 6 (k + (1)) (fX9_figureBehind (fX9_needsThree (mst (msf M 27 ((M 27 0) + (1))) 6 k (fX9_here M)) (111) (118) (101)) (32)).1) (32)).2 6 (k + (2)) (fX9_figureBehind (mst (fX9_figureBehind (fX9_needsThree (mst (msf M 27 ((M 27 0) + (1))) 6 k (fX9_here M)) (111) (118) (101)) (32)).2 6 (k + (1)) (fX9_figureBehind (fX9_needsThree (mst (msf M 27 ((M 27 0) + (1))) 6 k (fX9_here M)) (111) (118) (101)) (32)).1) (32)).1)).2 (Prod.ext rfl rfl)) (cwV 0 hts gX9_readsOrder_X9_figure rfl rfl rfl (by decide +kernel) ⟨(Nat.le_of_ble_eq_true rfl), (Nat.le_of_ble_eq_true rfl)⟩) hK hP hD hS rfl rfl VG_0 rfl hl.1 rfl (Nat.le_of_ble_eq_true rfl) dX9_readsOrder_373 ⟨Nat.zero_le _, Nat.zero_le _⟩ (fun H locs hP hD hS => ?_)
        have q30 := (sp_figure k29).2
        refine z_iast hx hb hK hP hD hS 7 0 VG_7 rfl (by omega) (by omega) (by decide) dX9_readsOrder_376 VGw_6 (fun H locs hP hD hS => ?_)
        refine lv_goto hx hb dX9_readsOrder_377 (tgt := 442) rfl ?_
        subst hE
        exact cv_v hx hb hr hlocks hS hP dX9_readsOrder_442
      · rw [if_neg b20] at hE
        by_cases b31 : ((fX9_here M) = 110)
        · rw [if_pos b31] at hE
          refine z_table hx hb dX9_readsOrder_23 (k0 := 110) (tgt := 108) (by omega) b31 (by decide) (by decide) rfl rfl ?_
          refine lv_aload_n hx hb dX9_readsOrder_108 rfl (lv_at hl 1 rfl) ?_
          refine z_bipush hx hb dX9_readsOrder_109 (by decide +kernel) ?_
          have k32 : RI (msf M 27 ((M 27 0) + (1))) := (RI_27s hR (by omega))
          have k33 : RI (mst (msf M 27 ((M 27 0) + (1))) 6 k (fX9_here M)) := (RI_of rfl rfl rfl rfl k32)
          refine ct_Vv (VG_fix E cI cC) hZo hZb hZ S0 (kX9_needs l D E cI cC Z hZo hZb (mst (msf M 27 ((M 27 0) + (1))) 6 k (fX9_here M)) (101) (by omega) k33 (fX9_needs (mst (msf M 27 ((M 27 0) + (1))) 6 k (fX9_here M)) (101)) rfl) (cwV 1 hts gX9_readsOrder_X9_needs rfl rfl rfl (by decide +kernel) ⟨(Nat.le_of_ble_eq_true rfl), (Nat.le_of_ble_eq_true rfl)⟩) hK hP hD hS rfl rfl VG_0 rfl hl.1 rfl (Nat.le_of_ble_eq_true rfl) dX9_readsOrder_111 ⟨Nat.zero_le _, Nat.zero_le _⟩ (fun H locs hP hD hS => ?_)
          refine lv_aload_n hx hb dX9_readsOrder_114 rfl (lv_at hl 1 rfl) ?_
          refine z_bipush hx hb dX9_readsOrder_115 (by decide +kernel) ?_
          have k34 : RI (fX9_needs (mst (msf M 27 ((M 27 0) + (1))) 6 k (fX9_here M)) (101)) := (RI_needs k33 (101) (by omega))
          refine ct_Vv (VG_fix E cI cC) hZo hZb hZ S0 (kX9_needs l D E cI cC Z hZo hZb (fX9_needs (mst (msf M 27 ((M 27 0) + (1))) 6 k (fX9_here M)) (101)) (119) (by omega) k34 (fX9_needs (fX9_needs (mst (msf M 27 ((M 27 0) + (1))) 6 k (fX9_here M)) (101)) (119)) rfl) (cwV 1 hts gX9_readsOrder_X9_needs rfl rfl rfl (by decide +kernel) ⟨(Nat.le_of_ble_eq_true rfl), (Nat.le_of_ble_eq_true rfl)⟩) hK hP hD hS rfl rfl VG_0 rfl hl.1 rfl (Nat.le_of_ble_eq_true rfl) dX9_readsOrder_117 ⟨Nat.zero_le _, Nat.zero_le _⟩ (fun H locs hP hD hS => ?_)
          refine lv_aload_n hx hb dX9_readsOrder_120 rfl (lv_at hl 1 rfl) ?_
          refine va_get (own := RX9) (ref := "NapkinSyntaxModel") (C := RX9) (T := TX9) (N := 20) hx hb hts hinX9 hown hK hP 0 VG_0 rfl 19 (Nat.le_of_ble_eq_true rfl) (hts (.fieldLink RX9 33 "NapkinSyntaxModel" "told" "[I") (by decide +kernel)) (fun _ h => h) (v := .ref (E 7)) rfl dX9_readsOrder_121 ?_
          refine lv_iload_n hx hb dX9_readsOrder_124 rfl (lv_at hl 2 rfl) ?_
          refine z_iconst hx hb dX9_readsOrder_125 ?_
          refine z_iadd hx hb dX9_readsOrder_126 ?_
          refine lv_aload_n hx hb dX9_readsOrder_127 rfl (lv_at hl 1 rfl) ?_
          refine z_bipush hx hb dX9_readsOrder_128 (by decide +kernel) ?_
          have k35 : RI (fX9_needs (fX9_needs (mst (msf M 27 ((M 27 0) + (1))) 6 k (fX9_here M)) (101)) (119)) := (RI_needs k34 (119) (by omega))
          refine ct_Vi (VG_fix E cI cC) hZo hZb hZ S0 (kX9_figureBehind l D E cI cC Z hZo hZb (fX9_needs (fX9_needs (mst (msf M 27 ((M 27 0) + (1))) 6 k (fX9_here M)) (101)) (119)) (32) (by omega) k35 (fX9_figureBehind (fX9_needs (fX9_needs (mst (msf M 27 ((M 27 0) + (1))) 6 k (fX9_here M)) (101)) (119)) (32)).1 (fX9_figureBehind (fX9_needs (fX9_needs (mst (msf M 27 ((M 27 0) + (1))) 6 k (fX9_here M)) (101)) (119)) (32)).2 (Prod.ext rfl rfl)) (cwV 1 hts gX9_readsOrder_X9_figureBehind rfl rfl rfl (by decide +kernel) ⟨(Nat.le_of_ble_eq_true rfl), (Nat.le_of_ble_eq_true rfl)⟩) hK hP hD hS rfl rfl VG_0 rfl hl.1 rfl (Nat.le_of_ble_eq_true rfl) dX9_readsOrder_130 ⟨Nat.zero_le _, Nat.zero_le _⟩ (fun H locs hP hD hS => ?_)
          have q36 := (sp_figureBehind k35 (32) (by omega)).2
          refine z_iast hx hb hK hP hD hS 7 0 VG_7 rfl (by omega) (by omega) (by decide) dX9_readsOrder_133 VGw_6 (fun H locs hP hD hS => ?_)
          refine lv_goto hx hb dX9_readsOrder_134 (tgt := 442) rfl ?_
          subst hE
          exact cv_v hx hb hr hlocks hS hP dX9_readsOrder_442
        · rw [if_neg b31] at hE
          by_cases b37 : ((fX9_here M) = 111)
          · rw [if_pos b37] at hE
            refine z_table hx hb dX9_readsOrder_23 (k0 := 111) (tgt := 176) (by omega) b37 (by decide) (by decide) rfl rfl ?_
            refine lv_aload_n hx hb dX9_readsOrder_176 rfl (lv_at hl 1 rfl) ?_
            refine z_bipush hx hb dX9_readsOrder_177 (by decide +kernel) ?_
            refine z_bipush hx hb dX9_readsOrder_179 (by decide +kernel) ?_
            refine z_bipush hx hb dX9_readsOrder_181 (by decide +kernel) ?_
            have k38 : RI (msf M 27 ((M 27 0) + (1))) := (RI_27s hR (by omega))
            have k39 : RI (mst (msf M 27 ((M 27 0) + (1))) 6 k (fX9_here M)) := (RI_of rfl rfl rfl rfl k38)
            refine ct_Vv (VG_fix E cI cC) hZo hZb hZ S0 (kX9_needsThree l D E cI cC Z hZo hZb (mst (msf M 27 ((M 27 0) + (1))) 6 k (fX9_here M)) (112) (101) (110) (by omega) (by omega) (by omega) k39 (fX9_needsThree (mst (msf M 27 ((M 27 0) + (1))) 6 k (fX9_here M)) (112) (101) (110)) rfl) (cwV 3 hts gX9_readsOrder_X9_needsThree rfl rfl rfl (by decide +kernel) ⟨(Nat.le_of_ble_eq_true rfl), (Nat.le_of_ble_eq_true rfl)⟩) hK hP hD hS rfl rfl VG_0 rfl hl.1 rfl (Nat.le_of_ble_eq_true rfl) dX9_readsOrder_183 ⟨Nat.zero_le _, Nat.zero_le _⟩ (fun H locs hP hD hS => ?_)
            refine lv_aload_n hx hb dX9_readsOrder_186 rfl (lv_at hl 1 rfl) ?_
            refine va_get (own := RX9) (ref := "NapkinSyntaxModel") (C := RX9) (T := TX9) (N := 20) hx hb hts hinX9 hown hK hP 0 VG_0 rfl 19 (Nat.le_of_ble_eq_true rfl) (hts (.fieldLink RX9 33 "NapkinSyntaxModel" "told" "[I") (by decide +kernel)) (fun _ h => h) (v := .ref (E 7)) rfl dX9_readsOrder_187 ?_
            refine lv_iload_n hx hb dX9_readsOrder_190 rfl (lv_at hl 2 rfl) ?_
            refine z_iconst hx hb dX9_readsOrder_191 ?_
            refine z_iadd hx hb dX9_readsOrder_192 ?_
            refine lv_aload_n hx hb dX9_readsOrder_193 rfl (lv_at hl 1 rfl) ?_
            refine z_bipush hx hb dX9_readsOrder_194 (by decide +kernel) ?_
            have k40 : RI (fX9_needsThree (mst (msf M 27 ((M 27 0) + (1))) 6 k (fX9_here M)) (112) (101) (110)) := (RI_needsThree k39 (112) (101) (110) (by omega) (by omega) (by omega))
            refine ct_Vi (VG_fix E cI cC) hZo hZb hZ S0 (kX9_figureBehind l D E cI cC Z hZo hZb (fX9_needsThree (mst (msf M 27 ((M 27 0) + (1))) 6 k (fX9_here M)) (112) (101) (110)) (32) (by omega) k40 (fX9_figureBehind (fX9_needsThree (mst (msf M 27 ((M 27 0) + (1))) 6 k (fX9_here M)) (112) (101) (110)) (32)).1 (fX9_figureBehind (fX9_needsThree (mst (msf M 27 ((M 27 0) + (1))) 6 k (fX9_here M)) (112) (101) (110)) (32)).2 (Prod.ext rfl rfl)) (cwV 1 hts gX9_readsOrder_X9_figureBehind rfl rfl rfl (by decide +kernel) ⟨(Nat.le_of_ble_eq_true rfl), (Nat.le_of_ble_eq_true rfl)⟩) hK hP hD hS rfl rfl VG_0 rfl hl.1 rfl (Nat.le_of_ble_eq_true rfl) dX9_readsOrder_196 ⟨Nat.zero_le _, Nat.zero_le _⟩ (fun H locs hP hD hS => ?_)
            have q41 := (sp_figureBehind k40 (32) (by omega)).2
            refine z_iast hx hb hK hP hD hS 7 0 VG_7 rfl (by omega) (by omega) (by decide) dX9_readsOrder_199 VGw_6 (fun H locs hP hD hS => ?_)
            refine lv_goto hx hb dX9_readsOrder_200 (tgt := 442) rfl ?_
            subst hE
            exact cv_v hx hb hr hlocks hS hP dX9_readsOrder_442
          · rw [if_neg b37] at hE
            by_cases b42 : ((fX9_here M) = 114)
            · rw [if_pos b42] at hE
              refine z_table hx hb dX9_readsOrder_23 (k0 := 114) (tgt := 257) (by omega) b42 (by decide) (by decide) rfl rfl ?_
              refine lv_aload_n hx hb dX9_readsOrder_257 rfl (lv_at hl 1 rfl) ?_
              refine z_bipush hx hb dX9_readsOrder_258 (by decide +kernel) ?_
              refine z_bipush hx hb dX9_readsOrder_260 (by decide +kernel) ?_
              refine z_bipush hx hb dX9_readsOrder_262 (by decide +kernel) ?_
              have k43 : RI (msf M 27 ((M 27 0) + (1))) := (RI_27s hR (by omega))
              have k44 : RI (mst (msf M 27 ((M 27 0) + (1))) 6 k (fX9_here M)) := (RI_of rfl rfl rfl rfl k43)
              refine ct_Vv (VG_fix E cI cC) hZo hZb hZ S0 (kX9_needsThree l D E cI cC Z hZo hZb (mst (msf M 27 ((M 27 0) + (1))) 6 k (fX9_here M)) (101) (97) (100) (by omega) (by omega) (by omega) k44 (fX9_needsThree (mst (msf M 27 ((M 27 0) + (1))) 6 k (fX9_here M)) (101) (97) (100)) rfl) (cwV 3 hts gX9_readsOrder_X9_needsThree rfl rfl rfl (by decide +kernel) ⟨(Nat.le_of_ble_eq_true rfl), (Nat.le_of_ble_eq_true rfl)⟩) hK hP hD hS rfl rfl VG_0 rfl hl.1 rfl (Nat.le_of_ble_eq_true rfl) dX9_readsOrder_264 ⟨Nat.zero_le _, Nat.zero_le _⟩ (fun H locs hP hD hS => ?_)
              refine lv_aload_n hx hb dX9_readsOrder_267 rfl (lv_at hl 1 rfl) ?_
              refine va_get (own := RX9) (ref := "NapkinSyntaxModel") (C := RX9) (T := TX9) (N := 20) hx hb hts hinX9 hown hK hP 0 VG_0 rfl 19 (Nat.le_of_ble_eq_true rfl) (hts (.fieldLink RX9 33 "NapkinSyntaxModel" "told" "[I") (by decide +kernel)) (fun _ h => h) (v := .ref (E 7)) rfl dX9_readsOrder_268 ?_
              refine lv_iload_n hx hb dX9_readsOrder_271 rfl (lv_at hl 2 rfl) ?_
              refine z_iconst hx hb dX9_readsOrder_272 ?_
              refine z_iadd hx hb dX9_readsOrder_273 ?_
              refine lv_aload_n hx hb dX9_readsOrder_274 rfl (lv_at hl 1 rfl) ?_
              refine z_bipush hx hb dX9_readsOrder_275 (by decide +kernel) ?_
              have k45 : RI (fX9_needsThree (mst (msf M 27 ((M 27 0) + (1))) 6 k (fX9_here M)) (101) (97) (100)) := (RI_needsThree k44 (101) (97) (100) (by omega) (by omega) (by omega))
              refine ct_Vi (VG_fix E cI cC) hZo hZb hZ S0 (kX9_figureBehind l D E cI cC Z hZo hZb (fX9_needsThree (mst (msf M 27 ((M 27 0) + (1))) 6 k (fX9_here M)) (101) (97) (100)) (32) (by omega) k45 (fX9_figureBehind (fX9_needsThree (mst (msf M 27 ((M 27 0) + (1))) 6 k (fX9_here M)) (101) (97) (100)) (32)).1 (fX9_figureBehind (fX9_needsThree (mst (msf M 27 ((M 27 0) + (1))) 6 k (fX9_here M)) (101) (97) (100)) (32)).2 (Prod.ext rfl rfl)) (cwV 1 hts gX9_readsOrder_X9_figureBehind rfl rfl rfl (by decide +kernel) ⟨(Nat.le_of_ble_eq_true rfl), (Nat.le_of_ble_eq_true rfl)⟩) hK hP hD hS rfl rfl VG_0 rfl hl.1 rfl (Nat.le_of_ble_eq_true rfl) dX9_readsOrder_277 ⟨Nat.zero_le _, Nat.zero_le _⟩ (fun H locs hP hD hS => ?_)
              have q46 := (sp_figureBehind k45 (32) (by omega)).2
              refine z_iast hx hb hK hP hD hS 7 0 VG_7 rfl (by omega) (by omega) (by decide) dX9_readsOrder_280 VGw_6 (fun H locs hP hD hS => ?_)
              refine lv_goto hx hb dX9_readsOrder_281 (tgt := 442) rfl ?_
              subst hE
              exact cv_v hx hb hr hlocks hS hP dX9_readsOrder_442
            · rw [if_neg b42] at hE
              by_cases b47 : ((fX9_here M) = 115)
              · rw [if_pos b47] at hE
                refine z_table hx hb dX9_readsOrder_23 (k0 := 115) (tgt := 380) (by omega) b47 (by decide) (by decide) rfl rfl ?_
                refine lv_aload_n hx hb dX9_readsOrder_380 rfl (lv_at hl 1 rfl) ?_
                refine z_bipush hx hb dX9_readsOrder_381 (by decide +kernel) ?_
                refine z_bipush hx hb dX9_readsOrder_383 (by decide +kernel) ?_
                refine z_bipush hx hb dX9_readsOrder_385 (by decide +kernel) ?_
                have k48 : RI (msf M 27 ((M 27 0) + (1))) := (RI_27s hR (by omega))
                have k49 : RI (mst (msf M 27 ((M 27 0) + (1))) 6 k (fX9_here M)) := (RI_of rfl rfl rfl rfl k48)
                refine ct_Vv (VG_fix E cI cC) hZo hZb hZ S0 (kX9_needsThree l D E cI cC Z hZo hZb (mst (msf M 27 ((M 27 0) + (1))) 6 k (fX9_here M)) (116) (97) (105) (by omega) (by omega) (by omega) k49 (fX9_needsThree (mst (msf M 27 ((M 27 0) + (1))) 6 k (fX9_here M)) (116) (97) (105)) rfl) (cwV 3 hts gX9_readsOrder_X9_needsThree rfl rfl rfl (by decide +kernel) ⟨(Nat.le_of_ble_eq_true rfl), (Nat.le_of_ble_eq_true rfl)⟩) hK hP hD hS rfl rfl VG_0 rfl hl.1 rfl (Nat.le_of_ble_eq_true rfl) dX9_readsOrder_387 ⟨Nat.zero_le _, Nat.zero_le _⟩ (fun H locs hP hD hS => ?_)
                refine lv_aload_n hx hb dX9_readsOrder_390 rfl (lv_at hl 1 rfl) ?_
                refine z_bipush hx hb dX9_readsOrder_391 (by decide +kernel) ?_
                have k50 : RI (fX9_needsThree (mst (msf M 27 ((M 27 0) + (1))) 6 k (fX9_here M)) (116) (97) (105)) := (RI_needsThree k49 (116) (97) (105) (by omega) (by omega) (by omega))
                refine ct_Vv (VG_fix E cI cC) hZo hZb hZ S0 (kX9_needs l D E cI cC Z hZo hZb (fX9_needsThree (mst (msf M 27 ((M 27 0) + (1))) 6 k (fX9_here M)) (116) (97) (105)) (110) (by omega) k50 (fX9_needs (fX9_needsThree (mst (msf M 27 ((M 27 0) + (1))) 6 k (fX9_here M)) (116) (97) (105)) (110)) rfl) (cwV 1 hts gX9_readsOrder_X9_needs rfl rfl rfl (by decide +kernel) ⟨(Nat.le_of_ble_eq_true rfl), (Nat.le_of_ble_eq_true rfl)⟩) hK hP hD hS rfl rfl VG_0 rfl hl.1 rfl (Nat.le_of_ble_eq_true rfl) dX9_readsOrder_393 ⟨Nat.zero_le _, Nat.zero_le _⟩ (fun H locs hP hD hS => ?_)
                refine lv_aload_n hx hb dX9_readsOrder_396 rfl (lv_at hl 1 rfl) ?_
                refine va_get (own := RX9) (ref := "NapkinSyntaxModel") (C := RX9) (T := TX9) (N := 20) hx hb hts hinX9 hown hK hP 0 VG_0 rfl 19 (Nat.le_of_ble_eq_true rfl) (hts (.fieldLink RX9 33 "NapkinSyntaxModel" "told" "[I") (by decide +kernel)) (fun _ h => h) (v := .ref (E 7)) rfl dX9_readsOrder_397 ?_
                refine lv_iload_n hx hb dX9_readsOrder_400 rfl (lv_at hl 2 rfl) ?_
                refine z_iconst hx hb dX9_readsOrder_401 ?_
                refine z_iadd hx hb dX9_readsOrder_402 ?_
                refine lv_aload_n hx hb dX9_readsOrder_403 rfl (lv_at hl 1 rfl) ?_
                refine z_bipush hx hb dX9_readsOrder_404 (by decide +kernel) ?_
                have k51 : RI (fX9_needs (fX9_needsThree (mst (msf M 27 ((M 27 0) + (1))) 6 k (fX9_here M)) (116) (97) (105)) (110)) := (RI_needs k50 (110) (by omega))
                refine ct_Vi (VG_fix E cI cC) hZo hZb hZ S0 (kX9_figureBehind l D E cI cC Z hZo hZb (fX9_needs (fX9_needsThree (mst (msf M 27 ((M 27 0) + (1))) 6 k (fX9_here M)) (116) (97) (105)) (110)) (32) (by omega) k51 (fX9_figureBehind (fX9_needs (fX9_needsThree (mst (msf M 27 ((M 27 0) + (1))) 6 k (fX9_here M)) (116) (97) (105)) (110)) (32)).1 (fX9_figureBehind (fX9_needs (fX9_needsThree (mst (msf M 27 ((M 27 0) + (1))) 6 k (fX9_here M)) (116) (97) (105)) (110)) (32)).2 (Prod.ext rfl rfl)) (cwV 1 hts gX9_readsOrder_X9_figureBehind rfl rfl rfl (by decide +kernel) ⟨(Nat.le_of_ble_eq_true rfl), (Nat.le_of_ble_eq_true rfl)⟩) hK hP hD hS rfl rfl VG_0 rfl hl.1 rfl (Nat.le_of_ble_eq_true rfl) dX9_readsOrder_406 ⟨Nat.zero_le _, Nat.zero_le _⟩ (fun H locs hP hD hS => ?_)
                have q52 := (sp_figureBehind k51 (32) (by omega)).2
                refine z_iast hx hb hK hP hD hS 7 0 VG_7 rfl (by omega) (by omega) (by decide) dX9_readsOrder_409 VGw_6 (fun H locs hP hD hS => ?_)
                refine lv_aload_n hx hb dX9_readsOrder_410 rfl (lv_at hl 1 rfl) ?_
                refine va_get (own := RX9) (ref := "NapkinSyntaxModel") (C := RX9) (T := TX9) (N := 20) hx hb hts hinX9 hown hK hP 0 VG_0 rfl 19 (Nat.le_of_ble_eq_true rfl) (hts (.fieldLink RX9 33 "NapkinSyntaxModel" "told" "[I") (by decide +kernel)) (fun _ h => h) (v := .ref (E 7)) rfl dX9_readsOrder_411 ?_
                refine lv_iload_n hx hb dX9_readsOrder_414 rfl (lv_at hl 2 rfl) ?_
                refine z_iconst hx hb dX9_readsOrder_415 ?_
                refine z_iadd hx hb dX9_readsOrder_416 ?_
                refine lv_aload_n hx hb dX9_readsOrder_417 rfl (lv_at hl 1 rfl) ?_
                refine z_bipush hx hb dX9_readsOrder_418 (by decide +kernel) ?_
                have k53 : RI (fX9_figureBehind (fX9_needs (fX9_needsThree (mst (msf M 27 ((M 27 0) + (1))) 6 k (fX9_here M)) (116) (97) (105)) (110)) (32)).2 := (RI_figureBehind k51 (32) (by omega))
                have k54 : RI (mst (fX9_figureBehind (fX9_needs (fX9_needsThree (mst (msf M 27 ((M 27 0) + (1))) 6 k (fX9_here M)) (116) (97) (105)) (110)) (32)).2 6 (k + (1)) (fX9_figureBehind (fX9_needs (fX9_needsThree (mst (msf M 27 ((M 27 0) + (1))) 6 k (fX9_here M)) (116) (97) (105)) (110)) (32)).1) := (RI_of rfl rfl rfl rfl k53)
                refine ct_Vi (VG_fix E cI cC) hZo hZb hZ S0 (kX9_figureBehind l D E cI cC Z hZo hZb (mst (fX9_figureBehind (fX9_needs (fX9_needsThree (mst (msf M 27 ((M 27 0) + (1))) 6 k (fX9_here M)) (116) (97) (105)) (110)) (32)).2 6 (k + (1)) (fX9_figureBehind (fX9_needs (fX9_needsThree (mst (msf M 27 ((M 27 0) + (1))) 6 k (fX9_here M)) (116) (97) (105)) (110)) (32)).1) (43) (by omega) k54 (fX9_figureBehind (mst (fX9_figureBehind (fX9_needs (fX9_needsThree (mst (msf M 27 ((M 27 0) + (1))) 6 k (fX9_here M)) (116) (97) (105)) (110)) (32)).2 6 (k + (1)) (fX9_figureBehind (fX9_needs (fX9_needsThree (mst (msf M 27 ((M 27 0) + (1))) 6 k (fX9_here M)) (116) (97) (105)) (110)) (32)).1) (43)).1 (fX9_figureBehind (mst (fX9_figureBehind (fX9_needs (fX9_needsThree (mst (msf M 27 ((M 27 0) + (1))) 6 k (fX9_here M)) (116) (97) (105)) (110)) (32)).2 6 (k + (1)) (fX9_figureBehind (fX9_needs (fX9_needsThree (mst (msf M 27 ((M 27 0) + (1))) 6 k (fX9_here M)) (116) (97) (105)) (110)) (32)).1) (43)).2 (Prod.ext rfl rfl)) (cwV 1 hts gX9_readsOrder_X9_figureBehind rfl rfl rfl (by decide +kernel) ⟨(Nat.le_of_ble_eq_true rfl), (Nat.le_of_ble_eq_true rfl)⟩) hK hP hD hS rfl rfl VG_0 rfl hl.1 rfl (Nat.le_of_ble_eq_true rfl) dX9_readsOrder_420 ⟨Nat.zero_le _, Nat.zero_le _⟩ (fun H locs hP hD hS => ?_)
                have q55 := (sp_figureBehind k54 (43) (by omega)).2
                refine z_iast hx hb hK hP hD hS 7 0 VG_7 rfl (by omega) (by omega) (by decide) dX9_readsOrder_423 VGw_6 (fun H locs hP hD hS => ?_)
                refine lv_goto hx hb dX9_readsOrder_424 (tgt := 442) rfl ?_
                subst hE
                exact cv_v hx hb hr hlocks hS hP dX9_readsOrder_442
              · rw [if_neg b47] at hE
                by_cases b56 : ((fX9_here M) = 116)
                · rw [if_pos b56] at hE
                  refine z_table hx hb dX9_readsOrder_23 (k0 := 116) (tgt := 203) (by omega) b56 (by decide) (by decide) rfl rfl ?_
                  refine lv_aload_n hx hb dX9_readsOrder_203 rfl (lv_at hl 1 rfl) ?_
                  refine z_bipush hx hb dX9_readsOrder_204 (by decide +kernel) ?_
                  refine z_bipush hx hb dX9_readsOrder_206 (by decide +kernel) ?_
                  refine z_bipush hx hb dX9_readsOrder_208 (by decide +kernel) ?_
                  have k57 : RI (msf M 27 ((M 27 0) + (1))) := (RI_27s hR (by omega))
                  have k58 : RI (mst (msf M 27 ((M 27 0) + (1))) 6 k (fX9_here M)) := (RI_of rfl rfl rfl rfl k57)
                  refine ct_Vv (VG_fix E cI cC) hZo hZb hZ S0 (kX9_needsThree l D E cI cC Z hZo hZb (mst (msf M 27 ((M 27 0) + (1))) 6 k (fX9_here M)) (97) (107) (101) (by omega) (by omega) (by omega) k58 (fX9_needsThree (mst (msf M 27 ((M 27 0) + (1))) 6 k (fX9_here M)) (97) (107) (101)) rfl) (cwV 3 hts gX9_readsOrder_X9_needsThree rfl rfl rfl (by decide +kernel) ⟨(Nat.le_of_ble_eq_true rfl), (Nat.le_of_ble_eq_true rfl)⟩) hK hP hD hS rfl rfl VG_0 rfl hl.1 rfl (Nat.le_of_ble_eq_true rfl) dX9_readsOrder_210 ⟨Nat.zero_le _, Nat.zero_le _⟩ (fun H locs hP hD hS => ?_)
                  refine lv_aload_n hx hb dX9_readsOrder_213 rfl (lv_at hl 1 rfl) ?_
                  refine va_get (own := RX9) (ref := "NapkinSyntaxModel") (C := RX9) (T := TX9) (N := 20) hx hb hts hinX9 hown hK hP 0 VG_0 rfl 19 (Nat.le_of_ble_eq_true rfl) (hts (.fieldLink RX9 33 "NapkinSyntaxModel" "told" "[I") (by decide +kernel)) (fun _ h => h) (v := .ref (E 7)) rfl dX9_readsOrder_214 ?_
                  refine lv_iload_n hx hb dX9_readsOrder_217 rfl (lv_at hl 2 rfl) ?_
                  refine z_iconst hx hb dX9_readsOrder_218 ?_
                  refine z_iadd hx hb dX9_readsOrder_219 ?_
                  refine lv_aload_n hx hb dX9_readsOrder_220 rfl (lv_at hl 1 rfl) ?_
                  refine z_bipush hx hb dX9_readsOrder_221 (by decide +kernel) ?_
                  have k59 : RI (fX9_needsThree (mst (msf M 27 ((M 27 0) + (1))) 6 k (fX9_here M)) (97) (107) (101)) := (RI_needsThree k58 (97) (107) (101) (by omega) (by omega) (by omega))
                  refine ct_Vi (VG_fix E cI cC) hZo hZb hZ S0 (kX9_figureBehind l D E cI cC Z hZo hZb (fX9_needsThree (mst (msf M 27 ((M 27 0) + (1))) 6 k (fX9_here M)) (97) (107) (101)) (32) (by omega) k59 (fX9_figureBehind (fX9_needsThree (mst (msf M 27 ((M 27 0) + (1))) 6 k (fX9_here M)) (97) (107) (101)) (32)).1 (fX9_figureBehind (fX9_needsThree (mst (msf M 27 ((M 27 0) + (1))) 6 k (fX9_here M)) (97) (107) (101)) (32)).2 (Prod.ext rfl rfl)) (cwV 1 hts gX9_readsOrder_X9_figureBehind rfl rfl rfl (by decide +kernel) ⟨(Nat.le_of_ble_eq_true rfl), (Nat.le_of_ble_eq_true rfl)⟩) hK hP hD hS rfl rfl VG_0 rfl hl.1 rfl (Nat.le_of_ble_eq_true rfl) dX9_readsOrder_223 ⟨Nat.zero_le _, Nat.zero_le _⟩ (fun H locs hP hD hS => ?_)
                  have q60 := (sp_figureBehind k59 (32) (by omega)).2
                  refine z_iast hx hb hK hP hD hS 7 0 VG_7 rfl (by omega) (by omega) (by decide) dX9_readsOrder_226 VGw_6 (fun H locs hP hD hS => ?_)
                  refine lv_goto hx hb dX9_readsOrder_227 (tgt := 442) rfl ?_
                  subst hE
                  exact cv_v hx hb hr hlocks hS hP dX9_readsOrder_442
                · rw [if_neg b56] at hE
                  by_cases b61 : ((fX9_here M) = 119)
                  · rw [if_pos b61] at hE
                    refine z_table hx hb dX9_readsOrder_23 (k0 := 119) (tgt := 230) (by omega) b61 (by decide) (by decide) rfl rfl ?_
                    refine lv_aload_n hx hb dX9_readsOrder_230 rfl (lv_at hl 1 rfl) ?_
                    refine z_bipush hx hb dX9_readsOrder_231 (by decide +kernel) ?_
                    refine z_bipush hx hb dX9_readsOrder_233 (by decide +kernel) ?_
                    refine z_bipush hx hb dX9_readsOrder_235 (by decide +kernel) ?_
                    have k62 : RI (msf M 27 ((M 27 0) + (1))) := (RI_27s hR (by omega))
                    have k63 : RI (mst (msf M 27 ((M 27 0) + (1))) 6 k (fX9_here M)) := (RI_of rfl rfl rfl rfl k62)
                    refine ct_Vv (VG_fix E cI cC) hZo hZb hZ S0 (kX9_needsThree l D E cI cC Z hZo hZb (mst (msf M 27 ((M 27 0) + (1))) 6 k (fX9_here M)) (97) (115) (104) (by omega) (by omega) (by omega) k63 (fX9_needsThree (mst (msf M 27 ((M 27 0) + (1))) 6 k (fX9_here M)) (97) (115) (104)) rfl) (cwV 3 hts gX9_readsOrder_X9_needsThree rfl rfl rfl (by decide +kernel) ⟨(Nat.le_of_ble_eq_true rfl), (Nat.le_of_ble_eq_true rfl)⟩) hK hP hD hS rfl rfl VG_0 rfl hl.1 rfl (Nat.le_of_ble_eq_true rfl) dX9_readsOrder_237 ⟨Nat.zero_le _, Nat.zero_le _⟩ (fun H locs hP hD hS => ?_)
                    refine lv_aload_n hx hb dX9_readsOrder_240 rfl (lv_at hl 1 rfl) ?_
                    refine va_get (own := RX9) (ref := "NapkinSyntaxModel") (C := RX9) (T := TX9) (N := 20) hx hb hts hinX9 hown hK hP 0 VG_0 rfl 19 (Nat.le_of_ble_eq_true rfl) (hts (.fieldLink RX9 33 "NapkinSyntaxModel" "told" "[I") (by decide +kernel)) (fun _ h => h) (v := .ref (E 7)) rfl dX9_readsOrder_241 ?_
                    refine lv_iload_n hx hb dX9_readsOrder_244 rfl (lv_at hl 2 rfl) ?_
                    refine z_iconst hx hb dX9_readsOrder_245 ?_
                    refine z_iadd hx hb dX9_readsOrder_246 ?_
                    refine lv_aload_n hx hb dX9_readsOrder_247 rfl (lv_at hl 1 rfl) ?_
                    refine z_bipush hx hb dX9_readsOrder_248 (by decide +kernel) ?_
                    have k64 : RI (fX9_needsThree (mst (msf M 27 ((M 27 0) + (1))) 6 k (fX9_here M)) (97) (115) (104)) := (RI_needsThree k63 (97) (115) (104) (by omega) (by omega) (by omega))
                    refine ct_Vi (VG_fix E cI cC) hZo hZb hZ S0 (kX9_figureBehind l D E cI cC Z hZo hZb (fX9_needsThree (mst (msf M 27 ((M 27 0) + (1))) 6 k (fX9_here M)) (97) (115) (104)) (32) (by omega) k64 (fX9_figureBehind (fX9_needsThree (mst (msf M 27 ((M 27 0) + (1))) 6 k (fX9_here M)) (97) (115) (104)) (32)).1 (fX9_figureBehind (fX9_needsThree (mst (msf M 27 ((M 27 0) + (1))) 6 k (fX9_here M)) (97) (115) (104)) (32)).2 (Prod.ext rfl rfl)) (cwV 1 hts gX9_readsOrder_X9_figureBehind rfl rfl rfl (by decide +kernel) ⟨(Nat.le_of_ble_eq_true rfl), (Nat.le_of_ble_eq_true rfl)⟩) hK hP hD hS rfl rfl VG_0 rfl hl.1 rfl (Nat.le_of_ble_eq_true rfl) dX9_readsOrder_250 ⟨Nat.zero_le _, Nat.zero_le _⟩ (fun H locs hP hD hS => ?_)
                    have q65 := (sp_figureBehind k64 (32) (by omega)).2
                    refine z_iast hx hb hK hP hD hS 7 0 VG_7 rfl (by omega) (by omega) (by decide) dX9_readsOrder_253 VGw_6 (fun H locs hP hD hS => ?_)
                    refine lv_goto hx hb dX9_readsOrder_254 (tgt := 442) rfl ?_
                    subst hE
                    exact cv_v hx hb hr hlocks hS hP dX9_readsOrder_442
                  · rw [if_neg b61] at hE
                    refine z_tableX hx hb dX9_readsOrder_23 (tgt := 427) (by omega) (z_hole (L := [102, 108, 109, 110, 111, 114, 115, 116, 119]) (by decide) (by intro x hx; simp only [List.mem_cons, List.not_mem_nil, or_false] at hx; omega)) rfl ?_
                    refine lv_aload_n hx hb dX9_readsOrder_427 rfl (lv_at hl 1 rfl) ?_
                    refine z_iconst hx hb dX9_readsOrder_428 ?_
                    refine va_put (own := RX9) (ref := "NapkinSyntaxModel") (C := RX9) (T := TX9) (N := 20) hx hb hts hinX9 tyX9 tyX9_ok nmX9 hown hK hP hD hS 0 VG_0 rfl 18 (Nat.le_of_ble_eq_true rfl) (hts (.fieldLink RX9 202 "NapkinSyntaxModel" "isWrong" "Z") (by decide +kernel)) (fun _ h => h) rfl (ty := .boolean) (v := .int (iI (1))) (by decide +kernel) nr_b1 rfl (Nat.le_of_ble_eq_true rfl) dX9_readsOrder_429 (fun H locs hP hD hS => ?_)
                    rw [VGf_28] at hP hD
                    refine lv_aload_n hx hb dX9_readsOrder_432 rfl (lv_at hl 1 rfl) ?_
                    refine lv_dup hx hb dX9_readsOrder_433 rfl ?_
                    refine va_get (own := RX9) (ref := "NapkinSyntaxModel") (C := RX9) (T := TX9) (N := 20) hx hb hts hinX9 hown hK hP 0 VG_0 rfl 17 (Nat.le_of_ble_eq_true rfl) (hts (.fieldLink RX9 199 "NapkinSyntaxModel" "spot" "I") (by decide +kernel)) (fun _ h => h) (v := .int (iI ((M 27 0) + (1)))) rfl dX9_readsOrder_434 ?_
                    have q66 := RI_27 (RI_27s hR (by omega))
                    refine z_iconst hx hb dX9_readsOrder_437 ?_
                    refine z_isub hx hb dX9_readsOrder_438 ?_
                    refine va_put (own := RX9) (ref := "NapkinSyntaxModel") (C := RX9) (T := TX9) (N := 20) hx hb hts hinX9 tyX9 tyX9_ok nmX9 hown hK hP hD hS 0 VG_0 rfl 17 (Nat.le_of_ble_eq_true rfl) (hts (.fieldLink RX9 199 "NapkinSyntaxModel" "spot" "I") (by decide +kernel)) (fun _ h => h) rfl (ty := .int) (v := .int (iI (((M 27 0) + (1)) - (1)))) (by decide +kernel) rfl rfl (Nat.le_of_ble_eq_true rfl) dX9_readsOrder_439 (fun H locs hP hD hS => ?_)
                    rw [VGf_27] at hP hD
                    subst hE
                    exact cv_v hx hb hr hlocks hS hP dX9_readsOrder_442

theorem fr_fX9_readsOrder {M : Mem} (k : Int) {r : Nat} (h6 : Nat.beq r 6 = false) (h27 : Nat.beq r 27 = false) (h28 : Nat.beq r 28 = false) : (fX9_readsOrder M k) r = M r := by
  unfold fX9_readsOrder
  (repeat' with_reducible refine frite_v (fun _ => ?_) (fun _ => ?_)) <;> first | with_reducible rfl | simp only [mst_o, msf_o, mcp_o, fr_fX9_figure, fr_fX9_figureBehind, fr_fX9_foldHere, fr_fX9_needs, fr_fX9_needsThree, h6, h27, h28]
