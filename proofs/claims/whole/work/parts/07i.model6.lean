/-! the model: orders of a text -/

def QR (A N : Mem) : Prop := SP A N ∧ TL N
theorem QR_n1 {A M : Mem} {c : Int} (hc : 0 ≤ c) (h : QR A M) : QR A (fX9_needs M c) := ⟨SP_t h.1 (sp_needs h.1.2.2.1 c hc), TL_of (fr_fX9_needs c rfl rfl) h.2⟩
theorem QR_n3 {A M : Mem} {a b c : Int} (ha : 0 ≤ a) (hb : 0 ≤ b) (hc : 0 ≤ c) (h : QR A M) : QR A (fX9_needsThree M a b c) := ⟨SP_t h.1 (sp_needsThree h.1.2.2.1 a b c ha hb hc), TL_of (fr_fX9_needsThree a b c rfl rfl) h.2⟩
theorem SP_st {A M : Mem} {z v : Int} (h : SP A M) : SP A (mst M 6 z v) := ⟨h.1, h.2.1, RI_of rfl rfl rfl rfl h.2.2.1, h.2.2.2⟩
theorem QR_fb {A M : Mem} {c z : Int} (hc : 0 ≤ c) (h : QR A M) : QR A (mst (fX9_figureBehind M c).2 6 z (fX9_figureBehind M c).1) := by
  have s := sp_figureBehind h.1.2.2.1 c hc
  have t : TL (fX9_figureBehind M c).2 := TL_of (fr_fX9_figureBehind c rfl rfl) h.2
  exact ⟨SP_st (SP_t h.1 s.1), TL_up t (by omega)⟩
theorem QR_fg {A M : Mem} {z : Int} (h : QR A M) : QR A (mst (fX9_figure M).2 6 z (fX9_figure M).1) := by
  have s := sp_figure h.1.2.2.1
  have t : TL (fX9_figure M).2 := TL_of (fr_fX9_figure rfl rfl) h.2
  exact ⟨SP_st (SP_t h.1 s.1), TL_up t (by omega)⟩
theorem QR_fh {A M : Mem} {z : Int} (h : QR A M) : QR A (mst (fX9_foldHere M).2 6 z (fX9_foldHere M).1) := by
  have s := sp_foldHere h.1.2.2.1
  have t : TL (fX9_foldHere M).2 := TL_of (fr_fX9_foldHere rfl rfl) h.2
  exact ⟨SP_st (SP_t h.1 s.1), TL_up t (by omega)⟩
/-- what one order of a text does to the spot -/
def RO (M N : Mem) : Prop := RI N ∧ TL N ∧ M 27 0 ≤ N 27 0 ∧ (N 28 0 = 0 → M 27 0 + 1 ≤ N 27 0) ∧ N 17 0 = M 17 0
theorem RO_ite {M : Mem} {c : Prop} [Decidable c] {a b : Mem} (h1 : c → RO M a) (h2 : ¬ c → RO M b) : RO M (if c then a else b) := by
  by_cases h : c
  · rw [if_pos h]; exact h1 h
  · rw [if_neg h]; exact h2 h
theorem ro_spec {M : Mem} (h : RI M) (ht : TL M) (k : Int) : RO M (fX9_readsOrder M k) := by
  have d := dX9_here h
  have a := RI_17 h
  have b := RI_27 h
  have tm : TL (mst (msf M 27 (M 27 0 + 1)) 6 k (fX9_here M)) := TL_up (TL_of (M := M) rfl ht) (by omega)
  have fin : ∀ N : Mem, QR (mst (msf M 27 (M 27 0 + 1)) 6 k (fX9_here M)) N → RO M N := by
    intro N q
    have e1 : M 27 0 + 1 ≤ N 27 0 := q.1.1
    exact ⟨q.1.2.2.1, q.2, by omega, fun _ => e1, q.1.2.2.2⟩
  have q0 : ¬ fX9_here M = -1 → QR (mst (msf M 27 (M 27 0 + 1)) 6 k (fX9_here M)) (mst (msf M 27 (M 27 0 + 1)) 6 k (fX9_here M)) := fun g => by
    have r : RI (msf M 27 (M 27 0 + 1)) := RI_27s h (by omega)
    exact ⟨⟨Int.le_refl _, Int.le_refl _, RI_of rfl rfl rfl rfl r, rfl⟩, tm⟩
  unfold fX9_readsOrder
  refine RO_ite (fun hq => fin _ (QR_fh (QR_fb (by decide) (QR_n3 (by decide) (by decide) (by decide) (q0 (by omega)))))) (fun _ => ?_)
  refine RO_ite (fun hq => fin _ (QR_fb (by decide) (QR_fb (by decide) (QR_n1 (by decide) (QR_n1 (by decide) (q0 (by omega))))))) (fun _ => ?_)
  refine RO_ite (fun hq => fin _ (QR_fg (QR_fb (by decide) (QR_fb (by decide) (QR_n3 (by decide) (by decide) (by decide) (q0 (by omega))))))) (fun _ => ?_)
  refine RO_ite (fun hq => fin _ (QR_fb (by decide) (QR_n1 (by decide) (QR_n1 (by decide) (q0 (by omega)))))) (fun _ => ?_)
  refine RO_ite (fun hq => fin _ (QR_fb (by decide) (QR_n3 (by decide) (by decide) (by decide) (q0 (by omega))))) (fun _ => ?_)
  refine RO_ite (fun hq => fin _ (QR_fb (by decide) (QR_n3 (by decide) (by decide) (by decide) (q0 (by omega))))) (fun _ => ?_)
  refine RO_ite (fun hq => fin _ (QR_fb (by decide) (QR_fb (by decide) (QR_n1 (by decide) (QR_n3 (by decide) (by decide) (by decide) (q0 (by omega))))))) (fun _ => ?_)
  refine RO_ite (fun hq => fin _ (QR_fb (by decide) (QR_n3 (by decide) (by decide) (by decide) (q0 (by omega))))) (fun _ => ?_)
  refine RO_ite (fun hq => fin _ (QR_fb (by decide) (QR_n3 (by decide) (by decide) (by decide) (q0 (by omega))))) (fun _ => ?_)
  refine ⟨?_, TL_of (M := mst (msf M 27 (M 27 0 + 1)) 6 k (fX9_here M)) rfl tm, ?_, ?_, rfl⟩
  · exact ⟨h.1, (by omega : 0 ≤ M 27 0 + 1 - 1 ∧ M 27 0 + 1 - 1 ≤ 60), ⟨(by decide : (0 : Int) ≤ 1), (by decide : (1 : Int) ≤ 1)⟩, h.2.2.2⟩
  · show M 27 0 ≤ M 27 0 + 1 - 1
    omega
  · intro q
    exact absurd (show (1 : Int) = 0 from q) (by decide)
theorem ro_facts {M : Mem} (h : RI M) (ht : TL M) (k : Int) : M 27 0 ≤ fX9_readsOrder M k 27 0 ∧ (fX9_readsOrder M k 28 0 = 0 → M 27 0 + 1 ≤ fX9_readsOrder M k 27 0) ∧ fX9_readsOrder M k 17 0 = M 17 0 := (ro_spec h ht k).2.2
theorem RI_readsOrder {M : Mem} (h : RI M) (ht : TL M) (k : Int) : RI (fX9_readsOrder M k) := (ro_spec h ht k).1
theorem TL_readsOrder {M : Mem} (h : RI M) (ht : TL M) (k : Int) : TL (fX9_readsOrder M k) := (ro_spec h ht k).2.1

def fX9_does (M : Mem) (k : Int) : Int × Mem := if ((M 6 k) = 102) then ((fX9_folds M (M 6 (k + (1))) (M 6 (k + (2)))).1, (fX9_folds M (M 6 (k + (1))) (M 6 (k + (2)))).2) else if ((M 6 k) = 108) then ((fX9_lays M (M 6 (k + (1))) (M 6 (k + (2)))).1, (fX9_lays M (M 6 (k + (1))) (M 6 (k + (2)))).2) else if ((M 6 k) = 109) then ((fX9_moves M (M 6 (k + (1))) (M 6 (k + (2))) (M 6 (k + (3)))).1, (fX9_moves M (M 6 (k + (1))) (M 6 (k + (2))) (M 6 (k + (3)))).2) else if ((M 6 k) = 110) then ((fX9_comes M (M 6 (k + (1)))).1, (fX9_comes M (M 6 (k + (1)))).2) else if ((M 6 k) = 111) then ((fX9_unfolds M (M 6 (k + (1)))).1, (fX9_unfolds M (M 6 (k + (1)))).2) else if ((M 6 k) = 114) then ((fX9_hosts M (M 6 (k + (1)))).1, (fX9_hosts M (M 6 (k + (1)))).2) else if ((M 6 k) = 116) then ((fX9_takes M (M 6 (k + (1)))).1, (fX9_takes M (M 6 (k + (1)))).2) else if ((M 6 k) = 119) then ((fX9_washes M (M 6 (k + (1)))).1, (fX9_washes M (M 6 (k + (1)))).2) else ((fX9_stains M (M 6 (k + (1))) (M 6 (k + (2)))).1, (fX9_stains M (M 6 (k + (1))) (M 6 (k + (2)))).2)
set_option maxRecDepth 100000 in
set_option maxHeartbeats 4000000 in
theorem kX9_does (l : Launch) (D : va_G) (E : Nat → Nat) (cI cC : ClassId) (Z : State → Prop) (hZo : ∀ M : Mem, ZOk (VG E cI cC M) Z) (hZb : ZBl Z) (M : Mem) (k : Int) (h1 : 0 ≤ k ∧ k ≤ 236) (hG : GI M) (hTL : TL M) (r : Int) (M' : Mem) (hE : fX9_does M k = (r, M')) : Ci l yX9_does wsX9_does 7 156 [.ref (E 0), .int (iI k)] D (TY cI cC) (VG E cI cC) Z M r M' := by
  refine Ci.of (cc := cX9_does) (maxL := 4) (ret := (some .int)) (by decide +kernel) rfl (Nat.le_of_ble_eq_true rfl) ?_
  intro p e s m args below meth c ls hx hb hml hr hown hts hlocks hP hK hD hZ hS hl
  have hl : lv_has ls 4 [(0, .ref (E 0)), (1, .int (iI k))] := hl
  have S0 : CallFix p m c cX9_does 4 s args wsX9_does RX9 := ⟨hx, hb, hml, hown, hts⟩
  have hinX9 : ∀ w ∈ u_ws RX9 TX9 20, w ∈ wsX9_does := by decide +kernel
  rw [fX9_does] at hE
  refine lv_aload_n hx hb dX9_does_0 rfl (lv_at hl 0 rfl) ?_
  refine va_get (own := RX9) (ref := "NapkinSyntaxModel") (C := RX9) (T := TX9) (N := 20) hx hb hts hinX9 hown hK hP 0 VG_0 rfl 19 (Nat.le_of_ble_eq_true rfl) (hts (.fieldLink RX9 33 "NapkinSyntaxModel" "told" "[I") (by decide +kernel)) (fun _ h => h) (v := .ref (E 7)) rfl dX9_does_1 ?_
  refine lv_iload_n hx hb dX9_does_4 rfl (lv_at hl 1 rfl) ?_
  refine z_iconst hx hb dX9_does_5 ?_
  refine z_iadd hx hb dX9_does_6 ?_
  refine z_iald hx hb hK hP 7 0 VG_7 rfl (by omega) (by omega) (by decide) dX9_does_7 ?_
  have q1 := hTL (k + (1)) (by omega) (by omega)
  refine lv_istore_n hx hb dX9_does_8 rfl hl (Nat.le_of_ble_eq_true rfl) (lv' := [(2, .int (iI (M 6 (k + (1))))), (0, .ref (E 0)), (1, .int (iI k))]) rfl (fun ls hl => ?_)
  refine lv_aload_n hx hb dX9_does_9 rfl (lv_at hl 1 rfl) ?_
  refine va_get (own := RX9) (ref := "NapkinSyntaxModel") (C := RX9) (T := TX9) (N := 20) hx hb hts hinX9 hown hK hP 0 VG_0 rfl 19 (Nat.le_of_ble_eq_true rfl) (hts (.fieldLink RX9 33 "NapkinSyntaxModel" "told" "[I") (by decide +kernel)) (fun _ h => h) (v := .ref (E 7)) rfl dX9_does_10 ?_
  refine lv_iload_n hx hb dX9_does_13 rfl (lv_at hl 2 rfl) ?_
  refine z_iconst hx hb dX9_does_14 ?_
  refine z_iadd hx hb dX9_does_15 ?_
  refine z_iald hx hb hK hP 7 0 VG_7 rfl (by omega) (by omega) (by decide) dX9_does_16 ?_
  have q2 := hTL (k + (2)) (by omega) (by omega)
  refine lv_istore_n hx hb dX9_does_17 rfl hl (Nat.le_of_ble_eq_true rfl) (lv' := [(3, .int (iI (M 6 (k + (2))))), (2, .int (iI (M 6 (k + (1))))), (0, .ref (E 0)), (1, .int (iI k))]) rfl (fun ls hl => ?_)
  refine lv_aload_n hx hb dX9_does_18 rfl (lv_at hl 2 rfl) ?_
  refine va_get (own := RX9) (ref := "NapkinSyntaxModel") (C := RX9) (T := TX9) (N := 20) hx hb hts hinX9 hown hK hP 0 VG_0 rfl 19 (Nat.le_of_ble_eq_true rfl) (hts (.fieldLink RX9 33 "NapkinSyntaxModel" "told" "[I") (by decide +kernel)) (fun _ h => h) (v := .ref (E 7)) rfl dX9_does_19 ?_
  refine lv_iload_n hx hb dX9_does_22 rfl (lv_at hl 3 rfl) ?_
  refine z_iald hx hb hK hP 7 0 VG_7 rfl (by omega) (by omega) (by decide) dX9_does_23 ?_
  have q3 := hTL k (by omega) (by omega)
  by_cases b4 : ((M 6 k) = 102)
  · rw [if_pos b4] at hE
    refine z_table hx hb dX9_does_24 (k0 := 102) (tgt := 118) (by omega) b4 (by decide) (by decide) rfl rfl ?_
    refine lv_aload_n hx hb dX9_does_118 rfl (lv_at hl 2 rfl) ?_
    refine lv_iload_n hx hb dX9_does_119 rfl (lv_at hl 1 rfl) ?_
    refine lv_iload_n hx hb dX9_does_120 rfl (lv_at hl 0 rfl) ?_
    refine ct_Vi (VG_fix E cI cC) hZo hZb hZ S0 (kX9_folds l D E cI cC Z hZo hZb M (M 6 (k + (1))) (M 6 (k + (2))) (by omega) (by omega) hG (fX9_folds M (M 6 (k + (1))) (M 6 (k + (2)))).1 (fX9_folds M (M 6 (k + (1))) (M 6 (k + (2)))).2 (Prod.ext rfl rfl)) (cwV 2 hts gX9_does_X9_folds rfl rfl rfl (by decide +kernel) ⟨(Nat.le_of_ble_eq_true rfl), (Nat.le_of_ble_eq_true rfl)⟩) hK hP hD hS rfl rfl VG_0 rfl hl.1 rfl (Nat.le_of_ble_eq_true rfl) dX9_does_121 ⟨Nat.zero_le _, Nat.zero_le _⟩ (fun H locs hP hD hS => ?_)
    obtain ⟨e1, e2⟩ := Prod.mk.inj hE
    subst e2
    exact ci_i hx hb hr hlocks e1 rfl hS hP dX9_does_124
  · rw [if_neg b4] at hE
    by_cases b5 : ((M 6 k) = 108)
    · rw [if_pos b5] at hE
      refine z_table hx hb dX9_does_24 (k0 := 108) (tgt := 149) (by omega) b5 (by decide) (by decide) rfl rfl ?_
      refine lv_aload_n hx hb dX9_does_149 rfl (lv_at hl 2 rfl) ?_
      refine lv_iload_n hx hb dX9_does_150 rfl (lv_at hl 1 rfl) ?_
      refine lv_iload_n hx hb dX9_does_151 rfl (lv_at hl 0 rfl) ?_
      refine ct_Vi (VG_fix E cI cC) hZo hZb hZ S0 (kX9_lays l D E cI cC Z hZo hZb M (M 6 (k + (1))) (M 6 (k + (2))) (by omega) (by omega) hG (fX9_lays M (M 6 (k + (1))) (M 6 (k + (2)))).1 (fX9_lays M (M 6 (k + (1))) (M 6 (k + (2)))).2 (Prod.ext rfl rfl)) (cwV 2 hts gX9_does_X9_lays rfl rfl rfl (by decide +kernel) ⟨(Nat.le_of_ble_eq_true rfl), (Nat.le_of_ble_eq_true rfl)⟩) hK hP hD hS rfl rfl VG_0 rfl hl.1 rfl (Nat.le_of_ble_eq_true rfl) dX9_does_152 ⟨Nat.zero_le _, Nat.zero_le _⟩ (fun H locs hP hD hS => ?_)
      obtain ⟨e1, e2⟩ := Prod.mk.inj hE
      subst e2
      exact ci_i hx hb hr hlocks e1 rfl hS hP dX9_does_155
    · rw [if_neg b5] at hE
      by_cases b6 : ((M 6 k) = 109)
      · rw [if_pos b6] at hE
        refine z_table hx hb dX9_does_24 (k0 := 109) (tgt := 156) (by omega) b6 (by decide) (by decide) rfl rfl ?_
        refine lv_aload_n hx hb dX9_does_156 rfl (lv_at hl 2 rfl) ?_
        refine lv_iload_n hx hb dX9_does_157 rfl (lv_at hl 1 rfl) ?_
        refine lv_iload_n hx hb dX9_does_158 rfl (lv_at hl 0 rfl) ?_
        refine lv_aload_n hx hb dX9_does_159 rfl (lv_at hl 2 rfl) ?_
        refine va_get (own := RX9) (ref := "NapkinSyntaxModel") (C := RX9) (T := TX9) (N := 20) hx hb hts hinX9 hown hK hP 0 VG_0 rfl 19 (Nat.le_of_ble_eq_true rfl) (hts (.fieldLink RX9 33 "NapkinSyntaxModel" "told" "[I") (by decide +kernel)) (fun _ h => h) (v := .ref (E 7)) rfl dX9_does_160 ?_
        refine lv_iload_n hx hb dX9_does_163 rfl (lv_at hl 3 rfl) ?_
        refine z_iconst hx hb dX9_does_164 ?_
        refine z_iadd hx hb dX9_does_165 ?_
        refine z_iald hx hb hK hP 7 0 VG_7 rfl (by omega) (by omega) (by decide) dX9_does_166 ?_
        have q7 := hTL (k + (3)) (by omega) (by omega)
        refine ct_Vi (VG_fix E cI cC) hZo hZb hZ S0 (kX9_moves l D E cI cC Z hZo hZb M (M 6 (k + (1))) (M 6 (k + (2))) (M 6 (k + (3))) (by omega) (by omega) (by omega) hG (fX9_moves M (M 6 (k + (1))) (M 6 (k + (2))) (M 6 (k + (3)))).1 (fX9_moves M (M 6 (k + (1))) (M 6 (k + (2))) (M 6 (k + (3)))).2 (Prod.ext rfl rfl)) (cwV 3 hts gX9_does_X9_moves rfl rfl rfl (by decide +kernel) ⟨(Nat.le_of_ble_eq_true rfl), (Nat.le_of_ble_eq_true rfl)⟩) hK hP hD hS rfl rfl VG_0 rfl hl.1 rfl (Nat.le_of_ble_eq_true rfl) dX9_does_167 ⟨Nat.zero_le _, Nat.zero_le _⟩ (fun H locs hP hD hS => ?_)
        obtain ⟨e1, e2⟩ := Prod.mk.inj hE
        subst e2
        exact ci_i hx hb hr hlocks e1 rfl hS hP dX9_does_170
      · rw [if_neg b6] at hE
        by_cases b8 : ((M 6 k) = 110)
        · rw [if_pos b8] at hE
          refine z_table hx hb dX9_does_24 (k0 := 110) (tgt := 112) (by omega) b8 (by decide) (by decide) rfl rfl ?_
          refine lv_aload_n hx hb dX9_does_112 rfl (lv_at hl 2 rfl) ?_
          refine lv_iload_n hx hb dX9_does_113 rfl (lv_at hl 1 rfl) ?_
          refine ct_Vi (VG_fix E cI cC) hZo hZb hZ S0 (kX9_comes l D E cI cC Z hZo hZb M (M 6 (k + (1))) (by omega) hG (fX9_comes M (M 6 (k + (1)))).1 (fX9_comes M (M 6 (k + (1)))).2 (Prod.ext rfl rfl)) (cwV 1 hts gX9_does_X9_comes rfl rfl rfl (by decide +kernel) ⟨(Nat.le_of_ble_eq_true rfl), (Nat.le_of_ble_eq_true rfl)⟩) hK hP hD hS rfl rfl VG_0 rfl hl.1 rfl (Nat.le_of_ble_eq_true rfl) dX9_does_114 ⟨Nat.zero_le _, Nat.zero_le _⟩ (fun H locs hP hD hS => ?_)
          obtain ⟨e1, e2⟩ := Prod.mk.inj hE
          subst e2
          exact ci_i hx hb hr hlocks e1 rfl hS hP dX9_does_117
        · rw [if_neg b8] at hE
          by_cases b9 : ((M 6 k) = 111)
          · rw [if_pos b9] at hE
            refine z_table hx hb dX9_does_24 (k0 := 111) (tgt := 125) (by omega) b9 (by decide) (by decide) rfl rfl ?_
            refine lv_aload_n hx hb dX9_does_125 rfl (lv_at hl 2 rfl) ?_
            refine lv_iload_n hx hb dX9_does_126 rfl (lv_at hl 1 rfl) ?_
            refine ct_Vi (VG_fix E cI cC) hZo hZb hZ S0 (kX9_unfolds l D E cI cC Z hZo hZb M (M 6 (k + (1))) (by omega) hG (fX9_unfolds M (M 6 (k + (1)))).1 (fX9_unfolds M (M 6 (k + (1)))).2 (Prod.ext rfl rfl)) (cwV 1 hts gX9_does_X9_unfolds rfl rfl rfl (by decide +kernel) ⟨(Nat.le_of_ble_eq_true rfl), (Nat.le_of_ble_eq_true rfl)⟩) hK hP hD hS rfl rfl VG_0 rfl hl.1 rfl (Nat.le_of_ble_eq_true rfl) dX9_does_127 ⟨Nat.zero_le _, Nat.zero_le _⟩ (fun H locs hP hD hS => ?_)
            obtain ⟨e1, e2⟩ := Prod.mk.inj hE
            subst e2
            exact ci_i hx hb hr hlocks e1 rfl hS hP dX9_does_130
          · rw [if_neg b9] at hE
            by_cases b10 : ((M 6 k) = 114)
            · rw [if_pos b10] at hE
              refine z_table hx hb dX9_does_24 (k0 := 114) (tgt := 143) (by omega) b10 (by decide) (by decide) rfl rfl ?_
              refine lv_aload_n hx hb dX9_does_143 rfl (lv_at hl 2 rfl) ?_
              refine lv_iload_n hx hb dX9_does_144 rfl (lv_at hl 1 rfl) ?_
              refine ct_Vi (VG_fix E cI cC) hZo hZb hZ S0 (kX9_hosts l D E cI cC Z hZo hZb M (M 6 (k + (1))) (by omega) hG (fX9_hosts M (M 6 (k + (1)))).1 (fX9_hosts M (M 6 (k + (1)))).2 (Prod.ext rfl rfl)) (cwV 1 hts gX9_does_X9_hosts rfl rfl rfl (by decide +kernel) ⟨(Nat.le_of_ble_eq_true rfl), (Nat.le_of_ble_eq_true rfl)⟩) hK hP hD hS rfl rfl VG_0 rfl hl.1 rfl (Nat.le_of_ble_eq_true rfl) dX9_does_145 ⟨Nat.zero_le _, Nat.zero_le _⟩ (fun H locs hP hD hS => ?_)
              obtain ⟨e1, e2⟩ := Prod.mk.inj hE
              subst e2
              exact ci_i hx hb hr hlocks e1 rfl hS hP dX9_does_148
            · rw [if_neg b10] at hE
              by_cases b11 : ((M 6 k) = 116)
              · rw [if_pos b11] at hE
                refine z_table hx hb dX9_does_24 (k0 := 116) (tgt := 131) (by omega) b11 (by decide) (by decide) rfl rfl ?_
                refine lv_aload_n hx hb dX9_does_131 rfl (lv_at hl 2 rfl) ?_
                refine lv_iload_n hx hb dX9_does_132 rfl (lv_at hl 1 rfl) ?_
                refine ct_Vi (VG_fix E cI cC) hZo hZb hZ S0 (kX9_takes l D E cI cC Z hZo hZb M (M 6 (k + (1))) (by omega) hG (fX9_takes M (M 6 (k + (1)))).1 (fX9_takes M (M 6 (k + (1)))).2 (Prod.ext rfl rfl)) (cwV 1 hts gX9_does_X9_takes rfl rfl rfl (by decide +kernel) ⟨(Nat.le_of_ble_eq_true rfl), (Nat.le_of_ble_eq_true rfl)⟩) hK hP hD hS rfl rfl VG_0 rfl hl.1 rfl (Nat.le_of_ble_eq_true rfl) dX9_does_133 ⟨Nat.zero_le _, Nat.zero_le _⟩ (fun H locs hP hD hS => ?_)
                obtain ⟨e1, e2⟩ := Prod.mk.inj hE
                subst e2
                exact ci_i hx hb hr hlocks e1 rfl hS hP dX9_does_136
              · rw [if_neg b11] at hE
                by_cases b12 : ((M 6 k) = 119)
                · rw [if_pos b12] at hE
                  refine z_table hx hb dX9_does_24 (k0 := 119) (tgt := 137) (by omega) b12 (by decide) (by decide) rfl rfl ?_
                  refine lv_aload_n hx hb dX9_does_137 rfl (lv_at hl 2 rfl) ?_
                  refine lv_iload_n hx hb dX9_does_138 rfl (lv_at hl 1 rfl) ?_
                  refine ct_Vi (VG_fix E cI cC) hZo hZb hZ S0 (kX9_washes l D E cI cC Z hZo hZb M (M 6 (k + (1))) (by omega) hG (fX9_washes M (M 6 (k + (1)))).1 (fX9_washes M (M 6 (k + (1)))).2 (Prod.ext rfl rfl)) (cwV 1 hts gX9_does_X9_washes rfl rfl rfl (by decide +kernel) ⟨(Nat.le_of_ble_eq_true rfl), (Nat.le_of_ble_eq_true rfl)⟩) hK hP hD hS rfl rfl VG_0 rfl hl.1 rfl (Nat.le_of_ble_eq_true rfl) dX9_does_139 ⟨Nat.zero_le _, Nat.zero_le _⟩ (fun H locs hP hD hS => ?_)
                  obtain ⟨e1, e2⟩ := Prod.mk.inj hE
                  subst e2
                  exact ci_i hx hb hr hlocks e1 rfl hS hP dX9_does_142
                · rw [if_neg b12] at hE
                  refine z_tableX hx hb dX9_does_24 (tgt := 171) (by omega) (z_hole (L := [102, 108, 109, 110, 111, 114, 116, 119]) (by decide) (by intro x hx; simp only [List.mem_cons, List.not_mem_nil, or_false] at hx; omega)) rfl ?_
                  refine lv_aload_n hx hb dX9_does_171 rfl (lv_at hl 2 rfl) ?_
                  refine lv_iload_n hx hb dX9_does_172 rfl (lv_at hl 1 rfl) ?_
                  refine lv_iload_n hx hb dX9_does_173 rfl (lv_at hl 0 rfl) ?_
                  refine ct_Vi (VG_fix E cI cC) hZo hZb hZ S0 (kX9_stains l D E cI cC Z hZo hZb M (M 6 (k + (1))) (M 6 (k + (2))) (by omega) (by omega) hG (fX9_stains M (M 6 (k + (1))) (M 6 (k + (2)))).1 (fX9_stains M (M 6 (k + (1))) (M 6 (k + (2)))).2 (Prod.ext rfl rfl)) (cwV 2 hts gX9_does_X9_stains rfl rfl rfl (by decide +kernel) ⟨(Nat.le_of_ble_eq_true rfl), (Nat.le_of_ble_eq_true rfl)⟩) hK hP hD hS rfl rfl VG_0 rfl hl.1 rfl (Nat.le_of_ble_eq_true rfl) dX9_does_174 ⟨Nat.zero_le _, Nat.zero_le _⟩ (fun H locs hP hD hS => ?_)
                  obtain ⟨e1, e2⟩ := Prod.mk.inj hE
                  subst e2
                  exact ci_i hx hb hr hlocks e1 rfl hS hP dX9_does_177

theorem fr_fX9_does {M : Mem} (k : Int) {r : Nat} (h0 : Nat.beq r 0 = false) (h19 : Nat.beq r 19 = false) (h20 : Nat.beq r 20 = false) (h21 : Nat.beq r 21 = false) (h22 : Nat.beq r 22 = false) (h23 : Nat.beq r 23 = false) (h26 : Nat.beq r 26 = false) : (fX9_does M k).2 r = M r := by
  unfold fX9_does
  (repeat' with_reducible refine frite_w (fun _ => ?_) (fun _ => ?_)) <;> first | with_reducible rfl | simp only [mst_o, msf_o, mcp_o, fr_fX9_comes, fr_fX9_folds, fr_fX9_hosts, fr_fX9_lays, fr_fX9_moves, fr_fX9_stains, fr_fX9_takes, fr_fX9_unfolds, fr_fX9_washes, h0, h19, h20, h21, h22, h23, h26]

def fX9_refusesText (M : Mem) (order : Int) : Int × Mem := if ((M 23 0) = 0) then if ((M 23 0) = 0) then ((fX9_refused M (9) order (2)).1, (msf (msf (fX9_refused M (9) order (2)).2 21 (0)) 22 (0))) else ((fX9_refused M (9) order (2)).1, (msf (msf (fX9_refused M (9) order (2)).2 21 (0)) 22 (M 20 0))) else if ((M 23 0) = 0) then ((fX9_refused M (9) order (2)).1, (msf (msf (fX9_refused M (9) order (2)).2 21 (M 19 0)) 22 (0))) else ((fX9_refused M (9) order (2)).1, (msf (msf (fX9_refused M (9) order (2)).2 21 (M 19 0)) 22 (M 20 0)))
set_option maxRecDepth 100000 in
set_option maxHeartbeats 4000000 in
theorem kX9_refusesText (l : Launch) (D : va_G) (E : Nat → Nat) (cI cC : ClassId) (Z : State → Prop) (hZo : ∀ M : Mem, ZOk (VG E cI cC M) Z) (hZb : ZBl Z) (M : Mem) (order : Int) (h1 : 0 ≤ M 23 0 ∧ M 23 0 ≤ 1) (r : Int) (M' : Mem) (hE : fX9_refusesText M order = (r, M')) : Ci l yX9_refusesText wsX9_refusesText 1 23 [.ref (E 0), .int (iI order)] D (TY cI cC) (VG E cI cC) Z M r M' := by
  refine Ci.of (cc := cX9_refusesText) (maxL := 5) (ret := (some .int)) (by decide +kernel) rfl (Nat.le_of_ble_eq_true rfl) ?_
  intro p e s m args below meth c ls hx hb hml hr hown hts hlocks hP hK hD hZ hS hl
  have hl : lv_has ls 5 [(0, .ref (E 0)), (1, .int (iI order))] := hl
  have S0 : CallFix p m c cX9_refusesText 5 s args wsX9_refusesText RX9 := ⟨hx, hb, hml, hown, hts⟩
  have hinX9 : ∀ w ∈ u_ws RX9 TX9 20, w ∈ wsX9_refusesText := by decide +kernel
  rw [fX9_refusesText] at hE
  refine lv_aload_n hx hb dX9_refusesText_0 rfl (lv_at hl 0 rfl) ?_
  refine va_get (own := RX9) (ref := "NapkinSyntaxModel") (C := RX9) (T := TX9) (N := 20) hx hb hts hinX9 hown hK hP 0 VG_0 rfl 13 (Nat.le_of_ble_eq_true rfl) (hts (.fieldLink RX9 39 "NapkinSyntaxModel" "isRefused" "Z") (by decide +kernel)) (fun _ h => h) (v := .int (iI (M 23 0))) rfl dX9_refusesText_1 ?_
  refine z_if_eq hx hb dX9_refusesText_4 (tgt := 14) rfl (by omega) (fun b1 => ?_) (fun b1 => ?_)
  · rw [if_pos b1] at hE
    refine z_iconst hx hb dX9_refusesText_14 ?_
    refine lv_istore_n hx hb dX9_refusesText_15 rfl hl (Nat.le_of_ble_eq_true rfl) (lv' := [(2, .int (iI (0))), (0, .ref (E 0)), (1, .int (iI order))]) rfl (fun ls hl => ?_)
    refine lv_aload_n hx hb dX9_refusesText_16 rfl (lv_at hl 1 rfl) ?_
    refine va_get (own := RX9) (ref := "NapkinSyntaxModel") (C := RX9) (T := TX9) (N := 20) hx hb hts hinX9 hown hK hP 0 VG_0 rfl 13 (Nat.le_of_ble_eq_true rfl) (hts (.fieldLink RX9 39 "NapkinSyntaxModel" "isRefused" "Z") (by decide +kernel)) (fun _ h => h) (v := .int (iI (M 23 0))) rfl dX9_refusesText_17 ?_
    refine z_if_eq hx hb dX9_refusesText_20 (tgt := 30) rfl (by omega) (fun b2 => ?_) (fun b2 => ?_)
    · rw [if_pos b2] at hE
      refine z_iconst hx hb dX9_refusesText_30 ?_
      refine lv_istore_n hx hb dX9_refusesText_31 rfl hl (Nat.le_of_ble_eq_true rfl) (lv' := [(3, .int (iI (0))), (2, .int (iI (0))), (0, .ref (E 0)), (1, .int (iI order))]) rfl (fun ls hl => ?_)
      refine lv_aload_n hx hb dX9_refusesText_32 rfl (lv_at hl 2 rfl) ?_
      refine z_bipush hx hb dX9_refusesText_33 (by decide +kernel) ?_
      refine lv_iload_n hx hb dX9_refusesText_35 rfl (lv_at hl 3 rfl) ?_
      refine z_iconst hx hb dX9_refusesText_36 ?_
      refine ct_Vi (VG_fix E cI cC) hZo hZb hZ S0 (kX9_refused l D E cI cC Z hZo hZb M (9) order (2)  (fX9_refused M (9) order (2)).1 (fX9_refused M (9) order (2)).2 (Prod.ext rfl rfl)) (cwV 3 hts gX9_refusesText_X9_refused rfl rfl rfl (by decide +kernel) ⟨(Nat.le_of_ble_eq_true rfl), (Nat.le_of_ble_eq_true rfl)⟩) hK hP hD hS rfl rfl VG_0 rfl hl.1 rfl (Nat.le_of_ble_eq_true rfl) dX9_refusesText_37 ⟨Nat.zero_le _, Nat.zero_le _⟩ (fun H locs hP hD hS => ?_)
      refine lv_istore hx hb dX9_refusesText_40 hl (Nat.le_of_ble_eq_true rfl) (lv' := [(4, .int (iI (fX9_refused M (9) order (2)).1)), (3, .int (iI (0))), (2, .int (iI (0))), (0, .ref (E 0)), (1, .int (iI order))]) rfl (fun ls hl => ?_)
      refine lv_aload_n hx hb dX9_refusesText_42 rfl (lv_at hl 3 rfl) ?_
      refine lv_iload_n hx hb dX9_refusesText_43 rfl (lv_at hl 2 rfl) ?_
      refine va_put (own := RX9) (ref := "NapkinSyntaxModel") (C := RX9) (T := TX9) (N := 20) hx hb hts hinX9 tyX9 tyX9_ok nmX9 hown hK hP hD hS 0 VG_0 rfl 11 (Nat.le_of_ble_eq_true rfl) (hts (.fieldLink RX9 49 "NapkinSyntaxModel" "behind" "I") (by decide +kernel)) (fun _ h => h) rfl (ty := .int) (v := .int (iI (0))) (by decide +kernel) rfl rfl (Nat.le_of_ble_eq_true rfl) dX9_refusesText_44 (fun H locs hP hD hS => ?_)
      rw [VGf_21] at hP hD
      refine lv_aload_n hx hb dX9_refusesText_47 rfl (lv_at hl 3 rfl) ?_
      refine lv_iload_n hx hb dX9_refusesText_48 rfl (lv_at hl 1 rfl) ?_
      refine va_put (own := RX9) (ref := "NapkinSyntaxModel") (C := RX9) (T := TX9) (N := 20) hx hb hts hinX9 tyX9 tyX9_ok nmX9 hown hK hP hD hS 0 VG_0 rfl 12 (Nat.le_of_ble_eq_true rfl) (hts (.fieldLink RX9 52 "NapkinSyntaxModel" "behindDetail" "I") (by decide +kernel)) (fun _ h => h) rfl (ty := .int) (v := .int (iI (0))) (by decide +kernel) rfl rfl (Nat.le_of_ble_eq_true rfl) dX9_refusesText_49 (fun H locs hP hD hS => ?_)
      rw [VGf_22] at hP hD
      refine lv_iload hx hb dX9_refusesText_52 (lv_at hl 0 rfl) ?_
      obtain ⟨e1, e2⟩ := Prod.mk.inj hE
      subst e2
      exact ci_i hx hb hr hlocks e1 rfl hS hP dX9_refusesText_54
    · rw [if_neg b2] at hE
      refine lv_aload_n hx hb dX9_refusesText_23 rfl (lv_at hl 1 rfl) ?_
      refine va_get (own := RX9) (ref := "NapkinSyntaxModel") (C := RX9) (T := TX9) (N := 20) hx hb hts hinX9 hown hK hP 0 VG_0 rfl 10 (Nat.le_of_ble_eq_true rfl) (hts (.fieldLink RX9 46 "NapkinSyntaxModel" "whyDetail" "I") (by decide +kernel)) (fun _ h => h) (v := .int (iI (M 20 0))) rfl dX9_refusesText_24 ?_
      refine lv_goto hx hb dX9_refusesText_27 (tgt := 31) rfl ?_
      refine lv_istore_n hx hb dX9_refusesText_31 rfl hl (Nat.le_of_ble_eq_true rfl) (lv' := [(3, .int (iI (M 20 0))), (2, .int (iI (0))), (0, .ref (E 0)), (1, .int (iI order))]) rfl (fun ls hl => ?_)
      refine lv_aload_n hx hb dX9_refusesText_32 rfl (lv_at hl 2 rfl) ?_
      refine z_bipush hx hb dX9_refusesText_33 (by decide +kernel) ?_
      refine lv_iload_n hx hb dX9_refusesText_35 rfl (lv_at hl 3 rfl) ?_
      refine z_iconst hx hb dX9_refusesText_36 ?_
      refine ct_Vi (VG_fix E cI cC) hZo hZb hZ S0 (kX9_refused l D E cI cC Z hZo hZb M (9) order (2)  (fX9_refused M (9) order (2)).1 (fX9_refused M (9) order (2)).2 (Prod.ext rfl rfl)) (cwV 3 hts gX9_refusesText_X9_refused rfl rfl rfl (by decide +kernel) ⟨(Nat.le_of_ble_eq_true rfl), (Nat.le_of_ble_eq_true rfl)⟩) hK hP hD hS rfl rfl VG_0 rfl hl.1 rfl (Nat.le_of_ble_eq_true rfl) dX9_refusesText_37 ⟨Nat.zero_le _, Nat.zero_le _⟩ (fun H locs hP hD hS => ?_)
      refine lv_istore hx hb dX9_refusesText_40 hl (Nat.le_of_ble_eq_true rfl) (lv' := [(4, .int (iI (fX9_refused M (9) order (2)).1)), (3, .int (iI (M 20 0))), (2, .int (iI (0))), (0, .ref (E 0)), (1, .int (iI order))]) rfl (fun ls hl => ?_)
      refine lv_aload_n hx hb dX9_refusesText_42 rfl (lv_at hl 3 rfl) ?_
      refine lv_iload_n hx hb dX9_refusesText_43 rfl (lv_at hl 2 rfl) ?_
      refine va_put (own := RX9) (ref := "NapkinSyntaxModel") (C := RX9) (T := TX9) (N := 20) hx hb hts hinX9 tyX9 tyX9_ok nmX9 hown hK hP hD hS 0 VG_0 rfl 11 (Nat.le_of_ble_eq_true rfl) (hts (.fieldLink RX9 49 "NapkinSyntaxModel" "behind" "I") (by decide +kernel)) (fun _ h => h) rfl (ty := .int) (v := .int (iI (0))) (by decide +kernel) rfl rfl (Nat.le_of_ble_eq_true rfl) dX9_refusesText_44 (fun H locs hP hD hS => ?_)
      rw [VGf_21] at hP hD
      refine lv_aload_n hx hb dX9_refusesText_47 rfl (lv_at hl 3 rfl) ?_
      refine lv_iload_n hx hb dX9_refusesText_48 rfl (lv_at hl 1 rfl) ?_
      refine va_put (own := RX9) (ref := "NapkinSyntaxModel") (C := RX9) (T := TX9) (N := 20) hx hb hts hinX9 tyX9 tyX9_ok nmX9 hown hK hP hD hS 0 VG_0 rfl 12 (Nat.le_of_ble_eq_true rfl) (hts (.fieldLink RX9 52 "NapkinSyntaxModel" "behindDetail" "I") (by decide +kernel)) (fun _ h => h) rfl (ty := .int) (v := .int (iI (M 20 0))) (by decide +kernel) rfl rfl (Nat.le_of_ble_eq_true rfl) dX9_refusesText_49 (fun H locs hP hD hS => ?_)
      rw [VGf_22] at hP hD
      refine lv_iload hx hb dX9_refusesText_52 (lv_at hl 0 rfl) ?_
      obtain ⟨e1, e2⟩ := Prod.mk.inj hE
      subst e2
      exact ci_i hx hb hr hlocks e1 rfl hS hP dX9_refusesText_54
  · rw [if_neg b1] at hE
    refine lv_aload_n hx hb dX9_refusesText_7 rfl (lv_at hl 0 rfl) ?_
    refine va_get (own := RX9) (ref := "NapkinSyntaxModel") (C := RX9) (T := TX9) (N := 20) hx hb hts hinX9 hown hK hP 0 VG_0 rfl 9 (Nat.le_of_ble_eq_true rfl) (hts (.fieldLink RX9 43 "NapkinSyntaxModel" "why" "I") (by decide +kernel)) (fun _ h => h) (v := .int (iI (M 19 0))) rfl dX9_refusesText_8 ?_
    refine lv_goto hx hb dX9_refusesText_11 (tgt := 15) rfl ?_
    refine lv_istore_n hx hb dX9_refusesText_15 rfl hl (Nat.le_of_ble_eq_true rfl) (lv' := [(2, .int (iI (M 19 0))), (0, .ref (E 0)), (1, .int (iI order))]) rfl (fun ls hl => ?_)
    refine lv_aload_n hx hb dX9_refusesText_16 rfl (lv_at hl 1 rfl) ?_
    refine va_get (own := RX9) (ref := "NapkinSyntaxModel") (C := RX9) (T := TX9) (N := 20) hx hb hts hinX9 hown hK hP 0 VG_0 rfl 13 (Nat.le_of_ble_eq_true rfl) (hts (.fieldLink RX9 39 "NapkinSyntaxModel" "isRefused" "Z") (by decide +kernel)) (fun _ h => h) (v := .int (iI (M 23 0))) rfl dX9_refusesText_17 ?_
    refine z_if_eq hx hb dX9_refusesText_20 (tgt := 30) rfl (by omega) (fun b3 => ?_) (fun b3 => ?_)
    · rw [if_pos b3] at hE
      refine z_iconst hx hb dX9_refusesText_30 ?_
      refine lv_istore_n hx hb dX9_refusesText_31 rfl hl (Nat.le_of_ble_eq_true rfl) (lv' := [(3, .int (iI (0))), (2, .int (iI (M 19 0))), (0, .ref (E 0)), (1, .int (iI order))]) rfl (fun ls hl => ?_)
      refine lv_aload_n hx hb dX9_refusesText_32 rfl (lv_at hl 2 rfl) ?_
      refine z_bipush hx hb dX9_refusesText_33 (by decide +kernel) ?_
      refine lv_iload_n hx hb dX9_refusesText_35 rfl (lv_at hl 3 rfl) ?_
      refine z_iconst hx hb dX9_refusesText_36 ?_
      refine ct_Vi (VG_fix E cI cC) hZo hZb hZ S0 (kX9_refused l D E cI cC Z hZo hZb M (9) order (2)  (fX9_refused M (9) order (2)).1 (fX9_refused M (9) order (2)).2 (Prod.ext rfl rfl)) (cwV 3 hts gX9_refusesText_X9_refused rfl rfl rfl (by decide +kernel) ⟨(Nat.le_of_ble_eq_true rfl), (Nat.le_of_ble_eq_true rfl)⟩) hK hP hD hS rfl rfl VG_0 rfl hl.1 rfl (Nat.le_of_ble_eq_true rfl) dX9_refusesText_37 ⟨Nat.zero_le _, Nat.zero_le _⟩ (fun H locs hP hD hS => ?_)
      refine lv_istore hx hb dX9_refusesText_40 hl (Nat.le_of_ble_eq_true rfl) (lv' := [(4, .int (iI (fX9_refused M (9) order (2)).1)), (3, .int (iI (0))), (2, .int (iI (M 19 0))), (0, .ref (E 0)), (1, .int (iI order))]) rfl (fun ls hl => ?_)
      refine lv_aload_n hx hb dX9_refusesText_42 rfl (lv_at hl 3 rfl) ?_
      refine lv_iload_n hx hb dX9_refusesText_43 rfl (lv_at hl 2 rfl) ?_
      refine va_put (own := RX9) (ref := "NapkinSyntaxModel") (C := RX9) (T := TX9) (N := 20) hx hb hts hinX9 tyX9 tyX9_ok nmX9 hown hK hP hD hS 0 VG_0 rfl 11 (Nat.le_of_ble_eq_true rfl) (hts (.fieldLink RX9 49 "NapkinSyntaxModel" "behind" "I") (by decide +kernel)) (fun _ h => h) rfl (ty := .int) (v := .int (iI (M 19 0))) (by decide +kernel) rfl rfl (Nat.le_of_ble_eq_true rfl) dX9_refusesText_44 (fun H locs hP hD hS => ?_)
      rw [VGf_21] at hP hD
      refine lv_aload_n hx hb dX9_refusesText_47 rfl (lv_at hl 3 rfl) ?_
      refine lv_iload_n hx hb dX9_refusesText_48 rfl (lv_at hl 1 rfl) ?_
      refine va_put (own := RX9) (ref := "NapkinSyntaxModel") (C := RX9) (T := TX9) (N := 20) hx hb hts hinX9 tyX9 tyX9_ok nmX9 hown hK hP hD hS 0 VG_0 rfl 12 (Nat.le_of_ble_eq_true rfl) (hts (.fieldLink RX9 52 "NapkinSyntaxModel" "behindDetail" "I") (by decide +kernel)) (fun _ h => h) rfl (ty := .int) (v := .int (iI (0))) (by decide +kernel) rfl rfl (Nat.le_of_ble_eq_true rfl) dX9_refusesText_49 (fun H locs hP hD hS => ?_)
      rw [VGf_22] at hP hD
      refine lv_iload hx hb dX9_refusesText_52 (lv_at hl 0 rfl) ?_
      obtain ⟨e1, e2⟩ := Prod.mk.inj hE
      subst e2
      exact ci_i hx hb hr hlocks e1 rfl hS hP dX9_refusesText_54
    · rw [if_neg b3] at hE
      refine lv_aload_n hx hb dX9_refusesText_23 rfl (lv_at hl 1 rfl) ?_
      refine va_get (own := RX9) (ref := "NapkinSyntaxModel") (C := RX9) (T := TX9) (N := 20) hx hb hts hinX9 hown hK hP 0 VG_0 rfl 10 (Nat.le_of_ble_eq_true rfl) (hts (.fieldLink RX9 46 "NapkinSyntaxModel" "whyDetail" "I") (by decide +kernel)) (fun _ h => h) (v := .int (iI (M 20 0))) rfl dX9_refusesText_24 ?_
      refine lv_goto hx hb dX9_refusesText_27 (tgt := 31) rfl ?_
      refine lv_istore_n hx hb dX9_refusesText_31 rfl hl (Nat.le_of_ble_eq_true rfl) (lv' := [(3, .int (iI (M 20 0))), (2, .int (iI (M 19 0))), (0, .ref (E 0)), (1, .int (iI order))]) rfl (fun ls hl => ?_)
      refine lv_aload_n hx hb dX9_refusesText_32 rfl (lv_at hl 2 rfl) ?_
      refine z_bipush hx hb dX9_refusesText_33 (by decide +kernel) ?_
      refine lv_iload_n hx hb dX9_refusesText_35 rfl (lv_at hl 3 rfl) ?_
      refine z_iconst hx hb dX9_refusesText_36 ?_
      refine ct_Vi (VG_fix E cI cC) hZo hZb hZ S0 (kX9_refused l D E cI cC Z hZo hZb M (9) order (2)  (fX9_refused M (9) order (2)).1 (fX9_refused M (9) order (2)).2 (Prod.ext rfl rfl)) (cwV 3 hts gX9_refusesText_X9_refused rfl rfl rfl (by decide +kernel) ⟨(Nat.le_of_ble_eq_true rfl), (Nat.le_of_ble_eq_true rfl)⟩) hK hP hD hS rfl rfl VG_0 rfl hl.1 rfl (Nat.le_of_ble_eq_true rfl) dX9_refusesText_37 ⟨Nat.zero_le _, Nat.zero_le _⟩ (fun H locs hP hD hS => ?_)
      refine lv_istore hx hb dX9_refusesText_40 hl (Nat.le_of_ble_eq_true rfl) (lv' := [(4, .int (iI (fX9_refused M (9) order (2)).1)), (3, .int (iI (M 20 0))), (2, .int (iI (M 19 0))), (0, .ref (E 0)), (1, .int (iI order))]) rfl (fun ls hl => ?_)
      refine lv_aload_n hx hb dX9_refusesText_42 rfl (lv_at hl 3 rfl) ?_
      refine lv_iload_n hx hb dX9_refusesText_43 rfl (lv_at hl 2 rfl) ?_
      refine va_put (own := RX9) (ref := "NapkinSyntaxModel") (C := RX9) (T := TX9) (N := 20) hx hb hts hinX9 tyX9 tyX9_ok nmX9 hown hK hP hD hS 0 VG_0 rfl 11 (Nat.le_of_ble_eq_true rfl) (hts (.fieldLink RX9 49 "NapkinSyntaxModel" "behind" "I") (by decide +kernel)) (fun _ h => h) rfl (ty := .int) (v := .int (iI (M 19 0))) (by decide +kernel) rfl rfl (Nat.le_of_ble_eq_true rfl) dX9_refusesText_44 (fun H locs hP hD hS => ?_)
      rw [VGf_21] at hP hD
      refine lv_aload_n hx hb dX9_refusesText_47 rfl (lv_at hl 3 rfl) ?_
      refine lv_iload_n hx hb dX9_refusesText_48 rfl (lv_at hl 1 rfl) ?_
      refine va_put (own := RX9) (ref := "NapkinSyntaxModel") (C := RX9) (T := TX9) (N := 20) hx hb hts hinX9 tyX9 tyX9_ok nmX9 hown hK hP hD hS 0 VG_0 rfl 12 (Nat.le_of_ble_eq_true rfl) (hts (.fieldLink RX9 52 "NapkinSyntaxModel" "behindDetail" "I") (by decide +kernel)) (fun _ h => h) rfl (ty := .int) (v := .int (iI (M 20 0))) (by decide +kernel) rfl rfl (Nat.le_of_ble_eq_true rfl) dX9_refusesText_49 (fun H locs hP hD hS => ?_)
      rw [VGf_22] at hP hD
      refine lv_iload hx hb dX9_refusesText_52 (lv_at hl 0 rfl) ?_
      obtain ⟨e1, e2⟩ := Prod.mk.inj hE
      subst e2
      exact ci_i hx hb hr hlocks e1 rfl hS hP dX9_refusesText_54

theorem fr_fX9_refusesText {M : Mem} (order : Int) {r : Nat} (h19 : Nat.beq r 19 = false) (h20 : Nat.beq r 20 = false) (h21 : Nat.beq r 21 = false) (h22 : Nat.beq r 22 = false) (h23 : Nat.beq r 23 = false) (h26 : Nat.beq r 26 = false) : (fX9_refusesText M order).2 r = M r := by
  unfold fX9_refusesText
  (repeat' with_reducible refine frite_w (fun _ => ?_) (fun _ => ?_)) <;> first | with_reducible rfl | simp only [mst_o, msf_o, mcp_o, fr_fX9_refused, h19, h20, h21, h22, h23, h26]


theorem GI_does {M : Mem} (h : GI M) (k : Int) : GI (fX9_does M k).2 := by
  unfold fX9_does
  (repeat' split) <;> first | exact GI_comes h _ | exact GI_folds h _ _ | exact GI_unfolds h _ | exact GI_takes h _ | exact GI_washes h _ | exact GI_hosts h _ | exact GI_lays h _ _ | exact GI_moves h _ _ _ | exact GI_stains h _ _
theorem th_does (M : Mem) (k : Int) : 0 ≤ (fX9_does M k).2 26 0 ∧ (fX9_does M k).2 26 0 ≤ 3 := by
  unfold fX9_does
  (repeat' split) <;> first | exact th_X9_comes M _ | exact th_X9_folds M _ _ | exact th_X9_unfolds M _ | exact th_X9_takes M _ | exact th_X9_washes M _ | exact th_X9_hosts M _ | exact th_X9_lays M _ _ | exact th_X9_moves M _ _ _ | exact th_X9_stains M _ _
