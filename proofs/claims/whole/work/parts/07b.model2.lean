/-! the model: second part -/

theorem th_X9_comes (M : Mem) (a : Int) : 0 ≤ (fX9_comes M a).2 26 0 ∧ (fX9_comes M a).2 26 0 ≤ 3 := by
  unfold fX9_comes
  (repeat' split) <;> first | exact ⟨(by decide : (0 : Int) ≤ 0), (by decide : (0 : Int) ≤ 3)⟩ | exact ⟨(by decide : (0 : Int) ≤ 1), (by decide : (1 : Int) ≤ 3)⟩ | exact ⟨(by decide : (0 : Int) ≤ 2), (by decide : (2 : Int) ≤ 3)⟩ | exact ⟨(by decide : (0 : Int) ≤ 3), (by decide : (3 : Int) ≤ 3)⟩


theorem th_X9_folds (M : Mem) (a b : Int) : 0 ≤ (fX9_folds M a b).2 26 0 ∧ (fX9_folds M a b).2 26 0 ≤ 3 := by
  unfold fX9_folds
  (repeat' split) <;> first | exact ⟨(by decide : (0 : Int) ≤ 0), (by decide : (0 : Int) ≤ 3)⟩ | exact ⟨(by decide : (0 : Int) ≤ 1), (by decide : (1 : Int) ≤ 3)⟩ | exact ⟨(by decide : (0 : Int) ≤ 2), (by decide : (2 : Int) ≤ 3)⟩ | exact ⟨(by decide : (0 : Int) ≤ 3), (by decide : (3 : Int) ≤ 3)⟩


theorem th_X9_unfolds (M : Mem) (a : Int) : 0 ≤ (fX9_unfolds M a).2 26 0 ∧ (fX9_unfolds M a).2 26 0 ≤ 3 := by
  unfold fX9_unfolds
  (repeat' split) <;> first | exact ⟨(by decide : (0 : Int) ≤ 0), (by decide : (0 : Int) ≤ 3)⟩ | exact ⟨(by decide : (0 : Int) ≤ 1), (by decide : (1 : Int) ≤ 3)⟩ | exact ⟨(by decide : (0 : Int) ≤ 2), (by decide : (2 : Int) ≤ 3)⟩ | exact ⟨(by decide : (0 : Int) ≤ 3), (by decide : (3 : Int) ≤ 3)⟩


theorem th_X9_lays (M : Mem) (a b : Int) : 0 ≤ (fX9_lays M a b).2 26 0 ∧ (fX9_lays M a b).2 26 0 ≤ 3 := by
  unfold fX9_lays
  (repeat' split) <;> first | exact ⟨(by decide : (0 : Int) ≤ 0), (by decide : (0 : Int) ≤ 3)⟩ | exact ⟨(by decide : (0 : Int) ≤ 1), (by decide : (1 : Int) ≤ 3)⟩ | exact ⟨(by decide : (0 : Int) ≤ 2), (by decide : (2 : Int) ≤ 3)⟩ | exact ⟨(by decide : (0 : Int) ≤ 3), (by decide : (3 : Int) ≤ 3)⟩


theorem th_X9_takes (M : Mem) (a : Int) : 0 ≤ (fX9_takes M a).2 26 0 ∧ (fX9_takes M a).2 26 0 ≤ 3 := by
  unfold fX9_takes
  (repeat' split) <;> first | exact ⟨(by decide : (0 : Int) ≤ 0), (by decide : (0 : Int) ≤ 3)⟩ | exact ⟨(by decide : (0 : Int) ≤ 1), (by decide : (1 : Int) ≤ 3)⟩ | exact ⟨(by decide : (0 : Int) ≤ 2), (by decide : (2 : Int) ≤ 3)⟩ | exact ⟨(by decide : (0 : Int) ≤ 3), (by decide : (3 : Int) ≤ 3)⟩


theorem th_X9_moves (M : Mem) (a b c : Int) : 0 ≤ (fX9_moves M a b c).2 26 0 ∧ (fX9_moves M a b c).2 26 0 ≤ 3 := by
  unfold fX9_moves
  (repeat' split) <;> first | exact ⟨(by decide : (0 : Int) ≤ 0), (by decide : (0 : Int) ≤ 3)⟩ | exact ⟨(by decide : (0 : Int) ≤ 1), (by decide : (1 : Int) ≤ 3)⟩ | exact ⟨(by decide : (0 : Int) ≤ 2), (by decide : (2 : Int) ≤ 3)⟩ | exact ⟨(by decide : (0 : Int) ≤ 3), (by decide : (3 : Int) ≤ 3)⟩


theorem th_X9_stains (M : Mem) (a b : Int) : 0 ≤ (fX9_stains M a b).2 26 0 ∧ (fX9_stains M a b).2 26 0 ≤ 3 := by
  unfold fX9_stains
  (repeat' split) <;> first | exact ⟨(by decide : (0 : Int) ≤ 0), (by decide : (0 : Int) ≤ 3)⟩ | exact ⟨(by decide : (0 : Int) ≤ 1), (by decide : (1 : Int) ≤ 3)⟩ | exact ⟨(by decide : (0 : Int) ≤ 2), (by decide : (2 : Int) ≤ 3)⟩ | exact ⟨(by decide : (0 : Int) ≤ 3), (by decide : (3 : Int) ≤ 3)⟩


theorem th_X9_washes (M : Mem) (a : Int) : 0 ≤ (fX9_washes M a).2 26 0 ∧ (fX9_washes M a).2 26 0 ≤ 3 := by
  unfold fX9_washes
  (repeat' split) <;> first | exact ⟨(by decide : (0 : Int) ≤ 0), (by decide : (0 : Int) ≤ 3)⟩ | exact ⟨(by decide : (0 : Int) ≤ 1), (by decide : (1 : Int) ≤ 3)⟩ | exact ⟨(by decide : (0 : Int) ≤ 2), (by decide : (2 : Int) ≤ 3)⟩ | exact ⟨(by decide : (0 : Int) ≤ 3), (by decide : (3 : Int) ≤ 3)⟩


theorem th_X9_hosts (M : Mem) (a : Int) : 0 ≤ (fX9_hosts M a).2 26 0 ∧ (fX9_hosts M a).2 26 0 ≤ 3 := by
  unfold fX9_hosts
  (repeat' split) <;> first | exact ⟨(by decide : (0 : Int) ≤ 0), (by decide : (0 : Int) ≤ 3)⟩ | exact ⟨(by decide : (0 : Int) ≤ 1), (by decide : (1 : Int) ≤ 3)⟩ | exact ⟨(by decide : (0 : Int) ≤ 2), (by decide : (2 : Int) ≤ 3)⟩ | exact ⟨(by decide : (0 : Int) ≤ 3), (by decide : (3 : Int) ≤ 3)⟩

def fX9_napkin (M : Mem) (colour : Int) : Int × Mem := ((fX9_kept (fX9_comes (fX9_looksBack M) colour).2 (fX9_comes (fX9_looksBack M) colour).1).1, (fX9_kept (fX9_comes (fX9_looksBack M) colour).2 (fX9_comes (fX9_looksBack M) colour).1).2)
set_option maxRecDepth 100000 in
set_option maxHeartbeats 4000000 in
theorem kX9_napkin (l : Launch) (D : va_G) (E : Nat → Nat) (cI cC : ClassId) (Z : State → Prop) (hZo : ∀ M : Mem, ZOk (VG E cI cC M) Z) (hZb : ZBl Z) (M : Mem) (colour : Int) (h1 : -2147483648 ≤ colour ∧ colour < 2147483648) (hG : GI M) (hX : CH M) (r : Int) (M' : Mem) (hE : fX9_napkin M colour = (r, M')) : Ci l yX9_napkin wsX9_napkin 2 46 [.ref (E 0), .int (iI colour)] D (TY cI cC) (VG E cI cC) Z M r M' := by
  refine Ci.of (cc := cX9_napkin) (maxL := 2) (ret := (some .int)) (by decide +kernel) rfl (Nat.le_of_ble_eq_true rfl) ?_
  intro p e s m args below meth c ls hx hb hml hr hown hts hlocks hP hK hD hZ hS hl
  have hl : lv_has ls 2 [(0, .ref (E 0)), (1, .int (iI colour))] := hl
  have S0 : CallFix p m c cX9_napkin 2 s args wsX9_napkin RX9 := ⟨hx, hb, hml, hown, hts⟩
  rw [fX9_napkin] at hE
  refine lv_aload_n hx hb dX9_napkin_0 rfl (lv_at hl 0 rfl) ?_
  refine ct_Vv (VG_fix E cI cC) hZo hZb hZ S0 (kX9_looksBack l D E cI cC Z hZo hZb M  (fX9_looksBack M) rfl) (cwV 0 hts gX9_napkin_X9_looksBack rfl rfl rfl (by decide +kernel) ⟨(Nat.le_of_ble_eq_true rfl), (Nat.le_of_ble_eq_true rfl)⟩) hK hP hD hS rfl rfl VG_0 rfl hl.1 rfl (Nat.le_of_ble_eq_true rfl) dX9_napkin_1 ⟨Nat.zero_le _, Nat.zero_le _⟩ (fun H locs hP hD hS => ?_)
  refine lv_aload_n hx hb dX9_napkin_4 rfl (lv_at hl 0 rfl) ?_
  refine lv_aload_n hx hb dX9_napkin_5 rfl (lv_at hl 0 rfl) ?_
  refine lv_iload_n hx hb dX9_napkin_6 rfl (lv_at hl 1 rfl) ?_
  refine ct_Vi (VG_fix E cI cC) hZo hZb hZ S0 (kX9_comes l D E cI cC Z hZo hZb (fX9_looksBack M) colour (by omega) (GI_of (fr_fX9_looksBack  rfl) hG) (fX9_comes (fX9_looksBack M) colour).1 (fX9_comes (fX9_looksBack M) colour).2 (Prod.ext rfl rfl)) (cwV 1 hts gX9_napkin_X9_comes rfl rfl rfl (by decide +kernel) ⟨(Nat.le_of_ble_eq_true rfl), (Nat.le_of_ble_eq_true rfl)⟩) hK hP hD hS rfl rfl VG_0 rfl hl.1 rfl (Nat.le_of_ble_eq_true rfl) dX9_napkin_7 ⟨Nat.zero_le _, Nat.zero_le _⟩ (fun H locs hP hD hS => ?_)
  refine ct_Vi (VG_fix E cI cC) hZo hZb hZ S0 (kX9_kept l D E cI cC Z hZo hZb (fX9_comes (fX9_looksBack M) colour).2 (fX9_comes (fX9_looksBack M) colour).1 (th_X9_comes _ colour) (CH_of (M := M) (by rw [fr_fX9_comes _ rfl rfl rfl rfl rfl rfl rfl, fr_fX9_looksBack rfl]) hX) (fX9_kept (fX9_comes (fX9_looksBack M) colour).2 (fX9_comes (fX9_looksBack M) colour).1).1 (fX9_kept (fX9_comes (fX9_looksBack M) colour).2 (fX9_comes (fX9_looksBack M) colour).1).2 (Prod.ext rfl rfl)) (cwV 1 hts gX9_napkin_X9_kept rfl rfl rfl (by decide +kernel) ⟨(Nat.le_of_ble_eq_true rfl), (Nat.le_of_ble_eq_true rfl)⟩) hK hP hD hS rfl rfl VG_0 rfl hl.1 rfl (Nat.le_of_ble_eq_true rfl) dX9_napkin_10 ⟨Nat.zero_le _, Nat.zero_le _⟩ (fun H locs hP hD hS => ?_)
  obtain ⟨e1, e2⟩ := Prod.mk.inj hE
  subst e2
  exact ci_i hx hb hr hlocks e1 rfl hS hP dX9_napkin_13

theorem fr_fX9_napkin {M : Mem} (colour : Int) {r : Nat} (h0 : Nat.beq r 0 = false) (h1 : Nat.beq r 1 = false) (h2 : Nat.beq r 2 = false) (h13 : Nat.beq r 13 = false) (h19 : Nat.beq r 19 = false) (h20 : Nat.beq r 20 = false) (h21 : Nat.beq r 21 = false) (h22 : Nat.beq r 22 = false) (h23 : Nat.beq r 23 = false) (h26 : Nat.beq r 26 = false) : (fX9_napkin M colour).2 r = M r := by
  unfold fX9_napkin
  (repeat' with_reducible refine frite_w (fun _ => ?_) (fun _ => ?_)) <;> first | with_reducible rfl | simp only [mst_o, msf_o, mcp_o, fr_fX9_comes, fr_fX9_kept, fr_fX9_looksBack, h0, h1, h2, h13, h19, h20, h21, h22, h23, h26]

def fX9_fold (M : Mem) (napkin fold : Int) : Int × Mem := ((fX9_kept (fX9_folds (fX9_looksBack M) napkin fold).2 (fX9_folds (fX9_looksBack M) napkin fold).1).1, (fX9_kept (fX9_folds (fX9_looksBack M) napkin fold).2 (fX9_folds (fX9_looksBack M) napkin fold).1).2)
set_option maxRecDepth 100000 in
set_option maxHeartbeats 4000000 in
theorem kX9_fold (l : Launch) (D : va_G) (E : Nat → Nat) (cI cC : ClassId) (Z : State → Prop) (hZo : ∀ M : Mem, ZOk (VG E cI cC M) Z) (hZb : ZBl Z) (M : Mem) (napkin fold : Int) (h1 : -2147483648 ≤ napkin ∧ napkin < 2147483648) (h2 : -2147483648 ≤ fold ∧ fold < 2147483648) (hG : GI M) (hX : CH M) (r : Int) (M' : Mem) (hE : fX9_fold M napkin fold = (r, M')) : Ci l yX9_fold wsX9_fold 3 66 [.ref (E 0), .int (iI napkin), .int (iI fold)] D (TY cI cC) (VG E cI cC) Z M r M' := by
  refine Ci.of (cc := cX9_fold) (maxL := 3) (ret := (some .int)) (by decide +kernel) rfl (Nat.le_of_ble_eq_true rfl) ?_
  intro p e s m args below meth c ls hx hb hml hr hown hts hlocks hP hK hD hZ hS hl
  have hl : lv_has ls 3 [(0, .ref (E 0)), (1, .int (iI napkin)), (2, .int (iI fold))] := hl
  have S0 : CallFix p m c cX9_fold 3 s args wsX9_fold RX9 := ⟨hx, hb, hml, hown, hts⟩
  rw [fX9_fold] at hE
  refine lv_aload_n hx hb dX9_fold_0 rfl (lv_at hl 0 rfl) ?_
  refine ct_Vv (VG_fix E cI cC) hZo hZb hZ S0 (kX9_looksBack l D E cI cC Z hZo hZb M  (fX9_looksBack M) rfl) (cwV 0 hts gX9_fold_X9_looksBack rfl rfl rfl (by decide +kernel) ⟨(Nat.le_of_ble_eq_true rfl), (Nat.le_of_ble_eq_true rfl)⟩) hK hP hD hS rfl rfl VG_0 rfl hl.1 rfl (Nat.le_of_ble_eq_true rfl) dX9_fold_1 ⟨Nat.zero_le _, Nat.zero_le _⟩ (fun H locs hP hD hS => ?_)
  refine lv_aload_n hx hb dX9_fold_4 rfl (lv_at hl 0 rfl) ?_
  refine lv_aload_n hx hb dX9_fold_5 rfl (lv_at hl 0 rfl) ?_
  refine lv_iload_n hx hb dX9_fold_6 rfl (lv_at hl 1 rfl) ?_
  refine lv_iload_n hx hb dX9_fold_7 rfl (lv_at hl 2 rfl) ?_
  refine ct_Vi (VG_fix E cI cC) hZo hZb hZ S0 (kX9_folds l D E cI cC Z hZo hZb (fX9_looksBack M) napkin fold (by omega) (by omega) (GI_of (fr_fX9_looksBack  rfl) hG) (fX9_folds (fX9_looksBack M) napkin fold).1 (fX9_folds (fX9_looksBack M) napkin fold).2 (Prod.ext rfl rfl)) (cwV 2 hts gX9_fold_X9_folds rfl rfl rfl (by decide +kernel) ⟨(Nat.le_of_ble_eq_true rfl), (Nat.le_of_ble_eq_true rfl)⟩) hK hP hD hS rfl rfl VG_0 rfl hl.1 rfl (Nat.le_of_ble_eq_true rfl) dX9_fold_8 ⟨Nat.zero_le _, Nat.zero_le _⟩ (fun H locs hP hD hS => ?_)
  refine ct_Vi (VG_fix E cI cC) hZo hZb hZ S0 (kX9_kept l D E cI cC Z hZo hZb (fX9_folds (fX9_looksBack M) napkin fold).2 (fX9_folds (fX9_looksBack M) napkin fold).1 (th_X9_folds _ napkin fold) (CH_of (M := M) (by rw [fr_fX9_folds _ _ rfl rfl rfl rfl rfl rfl rfl, fr_fX9_looksBack rfl]) hX) (fX9_kept (fX9_folds (fX9_looksBack M) napkin fold).2 (fX9_folds (fX9_looksBack M) napkin fold).1).1 (fX9_kept (fX9_folds (fX9_looksBack M) napkin fold).2 (fX9_folds (fX9_looksBack M) napkin fold).1).2 (Prod.ext rfl rfl)) (cwV 1 hts gX9_fold_X9_kept rfl rfl rfl (by decide +kernel) ⟨(Nat.le_of_ble_eq_true rfl), (Nat.le_of_ble_eq_true rfl)⟩) hK hP hD hS rfl rfl VG_0 rfl hl.1 rfl (Nat.le_of_ble_eq_true rfl) dX9_fold_11 ⟨Nat.zero_le _, Nat.zero_le _⟩ (fun H locs hP hD hS => ?_)
  obtain ⟨e1, e2⟩ := Prod.mk.inj hE
  subst e2
  exact ci_i hx hb hr hlocks e1 rfl hS hP dX9_fold_14

theorem fr_fX9_fold {M : Mem} (napkin fold : Int) {r : Nat} (h0 : Nat.beq r 0 = false) (h1 : Nat.beq r 1 = false) (h2 : Nat.beq r 2 = false) (h13 : Nat.beq r 13 = false) (h19 : Nat.beq r 19 = false) (h20 : Nat.beq r 20 = false) (h21 : Nat.beq r 21 = false) (h22 : Nat.beq r 22 = false) (h23 : Nat.beq r 23 = false) (h26 : Nat.beq r 26 = false) : (fX9_fold M napkin fold).2 r = M r := by
  unfold fX9_fold
  (repeat' with_reducible refine frite_w (fun _ => ?_) (fun _ => ?_)) <;> first | with_reducible rfl | simp only [mst_o, msf_o, mcp_o, fr_fX9_folds, fr_fX9_kept, fr_fX9_looksBack, h0, h1, h2, h13, h19, h20, h21, h22, h23, h26]

def fX9_unfold (M : Mem) (napkin : Int) : Int × Mem := ((fX9_kept (fX9_unfolds (fX9_looksBack M) napkin).2 (fX9_unfolds (fX9_looksBack M) napkin).1).1, (fX9_kept (fX9_unfolds (fX9_looksBack M) napkin).2 (fX9_unfolds (fX9_looksBack M) napkin).1).2)
set_option maxRecDepth 100000 in
set_option maxHeartbeats 4000000 in
theorem kX9_unfold (l : Launch) (D : va_G) (E : Nat → Nat) (cI cC : ClassId) (Z : State → Prop) (hZo : ∀ M : Mem, ZOk (VG E cI cC M) Z) (hZb : ZBl Z) (M : Mem) (napkin : Int) (h1 : -2147483648 ≤ napkin ∧ napkin < 2147483648) (hG : GI M) (hX : CH M) (r : Int) (M' : Mem) (hE : fX9_unfold M napkin = (r, M')) : Ci l yX9_unfold wsX9_unfold 3 65 [.ref (E 0), .int (iI napkin)] D (TY cI cC) (VG E cI cC) Z M r M' := by
  refine Ci.of (cc := cX9_unfold) (maxL := 2) (ret := (some .int)) (by decide +kernel) rfl (Nat.le_of_ble_eq_true rfl) ?_
  intro p e s m args below meth c ls hx hb hml hr hown hts hlocks hP hK hD hZ hS hl
  have hl : lv_has ls 2 [(0, .ref (E 0)), (1, .int (iI napkin))] := hl
  have S0 : CallFix p m c cX9_unfold 2 s args wsX9_unfold RX9 := ⟨hx, hb, hml, hown, hts⟩
  rw [fX9_unfold] at hE
  refine lv_aload_n hx hb dX9_unfold_0 rfl (lv_at hl 0 rfl) ?_
  refine ct_Vv (VG_fix E cI cC) hZo hZb hZ S0 (kX9_looksBack l D E cI cC Z hZo hZb M  (fX9_looksBack M) rfl) (cwV 0 hts gX9_unfold_X9_looksBack rfl rfl rfl (by decide +kernel) ⟨(Nat.le_of_ble_eq_true rfl), (Nat.le_of_ble_eq_true rfl)⟩) hK hP hD hS rfl rfl VG_0 rfl hl.1 rfl (Nat.le_of_ble_eq_true rfl) dX9_unfold_1 ⟨Nat.zero_le _, Nat.zero_le _⟩ (fun H locs hP hD hS => ?_)
  refine lv_aload_n hx hb dX9_unfold_4 rfl (lv_at hl 0 rfl) ?_
  refine lv_aload_n hx hb dX9_unfold_5 rfl (lv_at hl 0 rfl) ?_
  refine lv_iload_n hx hb dX9_unfold_6 rfl (lv_at hl 1 rfl) ?_
  refine ct_Vi (VG_fix E cI cC) hZo hZb hZ S0 (kX9_unfolds l D E cI cC Z hZo hZb (fX9_looksBack M) napkin (by omega) (GI_of (fr_fX9_looksBack  rfl) hG) (fX9_unfolds (fX9_looksBack M) napkin).1 (fX9_unfolds (fX9_looksBack M) napkin).2 (Prod.ext rfl rfl)) (cwV 1 hts gX9_unfold_X9_unfolds rfl rfl rfl (by decide +kernel) ⟨(Nat.le_of_ble_eq_true rfl), (Nat.le_of_ble_eq_true rfl)⟩) hK hP hD hS rfl rfl VG_0 rfl hl.1 rfl (Nat.le_of_ble_eq_true rfl) dX9_unfold_7 ⟨Nat.zero_le _, Nat.zero_le _⟩ (fun H locs hP hD hS => ?_)
  refine ct_Vi (VG_fix E cI cC) hZo hZb hZ S0 (kX9_kept l D E cI cC Z hZo hZb (fX9_unfolds (fX9_looksBack M) napkin).2 (fX9_unfolds (fX9_looksBack M) napkin).1 (th_X9_unfolds _ napkin) (CH_of (M := M) (by rw [fr_fX9_unfolds _ rfl rfl rfl rfl rfl rfl rfl, fr_fX9_looksBack rfl]) hX) (fX9_kept (fX9_unfolds (fX9_looksBack M) napkin).2 (fX9_unfolds (fX9_looksBack M) napkin).1).1 (fX9_kept (fX9_unfolds (fX9_looksBack M) napkin).2 (fX9_unfolds (fX9_looksBack M) napkin).1).2 (Prod.ext rfl rfl)) (cwV 1 hts gX9_unfold_X9_kept rfl rfl rfl (by decide +kernel) ⟨(Nat.le_of_ble_eq_true rfl), (Nat.le_of_ble_eq_true rfl)⟩) hK hP hD hS rfl rfl VG_0 rfl hl.1 rfl (Nat.le_of_ble_eq_true rfl) dX9_unfold_10 ⟨Nat.zero_le _, Nat.zero_le _⟩ (fun H locs hP hD hS => ?_)
  obtain ⟨e1, e2⟩ := Prod.mk.inj hE
  subst e2
  exact ci_i hx hb hr hlocks e1 rfl hS hP dX9_unfold_13

theorem fr_fX9_unfold {M : Mem} (napkin : Int) {r : Nat} (h0 : Nat.beq r 0 = false) (h1 : Nat.beq r 1 = false) (h2 : Nat.beq r 2 = false) (h13 : Nat.beq r 13 = false) (h19 : Nat.beq r 19 = false) (h20 : Nat.beq r 20 = false) (h21 : Nat.beq r 21 = false) (h22 : Nat.beq r 22 = false) (h23 : Nat.beq r 23 = false) (h26 : Nat.beq r 26 = false) : (fX9_unfold M napkin).2 r = M r := by
  unfold fX9_unfold
  (repeat' with_reducible refine frite_w (fun _ => ?_) (fun _ => ?_)) <;> first | with_reducible rfl | simp only [mst_o, msf_o, mcp_o, fr_fX9_kept, fr_fX9_looksBack, fr_fX9_unfolds, h0, h1, h2, h13, h19, h20, h21, h22, h23, h26]

def fX9_lay (M : Mem) (napkin table : Int) : Int × Mem := ((fX9_kept (fX9_lays (fX9_looksBack M) napkin table).2 (fX9_lays (fX9_looksBack M) napkin table).1).1, (fX9_kept (fX9_lays (fX9_looksBack M) napkin table).2 (fX9_lays (fX9_looksBack M) napkin table).1).2)
set_option maxRecDepth 100000 in
set_option maxHeartbeats 4000000 in
theorem kX9_lay (l : Launch) (D : va_G) (E : Nat → Nat) (cI cC : ClassId) (Z : State → Prop) (hZo : ∀ M : Mem, ZOk (VG E cI cC M) Z) (hZb : ZBl Z) (M : Mem) (napkin table : Int) (h1 : -2147483648 ≤ napkin ∧ napkin < 2147483648) (h2 : -2147483648 ≤ table ∧ table < 2147483648) (hG : GI M) (hX : CH M) (r : Int) (M' : Mem) (hE : fX9_lay M napkin table = (r, M')) : Ci l yX9_lay wsX9_lay 3 69 [.ref (E 0), .int (iI napkin), .int (iI table)] D (TY cI cC) (VG E cI cC) Z M r M' := by
  refine Ci.of (cc := cX9_lay) (maxL := 3) (ret := (some .int)) (by decide +kernel) rfl (Nat.le_of_ble_eq_true rfl) ?_
  intro p e s m args below meth c ls hx hb hml hr hown hts hlocks hP hK hD hZ hS hl
  have hl : lv_has ls 3 [(0, .ref (E 0)), (1, .int (iI napkin)), (2, .int (iI table))] := hl
  have S0 : CallFix p m c cX9_lay 3 s args wsX9_lay RX9 := ⟨hx, hb, hml, hown, hts⟩
  rw [fX9_lay] at hE
  refine lv_aload_n hx hb dX9_lay_0 rfl (lv_at hl 0 rfl) ?_
  refine ct_Vv (VG_fix E cI cC) hZo hZb hZ S0 (kX9_looksBack l D E cI cC Z hZo hZb M  (fX9_looksBack M) rfl) (cwV 0 hts gX9_lay_X9_looksBack rfl rfl rfl (by decide +kernel) ⟨(Nat.le_of_ble_eq_true rfl), (Nat.le_of_ble_eq_true rfl)⟩) hK hP hD hS rfl rfl VG_0 rfl hl.1 rfl (Nat.le_of_ble_eq_true rfl) dX9_lay_1 ⟨Nat.zero_le _, Nat.zero_le _⟩ (fun H locs hP hD hS => ?_)
  refine lv_aload_n hx hb dX9_lay_4 rfl (lv_at hl 0 rfl) ?_
  refine lv_aload_n hx hb dX9_lay_5 rfl (lv_at hl 0 rfl) ?_
  refine lv_iload_n hx hb dX9_lay_6 rfl (lv_at hl 1 rfl) ?_
  refine lv_iload_n hx hb dX9_lay_7 rfl (lv_at hl 2 rfl) ?_
  refine ct_Vi (VG_fix E cI cC) hZo hZb hZ S0 (kX9_lays l D E cI cC Z hZo hZb (fX9_looksBack M) napkin table (by omega) (by omega) (GI_of (fr_fX9_looksBack  rfl) hG) (fX9_lays (fX9_looksBack M) napkin table).1 (fX9_lays (fX9_looksBack M) napkin table).2 (Prod.ext rfl rfl)) (cwV 2 hts gX9_lay_X9_lays rfl rfl rfl (by decide +kernel) ⟨(Nat.le_of_ble_eq_true rfl), (Nat.le_of_ble_eq_true rfl)⟩) hK hP hD hS rfl rfl VG_0 rfl hl.1 rfl (Nat.le_of_ble_eq_true rfl) dX9_lay_8 ⟨Nat.zero_le _, Nat.zero_le _⟩ (fun H locs hP hD hS => ?_)
  refine ct_Vi (VG_fix E cI cC) hZo hZb hZ S0 (kX9_kept l D E cI cC Z hZo hZb (fX9_lays (fX9_looksBack M) napkin table).2 (fX9_lays (fX9_looksBack M) napkin table).1 (th_X9_lays _ napkin table) (CH_of (M := M) (by rw [fr_fX9_lays _ _ rfl rfl rfl rfl rfl rfl rfl, fr_fX9_looksBack rfl]) hX) (fX9_kept (fX9_lays (fX9_looksBack M) napkin table).2 (fX9_lays (fX9_looksBack M) napkin table).1).1 (fX9_kept (fX9_lays (fX9_looksBack M) napkin table).2 (fX9_lays (fX9_looksBack M) napkin table).1).2 (Prod.ext rfl rfl)) (cwV 1 hts gX9_lay_X9_kept rfl rfl rfl (by decide +kernel) ⟨(Nat.le_of_ble_eq_true rfl), (Nat.le_of_ble_eq_true rfl)⟩) hK hP hD hS rfl rfl VG_0 rfl hl.1 rfl (Nat.le_of_ble_eq_true rfl) dX9_lay_11 ⟨Nat.zero_le _, Nat.zero_le _⟩ (fun H locs hP hD hS => ?_)
  obtain ⟨e1, e2⟩ := Prod.mk.inj hE
  subst e2
  exact ci_i hx hb hr hlocks e1 rfl hS hP dX9_lay_14

theorem fr_fX9_lay {M : Mem} (napkin table : Int) {r : Nat} (h0 : Nat.beq r 0 = false) (h1 : Nat.beq r 1 = false) (h2 : Nat.beq r 2 = false) (h13 : Nat.beq r 13 = false) (h19 : Nat.beq r 19 = false) (h20 : Nat.beq r 20 = false) (h21 : Nat.beq r 21 = false) (h22 : Nat.beq r 22 = false) (h23 : Nat.beq r 23 = false) (h26 : Nat.beq r 26 = false) : (fX9_lay M napkin table).2 r = M r := by
  unfold fX9_lay
  (repeat' with_reducible refine frite_w (fun _ => ?_) (fun _ => ?_)) <;> first | with_reducible rfl | simp only [mst_o, msf_o, mcp_o, fr_fX9_kept, fr_fX9_lays, fr_fX9_looksBack, h0, h1, h2, h13, h19, h20, h21, h22, h23, h26]

def fX9_take (M : Mem) (napkin : Int) : Int × Mem := ((fX9_kept (fX9_takes (fX9_looksBack M) napkin).2 (fX9_takes (fX9_looksBack M) napkin).1).1, (fX9_kept (fX9_takes (fX9_looksBack M) napkin).2 (fX9_takes (fX9_looksBack M) napkin).1).2)
set_option maxRecDepth 100000 in
set_option maxHeartbeats 4000000 in
theorem kX9_take (l : Launch) (D : va_G) (E : Nat → Nat) (cI cC : ClassId) (Z : State → Prop) (hZo : ∀ M : Mem, ZOk (VG E cI cC M) Z) (hZb : ZBl Z) (M : Mem) (napkin : Int) (h1 : -2147483648 ≤ napkin ∧ napkin < 2147483648) (hG : GI M) (hX : CH M) (r : Int) (M' : Mem) (hE : fX9_take M napkin = (r, M')) : Ci l yX9_take wsX9_take 3 67 [.ref (E 0), .int (iI napkin)] D (TY cI cC) (VG E cI cC) Z M r M' := by
  refine Ci.of (cc := cX9_take) (maxL := 2) (ret := (some .int)) (by decide +kernel) rfl (Nat.le_of_ble_eq_true rfl) ?_
  intro p e s m args below meth c ls hx hb hml hr hown hts hlocks hP hK hD hZ hS hl
  have hl : lv_has ls 2 [(0, .ref (E 0)), (1, .int (iI napkin))] := hl
  have S0 : CallFix p m c cX9_take 2 s args wsX9_take RX9 := ⟨hx, hb, hml, hown, hts⟩
  rw [fX9_take] at hE
  refine lv_aload_n hx hb dX9_take_0 rfl (lv_at hl 0 rfl) ?_
  refine ct_Vv (VG_fix E cI cC) hZo hZb hZ S0 (kX9_looksBack l D E cI cC Z hZo hZb M  (fX9_looksBack M) rfl) (cwV 0 hts gX9_take_X9_looksBack rfl rfl rfl (by decide +kernel) ⟨(Nat.le_of_ble_eq_true rfl), (Nat.le_of_ble_eq_true rfl)⟩) hK hP hD hS rfl rfl VG_0 rfl hl.1 rfl (Nat.le_of_ble_eq_true rfl) dX9_take_1 ⟨Nat.zero_le _, Nat.zero_le _⟩ (fun H locs hP hD hS => ?_)
  refine lv_aload_n hx hb dX9_take_4 rfl (lv_at hl 0 rfl) ?_
  refine lv_aload_n hx hb dX9_take_5 rfl (lv_at hl 0 rfl) ?_
  refine lv_iload_n hx hb dX9_take_6 rfl (lv_at hl 1 rfl) ?_
  refine ct_Vi (VG_fix E cI cC) hZo hZb hZ S0 (kX9_takes l D E cI cC Z hZo hZb (fX9_looksBack M) napkin (by omega) (GI_of (fr_fX9_looksBack  rfl) hG) (fX9_takes (fX9_looksBack M) napkin).1 (fX9_takes (fX9_looksBack M) napkin).2 (Prod.ext rfl rfl)) (cwV 1 hts gX9_take_X9_takes rfl rfl rfl (by decide +kernel) ⟨(Nat.le_of_ble_eq_true rfl), (Nat.le_of_ble_eq_true rfl)⟩) hK hP hD hS rfl rfl VG_0 rfl hl.1 rfl (Nat.le_of_ble_eq_true rfl) dX9_take_7 ⟨Nat.zero_le _, Nat.zero_le _⟩ (fun H locs hP hD hS => ?_)
  refine ct_Vi (VG_fix E cI cC) hZo hZb hZ S0 (kX9_kept l D E cI cC Z hZo hZb (fX9_takes (fX9_looksBack M) napkin).2 (fX9_takes (fX9_looksBack M) napkin).1 (th_X9_takes _ napkin) (CH_of (M := M) (by rw [fr_fX9_takes _ rfl rfl rfl rfl rfl rfl rfl, fr_fX9_looksBack rfl]) hX) (fX9_kept (fX9_takes (fX9_looksBack M) napkin).2 (fX9_takes (fX9_looksBack M) napkin).1).1 (fX9_kept (fX9_takes (fX9_looksBack M) napkin).2 (fX9_takes (fX9_looksBack M) napkin).1).2 (Prod.ext rfl rfl)) (cwV 1 hts gX9_take_X9_kept rfl rfl rfl (by decide +kernel) ⟨(Nat.le_of_ble_eq_true rfl), (Nat.le_of_ble_eq_true rfl)⟩) hK hP hD hS rfl rfl VG_0 rfl hl.1 rfl (Nat.le_of_ble_eq_true rfl) dX9_take_10 ⟨Nat.zero_le _, Nat.zero_le _⟩ (fun H locs hP hD hS => ?_)
  obtain ⟨e1, e2⟩ := Prod.mk.inj hE
  subst e2
  exact ci_i hx hb hr hlocks e1 rfl hS hP dX9_take_13

theorem fr_fX9_take {M : Mem} (napkin : Int) {r : Nat} (h0 : Nat.beq r 0 = false) (h1 : Nat.beq r 1 = false) (h2 : Nat.beq r 2 = false) (h13 : Nat.beq r 13 = false) (h19 : Nat.beq r 19 = false) (h20 : Nat.beq r 20 = false) (h21 : Nat.beq r 21 = false) (h22 : Nat.beq r 22 = false) (h23 : Nat.beq r 23 = false) (h26 : Nat.beq r 26 = false) : (fX9_take M napkin).2 r = M r := by
  unfold fX9_take
  (repeat' with_reducible refine frite_w (fun _ => ?_) (fun _ => ?_)) <;> first | with_reducible rfl | simp only [mst_o, msf_o, mcp_o, fr_fX9_kept, fr_fX9_looksBack, fr_fX9_takes, h0, h1, h2, h13, h19, h20, h21, h22, h23, h26]

def fX9_move (M : Mem) (table fro to : Int) : Int × Mem := ((fX9_kept (fX9_moves (fX9_looksBack M) table fro to).2 (fX9_moves (fX9_looksBack M) table fro to).1).1, (fX9_kept (fX9_moves (fX9_looksBack M) table fro to).2 (fX9_moves (fX9_looksBack M) table fro to).1).2)
set_option maxRecDepth 100000 in
set_option maxHeartbeats 4000000 in
theorem kX9_move (l : Launch) (D : va_G) (E : Nat → Nat) (cI cC : ClassId) (Z : State → Prop) (hZo : ∀ M : Mem, ZOk (VG E cI cC M) Z) (hZb : ZBl Z) (M : Mem) (table fro to : Int) (h1 : -2147483648 ≤ table ∧ table < 2147483648) (h2 : -2147483648 ≤ fro ∧ fro < 2147483648) (h3 : -2147483648 ≤ to ∧ to < 2147483648) (hG : GI M) (hX : CH M) (r : Int) (M' : Mem) (hE : fX9_move M table fro to = (r, M')) : Ci l yX9_move wsX9_move 3 66 [.ref (E 0), .int (iI table), .int (iI fro), .int (iI to)] D (TY cI cC) (VG E cI cC) Z M r M' := by
  refine Ci.of (cc := cX9_move) (maxL := 4) (ret := (some .int)) (by decide +kernel) rfl (Nat.le_of_ble_eq_true rfl) ?_
  intro p e s m args below meth c ls hx hb hml hr hown hts hlocks hP hK hD hZ hS hl
  have hl : lv_has ls 4 [(0, .ref (E 0)), (1, .int (iI table)), (2, .int (iI fro)), (3, .int (iI to))] := hl
  have S0 : CallFix p m c cX9_move 4 s args wsX9_move RX9 := ⟨hx, hb, hml, hown, hts⟩
  rw [fX9_move] at hE
  refine lv_aload_n hx hb dX9_move_0 rfl (lv_at hl 0 rfl) ?_
  refine ct_Vv (VG_fix E cI cC) hZo hZb hZ S0 (kX9_looksBack l D E cI cC Z hZo hZb M  (fX9_looksBack M) rfl) (cwV 0 hts gX9_move_X9_looksBack rfl rfl rfl (by decide +kernel) ⟨(Nat.le_of_ble_eq_true rfl), (Nat.le_of_ble_eq_true rfl)⟩) hK hP hD hS rfl rfl VG_0 rfl hl.1 rfl (Nat.le_of_ble_eq_true rfl) dX9_move_1 ⟨Nat.zero_le _, Nat.zero_le _⟩ (fun H locs hP hD hS => ?_)
  refine lv_aload_n hx hb dX9_move_4 rfl (lv_at hl 0 rfl) ?_
  refine lv_aload_n hx hb dX9_move_5 rfl (lv_at hl 0 rfl) ?_
  refine lv_iload_n hx hb dX9_move_6 rfl (lv_at hl 1 rfl) ?_
  refine lv_iload_n hx hb dX9_move_7 rfl (lv_at hl 2 rfl) ?_
  refine lv_iload_n hx hb dX9_move_8 rfl (lv_at hl 3 rfl) ?_
  refine ct_Vi (VG_fix E cI cC) hZo hZb hZ S0 (kX9_moves l D E cI cC Z hZo hZb (fX9_looksBack M) table fro to (by omega) (by omega) (by omega) (GI_of (fr_fX9_looksBack  rfl) hG) (fX9_moves (fX9_looksBack M) table fro to).1 (fX9_moves (fX9_looksBack M) table fro to).2 (Prod.ext rfl rfl)) (cwV 3 hts gX9_move_X9_moves rfl rfl rfl (by decide +kernel) ⟨(Nat.le_of_ble_eq_true rfl), (Nat.le_of_ble_eq_true rfl)⟩) hK hP hD hS rfl rfl VG_0 rfl hl.1 rfl (Nat.le_of_ble_eq_true rfl) dX9_move_9 ⟨Nat.zero_le _, Nat.zero_le _⟩ (fun H locs hP hD hS => ?_)
  refine ct_Vi (VG_fix E cI cC) hZo hZb hZ S0 (kX9_kept l D E cI cC Z hZo hZb (fX9_moves (fX9_looksBack M) table fro to).2 (fX9_moves (fX9_looksBack M) table fro to).1 (th_X9_moves _ table fro to) (CH_of (M := M) (by rw [fr_fX9_moves _ _ _ rfl rfl rfl rfl rfl rfl rfl, fr_fX9_looksBack rfl]) hX) (fX9_kept (fX9_moves (fX9_looksBack M) table fro to).2 (fX9_moves (fX9_looksBack M) table fro to).1).1 (fX9_kept (fX9_moves (fX9_looksBack M) table fro to).2 (fX9_moves (fX9_looksBack M) table fro to).1).2 (Prod.ext rfl rfl)) (cwV 1 hts gX9_move_X9_kept rfl rfl rfl (by decide +kernel) ⟨(Nat.le_of_ble_eq_true rfl), (Nat.le_of_ble_eq_true rfl)⟩) hK hP hD hS rfl rfl VG_0 rfl hl.1 rfl (Nat.le_of_ble_eq_true rfl) dX9_move_12 ⟨Nat.zero_le _, Nat.zero_le _⟩ (fun H locs hP hD hS => ?_)
  obtain ⟨e1, e2⟩ := Prod.mk.inj hE
  subst e2
  exact ci_i hx hb hr hlocks e1 rfl hS hP dX9_move_15

theorem fr_fX9_move {M : Mem} (table fro to : Int) {r : Nat} (h0 : Nat.beq r 0 = false) (h1 : Nat.beq r 1 = false) (h2 : Nat.beq r 2 = false) (h13 : Nat.beq r 13 = false) (h19 : Nat.beq r 19 = false) (h20 : Nat.beq r 20 = false) (h21 : Nat.beq r 21 = false) (h22 : Nat.beq r 22 = false) (h23 : Nat.beq r 23 = false) (h26 : Nat.beq r 26 = false) : (fX9_move M table fro to).2 r = M r := by
  unfold fX9_move
  (repeat' with_reducible refine frite_w (fun _ => ?_) (fun _ => ?_)) <;> first | with_reducible rfl | simp only [mst_o, msf_o, mcp_o, fr_fX9_kept, fr_fX9_looksBack, fr_fX9_moves, h0, h1, h2, h13, h19, h20, h21, h22, h23, h26]

def fX9_stain (M : Mem) (napkin much : Int) : Int × Mem := ((fX9_kept (fX9_stains (fX9_looksBack M) napkin much).2 (fX9_stains (fX9_looksBack M) napkin much).1).1, (fX9_kept (fX9_stains (fX9_looksBack M) napkin much).2 (fX9_stains (fX9_looksBack M) napkin much).1).2)
set_option maxRecDepth 100000 in
set_option maxHeartbeats 4000000 in
theorem kX9_stain (l : Launch) (D : va_G) (E : Nat → Nat) (cI cC : ClassId) (Z : State → Prop) (hZo : ∀ M : Mem, ZOk (VG E cI cC M) Z) (hZb : ZBl Z) (M : Mem) (napkin much : Int) (h1 : -2147483648 ≤ napkin ∧ napkin < 2147483648) (h2 : -2147483648 ≤ much ∧ much < 2147483648) (hG : GI M) (hX : CH M) (r : Int) (M' : Mem) (hE : fX9_stain M napkin much = (r, M')) : Ci l yX9_stain wsX9_stain 3 65 [.ref (E 0), .int (iI napkin), .int (iI much)] D (TY cI cC) (VG E cI cC) Z M r M' := by
  refine Ci.of (cc := cX9_stain) (maxL := 3) (ret := (some .int)) (by decide +kernel) rfl (Nat.le_of_ble_eq_true rfl) ?_
  intro p e s m args below meth c ls hx hb hml hr hown hts hlocks hP hK hD hZ hS hl
  have hl : lv_has ls 3 [(0, .ref (E 0)), (1, .int (iI napkin)), (2, .int (iI much))] := hl
  have S0 : CallFix p m c cX9_stain 3 s args wsX9_stain RX9 := ⟨hx, hb, hml, hown, hts⟩
  rw [fX9_stain] at hE
  refine lv_aload_n hx hb dX9_stain_0 rfl (lv_at hl 0 rfl) ?_
  refine ct_Vv (VG_fix E cI cC) hZo hZb hZ S0 (kX9_looksBack l D E cI cC Z hZo hZb M  (fX9_looksBack M) rfl) (cwV 0 hts gX9_stain_X9_looksBack rfl rfl rfl (by decide +kernel) ⟨(Nat.le_of_ble_eq_true rfl), (Nat.le_of_ble_eq_true rfl)⟩) hK hP hD hS rfl rfl VG_0 rfl hl.1 rfl (Nat.le_of_ble_eq_true rfl) dX9_stain_1 ⟨Nat.zero_le _, Nat.zero_le _⟩ (fun H locs hP hD hS => ?_)
  refine lv_aload_n hx hb dX9_stain_4 rfl (lv_at hl 0 rfl) ?_
  refine lv_aload_n hx hb dX9_stain_5 rfl (lv_at hl 0 rfl) ?_
  refine lv_iload_n hx hb dX9_stain_6 rfl (lv_at hl 1 rfl) ?_
  refine lv_iload_n hx hb dX9_stain_7 rfl (lv_at hl 2 rfl) ?_
  refine ct_Vi (VG_fix E cI cC) hZo hZb hZ S0 (kX9_stains l D E cI cC Z hZo hZb (fX9_looksBack M) napkin much (by omega) (by omega) (GI_of (fr_fX9_looksBack  rfl) hG) (fX9_stains (fX9_looksBack M) napkin much).1 (fX9_stains (fX9_looksBack M) napkin much).2 (Prod.ext rfl rfl)) (cwV 2 hts gX9_stain_X9_stains rfl rfl rfl (by decide +kernel) ⟨(Nat.le_of_ble_eq_true rfl), (Nat.le_of_ble_eq_true rfl)⟩) hK hP hD hS rfl rfl VG_0 rfl hl.1 rfl (Nat.le_of_ble_eq_true rfl) dX9_stain_8 ⟨Nat.zero_le _, Nat.zero_le _⟩ (fun H locs hP hD hS => ?_)
  refine ct_Vi (VG_fix E cI cC) hZo hZb hZ S0 (kX9_kept l D E cI cC Z hZo hZb (fX9_stains (fX9_looksBack M) napkin much).2 (fX9_stains (fX9_looksBack M) napkin much).1 (th_X9_stains _ napkin much) (CH_of (M := M) (by rw [fr_fX9_stains _ _ rfl rfl rfl rfl rfl rfl rfl, fr_fX9_looksBack rfl]) hX) (fX9_kept (fX9_stains (fX9_looksBack M) napkin much).2 (fX9_stains (fX9_looksBack M) napkin much).1).1 (fX9_kept (fX9_stains (fX9_looksBack M) napkin much).2 (fX9_stains (fX9_looksBack M) napkin much).1).2 (Prod.ext rfl rfl)) (cwV 1 hts gX9_stain_X9_kept rfl rfl rfl (by decide +kernel) ⟨(Nat.le_of_ble_eq_true rfl), (Nat.le_of_ble_eq_true rfl)⟩) hK hP hD hS rfl rfl VG_0 rfl hl.1 rfl (Nat.le_of_ble_eq_true rfl) dX9_stain_11 ⟨Nat.zero_le _, Nat.zero_le _⟩ (fun H locs hP hD hS => ?_)
  obtain ⟨e1, e2⟩ := Prod.mk.inj hE
  subst e2
  exact ci_i hx hb hr hlocks e1 rfl hS hP dX9_stain_14

theorem fr_fX9_stain {M : Mem} (napkin much : Int) {r : Nat} (h0 : Nat.beq r 0 = false) (h1 : Nat.beq r 1 = false) (h2 : Nat.beq r 2 = false) (h13 : Nat.beq r 13 = false) (h19 : Nat.beq r 19 = false) (h20 : Nat.beq r 20 = false) (h21 : Nat.beq r 21 = false) (h22 : Nat.beq r 22 = false) (h23 : Nat.beq r 23 = false) (h26 : Nat.beq r 26 = false) : (fX9_stain M napkin much).2 r = M r := by
  unfold fX9_stain
  (repeat' with_reducible refine frite_w (fun _ => ?_) (fun _ => ?_)) <;> first | with_reducible rfl | simp only [mst_o, msf_o, mcp_o, fr_fX9_kept, fr_fX9_looksBack, fr_fX9_stains, h0, h1, h2, h13, h19, h20, h21, h22, h23, h26]

def fX9_wash (M : Mem) (napkin : Int) : Int × Mem := ((fX9_kept (fX9_washes (fX9_looksBack M) napkin).2 (fX9_washes (fX9_looksBack M) napkin).1).1, (fX9_kept (fX9_washes (fX9_looksBack M) napkin).2 (fX9_washes (fX9_looksBack M) napkin).1).2)
set_option maxRecDepth 100000 in
set_option maxHeartbeats 4000000 in
theorem kX9_wash (l : Launch) (D : va_G) (E : Nat → Nat) (cI cC : ClassId) (Z : State → Prop) (hZo : ∀ M : Mem, ZOk (VG E cI cC M) Z) (hZb : ZBl Z) (M : Mem) (napkin : Int) (h1 : -2147483648 ≤ napkin ∧ napkin < 2147483648) (hG : GI M) (hX : CH M) (r : Int) (M' : Mem) (hE : fX9_wash M napkin = (r, M')) : Ci l yX9_wash wsX9_wash 3 68 [.ref (E 0), .int (iI napkin)] D (TY cI cC) (VG E cI cC) Z M r M' := by
  refine Ci.of (cc := cX9_wash) (maxL := 2) (ret := (some .int)) (by decide +kernel) rfl (Nat.le_of_ble_eq_true rfl) ?_
  intro p e s m args below meth c ls hx hb hml hr hown hts hlocks hP hK hD hZ hS hl
  have hl : lv_has ls 2 [(0, .ref (E 0)), (1, .int (iI napkin))] := hl
  have S0 : CallFix p m c cX9_wash 2 s args wsX9_wash RX9 := ⟨hx, hb, hml, hown, hts⟩
  rw [fX9_wash] at hE
  refine lv_aload_n hx hb dX9_wash_0 rfl (lv_at hl 0 rfl) ?_
  refine ct_Vv (VG_fix E cI cC) hZo hZb hZ S0 (kX9_looksBack l D E cI cC Z hZo hZb M  (fX9_looksBack M) rfl) (cwV 0 hts gX9_wash_X9_looksBack rfl rfl rfl (by decide +kernel) ⟨(Nat.le_of_ble_eq_true rfl), (Nat.le_of_ble_eq_true rfl)⟩) hK hP hD hS rfl rfl VG_0 rfl hl.1 rfl (Nat.le_of_ble_eq_true rfl) dX9_wash_1 ⟨Nat.zero_le _, Nat.zero_le _⟩ (fun H locs hP hD hS => ?_)
  refine lv_aload_n hx hb dX9_wash_4 rfl (lv_at hl 0 rfl) ?_
  refine lv_aload_n hx hb dX9_wash_5 rfl (lv_at hl 0 rfl) ?_
  refine lv_iload_n hx hb dX9_wash_6 rfl (lv_at hl 1 rfl) ?_
  refine ct_Vi (VG_fix E cI cC) hZo hZb hZ S0 (kX9_washes l D E cI cC Z hZo hZb (fX9_looksBack M) napkin (by omega) (GI_of (fr_fX9_looksBack  rfl) hG) (fX9_washes (fX9_looksBack M) napkin).1 (fX9_washes (fX9_looksBack M) napkin).2 (Prod.ext rfl rfl)) (cwV 1 hts gX9_wash_X9_washes rfl rfl rfl (by decide +kernel) ⟨(Nat.le_of_ble_eq_true rfl), (Nat.le_of_ble_eq_true rfl)⟩) hK hP hD hS rfl rfl VG_0 rfl hl.1 rfl (Nat.le_of_ble_eq_true rfl) dX9_wash_7 ⟨Nat.zero_le _, Nat.zero_le _⟩ (fun H locs hP hD hS => ?_)
  refine ct_Vi (VG_fix E cI cC) hZo hZb hZ S0 (kX9_kept l D E cI cC Z hZo hZb (fX9_washes (fX9_looksBack M) napkin).2 (fX9_washes (fX9_looksBack M) napkin).1 (th_X9_washes _ napkin) (CH_of (M := M) (by rw [fr_fX9_washes _ rfl rfl rfl rfl rfl rfl rfl, fr_fX9_looksBack rfl]) hX) (fX9_kept (fX9_washes (fX9_looksBack M) napkin).2 (fX9_washes (fX9_looksBack M) napkin).1).1 (fX9_kept (fX9_washes (fX9_looksBack M) napkin).2 (fX9_washes (fX9_looksBack M) napkin).1).2 (Prod.ext rfl rfl)) (cwV 1 hts gX9_wash_X9_kept rfl rfl rfl (by decide +kernel) ⟨(Nat.le_of_ble_eq_true rfl), (Nat.le_of_ble_eq_true rfl)⟩) hK hP hD hS rfl rfl VG_0 rfl hl.1 rfl (Nat.le_of_ble_eq_true rfl) dX9_wash_10 ⟨Nat.zero_le _, Nat.zero_le _⟩ (fun H locs hP hD hS => ?_)
  obtain ⟨e1, e2⟩ := Prod.mk.inj hE
  subst e2
  exact ci_i hx hb hr hlocks e1 rfl hS hP dX9_wash_13

theorem fr_fX9_wash {M : Mem} (napkin : Int) {r : Nat} (h0 : Nat.beq r 0 = false) (h1 : Nat.beq r 1 = false) (h2 : Nat.beq r 2 = false) (h13 : Nat.beq r 13 = false) (h19 : Nat.beq r 19 = false) (h20 : Nat.beq r 20 = false) (h21 : Nat.beq r 21 = false) (h22 : Nat.beq r 22 = false) (h23 : Nat.beq r 23 = false) (h26 : Nat.beq r 26 = false) : (fX9_wash M napkin).2 r = M r := by
  unfold fX9_wash
  (repeat' with_reducible refine frite_w (fun _ => ?_) (fun _ => ?_)) <;> first | with_reducible rfl | simp only [mst_o, msf_o, mcp_o, fr_fX9_kept, fr_fX9_looksBack, fr_fX9_washes, h0, h1, h2, h13, h19, h20, h21, h22, h23, h26]

def fX9_host (M : Mem) (table : Int) : Int × Mem := ((fX9_kept (fX9_hosts (fX9_looksBack M) table).2 (fX9_hosts (fX9_looksBack M) table).1).1, (fX9_kept (fX9_hosts (fX9_looksBack M) table).2 (fX9_hosts (fX9_looksBack M) table).1).2)
set_option maxRecDepth 100000 in
set_option maxHeartbeats 4000000 in
theorem kX9_host (l : Launch) (D : va_G) (E : Nat → Nat) (cI cC : ClassId) (Z : State → Prop) (hZo : ∀ M : Mem, ZOk (VG E cI cC M) Z) (hZb : ZBl Z) (M : Mem) (table : Int) (h1 : -2147483648 ≤ table ∧ table < 2147483648) (hG : GI M) (hX : CH M) (r : Int) (M' : Mem) (hE : fX9_host M table = (r, M')) : Ci l yX9_host wsX9_host 7 156 [.ref (E 0), .int (iI table)] D (TY cI cC) (VG E cI cC) Z M r M' := by
  refine Ci.of (cc := cX9_host) (maxL := 2) (ret := (some .int)) (by decide +kernel) rfl (Nat.le_of_ble_eq_true rfl) ?_
  intro p e s m args below meth c ls hx hb hml hr hown hts hlocks hP hK hD hZ hS hl
  have hl : lv_has ls 2 [(0, .ref (E 0)), (1, .int (iI table))] := hl
  have S0 : CallFix p m c cX9_host 2 s args wsX9_host RX9 := ⟨hx, hb, hml, hown, hts⟩
  rw [fX9_host] at hE
  refine lv_aload_n hx hb dX9_host_0 rfl (lv_at hl 0 rfl) ?_
  refine ct_Vv (VG_fix E cI cC) hZo hZb hZ S0 (kX9_looksBack l D E cI cC Z hZo hZb M  (fX9_looksBack M) rfl) (cwV 0 hts gX9_host_X9_looksBack rfl rfl rfl (by decide +kernel) ⟨(Nat.le_of_ble_eq_true rfl), (Nat.le_of_ble_eq_true rfl)⟩) hK hP hD hS rfl rfl VG_0 rfl hl.1 rfl (Nat.le_of_ble_eq_true rfl) dX9_host_1 ⟨Nat.zero_le _, Nat.zero_le _⟩ (fun H locs hP hD hS => ?_)
  refine lv_aload_n hx hb dX9_host_4 rfl (lv_at hl 0 rfl) ?_
  refine lv_aload_n hx hb dX9_host_5 rfl (lv_at hl 0 rfl) ?_
  refine lv_iload_n hx hb dX9_host_6 rfl (lv_at hl 1 rfl) ?_
  refine ct_Vi (VG_fix E cI cC) hZo hZb hZ S0 (kX9_hosts l D E cI cC Z hZo hZb (fX9_looksBack M) table (by omega) (GI_of (fr_fX9_looksBack  rfl) hG) (fX9_hosts (fX9_looksBack M) table).1 (fX9_hosts (fX9_looksBack M) table).2 (Prod.ext rfl rfl)) (cwV 1 hts gX9_host_X9_hosts rfl rfl rfl (by decide +kernel) ⟨(Nat.le_of_ble_eq_true rfl), (Nat.le_of_ble_eq_true rfl)⟩) hK hP hD hS rfl rfl VG_0 rfl hl.1 rfl (Nat.le_of_ble_eq_true rfl) dX9_host_7 ⟨Nat.zero_le _, Nat.zero_le _⟩ (fun H locs hP hD hS => ?_)
  refine ct_Vi (VG_fix E cI cC) hZo hZb hZ S0 (kX9_kept l D E cI cC Z hZo hZb (fX9_hosts (fX9_looksBack M) table).2 (fX9_hosts (fX9_looksBack M) table).1 (th_X9_hosts _ table) (CH_of (M := M) (by rw [fr_fX9_hosts _ rfl rfl rfl rfl rfl rfl rfl, fr_fX9_looksBack rfl]) hX) (fX9_kept (fX9_hosts (fX9_looksBack M) table).2 (fX9_hosts (fX9_looksBack M) table).1).1 (fX9_kept (fX9_hosts (fX9_looksBack M) table).2 (fX9_hosts (fX9_looksBack M) table).1).2 (Prod.ext rfl rfl)) (cwV 1 hts gX9_host_X9_kept rfl rfl rfl (by decide +kernel) ⟨(Nat.le_of_ble_eq_true rfl), (Nat.le_of_ble_eq_true rfl)⟩) hK hP hD hS rfl rfl VG_0 rfl hl.1 rfl (Nat.le_of_ble_eq_true rfl) dX9_host_10 ⟨Nat.zero_le _, Nat.zero_le _⟩ (fun H locs hP hD hS => ?_)
  obtain ⟨e1, e2⟩ := Prod.mk.inj hE
  subst e2
  exact ci_i hx hb hr hlocks e1 rfl hS hP dX9_host_13

theorem fr_fX9_host {M : Mem} (table : Int) {r : Nat} (h0 : Nat.beq r 0 = false) (h1 : Nat.beq r 1 = false) (h2 : Nat.beq r 2 = false) (h13 : Nat.beq r 13 = false) (h19 : Nat.beq r 19 = false) (h20 : Nat.beq r 20 = false) (h21 : Nat.beq r 21 = false) (h22 : Nat.beq r 22 = false) (h23 : Nat.beq r 23 = false) (h26 : Nat.beq r 26 = false) : (fX9_host M table).2 r = M r := by
  unfold fX9_host
  (repeat' with_reducible refine frite_w (fun _ => ?_) (fun _ => ?_)) <;> first | with_reducible rfl | simp only [mst_o, msf_o, mcp_o, fr_fX9_hosts, fr_fX9_kept, fr_fX9_looksBack, h0, h1, h2, h13, h19, h20, h21, h22, h23, h26]

def fX9_napkinOf (M : Mem) (napkin what : Int) : Int × Mem := if ((fX9_isNapkin M napkin) = 0) then ((fX9_fails M (1)).1, (fX9_fails M (1)).2) else if (what = 0) then ((fX9_done M (M 0 ((5) + napkin))).1, (fX9_done M (M 0 ((5) + napkin))).2) else if (what = 1) then ((fX9_done M (M 0 ((15) + napkin))).1, (fX9_done M (M 0 ((15) + napkin))).2) else if (what = 2) then ((fX9_done M (M 0 ((25) + napkin))).1, (fX9_done M (M 0 ((25) + napkin))).2) else if (what = 3) then ((fX9_done M (M 0 ((35) + napkin))).1, (fX9_done M (M 0 ((35) + napkin))).2) else if (what = 4) then if ((fX9_seatOf M napkin) = (-1)) then ((fX9_done M (-1)).1, (fX9_done M (-1)).2) else ((fX9_done M ((fX9_seatOf M napkin) / (10))).1, (fX9_done M ((fX9_seatOf M napkin) / (10))).2) else if (what = 5) then if ((fX9_seatOf M napkin) = (-1)) then ((fX9_done M (-1)).1, (fX9_done M (-1)).2) else ((fX9_done M ((fX9_seatOf M napkin) % (10))).1, (fX9_done M ((fX9_seatOf M napkin) % (10))).2) else if (what = 6) then ((fX9_done M (M 0 ((45) + napkin))).1, (fX9_done M (M 0 ((45) + napkin))).2) else ((fX9_fails M (2)).1, (fX9_fails M (2)).2)
set_option maxRecDepth 100000 in
set_option maxHeartbeats 4000000 in
theorem kX9_napkinOf (l : Launch) (D : va_G) (E : Nat → Nat) (cI cC : ClassId) (Z : State → Prop) (hZo : ∀ M : Mem, ZOk (VG E cI cC M) Z) (hZb : ZBl Z) (M : Mem) (napkin what : Int) (h1 : -2147483648 ≤ napkin ∧ napkin < 2147483648) (h2 : -2147483648 ≤ what ∧ what < 2147483648) (hG : GI M) (r : Int) (M' : Mem) (hE : fX9_napkinOf M napkin what = (r, M')) : Ci l yX9_napkinOf wsX9_napkinOf 2 45 [.ref (E 0), .int (iI napkin), .int (iI what)] D (TY cI cC) (VG E cI cC) Z M r M' := by
  refine Ci.of (cc := cX9_napkinOf) (maxL := 4) (ret := (some .int)) (by decide +kernel) rfl (Nat.le_of_ble_eq_true rfl) ?_
  intro p e s m args below meth c ls hx hb hml hr hown hts hlocks hP hK hD hZ hS hl
  have hl : lv_has ls 4 [(0, .ref (E 0)), (1, .int (iI napkin)), (2, .int (iI what))] := hl
  have S0 : CallFix p m c cX9_napkinOf 4 s args wsX9_napkinOf RX9 := ⟨hx, hb, hml, hown, hts⟩
  have hinX9 : ∀ w ∈ u_ws RX9 TX9 20, w ∈ wsX9_napkinOf := by decide +kernel
  rw [fX9_napkinOf] at hE
  refine lv_aload_n hx hb dX9_napkinOf_0 rfl (lv_at hl 0 rfl) ?_
  refine lv_iload_n hx hb dX9_napkinOf_1 rfl (lv_at hl 1 rfl) ?_
  refine ct_Vi (VG_fix E cI cC) hZo hZb hZ S0 (kX9_isNapkin l D E cI cC Z hZo hZb M napkin (by omega) hG (fX9_isNapkin M napkin) rfl) (cwV 1 hts gX9_napkinOf_X9_isNapkin rfl rfl rfl (by decide +kernel) ⟨(Nat.le_of_ble_eq_true rfl), (Nat.le_of_ble_eq_true rfl)⟩) hK hP hD hS rfl rfl VG_0 rfl hl.1 rfl (Nat.le_of_ble_eq_true rfl) dX9_napkinOf_2 ⟨Nat.zero_le _, Nat.zero_le _⟩ (fun H locs hP hD hS => ?_)
  have q1 := dX9_isNapkin hG napkin
  refine z_if_ne hx hb dX9_napkinOf_5 (tgt := 14) rfl (by omega) (fun b2 => ?_) (fun b2 => ?_)
  · rw [if_neg b2] at hE
    refine lv_aload_n hx hb dX9_napkinOf_14 rfl (lv_at hl 0 rfl) ?_
    refine lv_iload_n hx hb dX9_napkinOf_15 rfl (lv_at hl 1 rfl) ?_
    refine ct_Vi (VG_fix E cI cC) hZo hZb hZ S0 (kX9_seatOf l D E cI cC Z hZo hZb M napkin (by omega) hG (fX9_seatOf M napkin) rfl) (cwV 1 hts gX9_napkinOf_X9_seatOf rfl rfl rfl (by decide +kernel) ⟨(Nat.le_of_ble_eq_true rfl), (Nat.le_of_ble_eq_true rfl)⟩) hK hP hD hS rfl rfl VG_0 rfl hl.1 rfl (Nat.le_of_ble_eq_true rfl) dX9_napkinOf_16 ⟨Nat.zero_le _, Nat.zero_le _⟩ (fun H locs hP hD hS => ?_)
    have q3 := rg_X9_seatOf hG napkin
    refine lv_istore_n hx hb dX9_napkinOf_19 rfl hl (Nat.le_of_ble_eq_true rfl) (lv' := [(3, .int (iI (fX9_seatOf M napkin))), (0, .ref (E 0)), (1, .int (iI napkin)), (2, .int (iI what))]) rfl (fun ls hl => ?_)
    refine lv_iload_n hx hb dX9_napkinOf_20 rfl (lv_at hl 3 rfl) ?_
    by_cases b4 : (what = 0)
    · rw [if_pos b4] at hE
      refine z_table hx hb dX9_napkinOf_21 (k0 := 0) (tgt := 64) (by omega) b4 (by decide) (by decide) rfl rfl ?_
      refine lv_aload_n hx hb dX9_napkinOf_64 rfl (lv_at hl 1 rfl) ?_
      refine lv_aload_n hx hb dX9_napkinOf_65 rfl (lv_at hl 1 rfl) ?_
      refine va_get (own := RX9) (ref := "NapkinSyntaxModel") (C := RX9) (T := TX9) (N := 20) hx hb hts hinX9 hown hK hP 0 VG_0 rfl 0 (Nat.le_of_ble_eq_true rfl) (hts (.fieldLink RX9 7 "NapkinSyntaxModel" "g" "[I") (by decide +kernel)) (fun _ h => h) (v := .ref (E 1)) rfl dX9_napkinOf_66 ?_
      refine z_iconst hx hb dX9_napkinOf_69 ?_
      refine lv_iload_n hx hb dX9_napkinOf_70 rfl (lv_at hl 2 rfl) ?_
      refine z_iadd hx hb dX9_napkinOf_71 ?_
      refine z_iald hx hb hK hP 1 0 VG_1 rfl (by omega) (by omega) (by decide) dX9_napkinOf_72 ?_
      have q5 := GI_5 hG ((5) + napkin) (by omega) (by omega)
      refine ct_Vi (VG_fix E cI cC) hZo hZb hZ S0 (kX9_done l D E cI cC Z hZo hZb M (M 0 ((5) + napkin))  (fX9_done M (M 0 ((5) + napkin))).1 (fX9_done M (M 0 ((5) + napkin))).2 (Prod.ext rfl rfl)) (cwV 1 hts gX9_napkinOf_X9_done rfl rfl rfl (by decide +kernel) ⟨(Nat.le_of_ble_eq_true rfl), (Nat.le_of_ble_eq_true rfl)⟩) hK hP hD hS rfl rfl VG_0 rfl hl.1 rfl (Nat.le_of_ble_eq_true rfl) dX9_napkinOf_73 ⟨Nat.zero_le _, Nat.zero_le _⟩ (fun H locs hP hD hS => ?_)
      obtain ⟨e1, e2⟩ := Prod.mk.inj hE
      subst e2
      exact ci_i hx hb hr hlocks e1 rfl hS hP dX9_napkinOf_76
    · rw [if_neg b4] at hE
      by_cases b6 : (what = 1)
      · rw [if_pos b6] at hE
        refine z_table hx hb dX9_napkinOf_21 (k0 := 1) (tgt := 77) (by omega) b6 (by decide) (by decide) rfl rfl ?_
        refine lv_aload_n hx hb dX9_napkinOf_77 rfl (lv_at hl 1 rfl) ?_
        refine lv_aload_n hx hb dX9_napkinOf_78 rfl (lv_at hl 1 rfl) ?_
        refine va_get (own := RX9) (ref := "NapkinSyntaxModel") (C := RX9) (T := TX9) (N := 20) hx hb hts hinX9 hown hK hP 0 VG_0 rfl 0 (Nat.le_of_ble_eq_true rfl) (hts (.fieldLink RX9 7 "NapkinSyntaxModel" "g" "[I") (by decide +kernel)) (fun _ h => h) (v := .ref (E 1)) rfl dX9_napkinOf_79 ?_
        refine z_bipush hx hb dX9_napkinOf_82 (by decide +kernel) ?_
        refine lv_iload_n hx hb dX9_napkinOf_84 rfl (lv_at hl 2 rfl) ?_
        refine z_iadd hx hb dX9_napkinOf_85 ?_
        refine z_iald hx hb hK hP 1 0 VG_1 rfl (by omega) (by omega) (by decide) dX9_napkinOf_86 ?_
        have q7 := GI_15 hG ((15) + napkin) (by omega) (by omega)
        refine ct_Vi (VG_fix E cI cC) hZo hZb hZ S0 (kX9_done l D E cI cC Z hZo hZb M (M 0 ((15) + napkin))  (fX9_done M (M 0 ((15) + napkin))).1 (fX9_done M (M 0 ((15) + napkin))).2 (Prod.ext rfl rfl)) (cwV 1 hts gX9_napkinOf_X9_done rfl rfl rfl (by decide +kernel) ⟨(Nat.le_of_ble_eq_true rfl), (Nat.le_of_ble_eq_true rfl)⟩) hK hP hD hS rfl rfl VG_0 rfl hl.1 rfl (Nat.le_of_ble_eq_true rfl) dX9_napkinOf_87 ⟨Nat.zero_le _, Nat.zero_le _⟩ (fun H locs hP hD hS => ?_)
        obtain ⟨e1, e2⟩ := Prod.mk.inj hE
        subst e2
        exact ci_i hx hb hr hlocks e1 rfl hS hP dX9_napkinOf_90
      · rw [if_neg b6] at hE
        by_cases b8 : (what = 2)
        · rw [if_pos b8] at hE
          refine z_table hx hb dX9_napkinOf_21 (k0 := 2) (tgt := 91) (by omega) b8 (by decide) (by decide) rfl rfl ?_
          refine lv_aload_n hx hb dX9_napkinOf_91 rfl (lv_at hl 1 rfl) ?_
          refine lv_aload_n hx hb dX9_napkinOf_92 rfl (lv_at hl 1 rfl) ?_
          refine va_get (own := RX9) (ref := "NapkinSyntaxModel") (C := RX9) (T := TX9) (N := 20) hx hb hts hinX9 hown hK hP 0 VG_0 rfl 0 (Nat.le_of_ble_eq_true rfl) (hts (.fieldLink RX9 7 "NapkinSyntaxModel" "g" "[I") (by decide +kernel)) (fun _ h => h) (v := .ref (E 1)) rfl dX9_napkinOf_93 ?_
          refine z_bipush hx hb dX9_napkinOf_96 (by decide +kernel) ?_
          refine lv_iload_n hx hb dX9_napkinOf_98 rfl (lv_at hl 2 rfl) ?_
          refine z_iadd hx hb dX9_napkinOf_99 ?_
          refine z_iald hx hb hK hP 1 0 VG_1 rfl (by omega) (by omega) (by decide) dX9_napkinOf_100 ?_
          have q9 := GI_25 hG ((25) + napkin) (by omega) (by omega)
          refine ct_Vi (VG_fix E cI cC) hZo hZb hZ S0 (kX9_done l D E cI cC Z hZo hZb M (M 0 ((25) + napkin))  (fX9_done M (M 0 ((25) + napkin))).1 (fX9_done M (M 0 ((25) + napkin))).2 (Prod.ext rfl rfl)) (cwV 1 hts gX9_napkinOf_X9_done rfl rfl rfl (by decide +kernel) ⟨(Nat.le_of_ble_eq_true rfl), (Nat.le_of_ble_eq_true rfl)⟩) hK hP hD hS rfl rfl VG_0 rfl hl.1 rfl (Nat.le_of_ble_eq_true rfl) dX9_napkinOf_101 ⟨Nat.zero_le _, Nat.zero_le _⟩ (fun H locs hP hD hS => ?_)
          obtain ⟨e1, e2⟩ := Prod.mk.inj hE
          subst e2
          exact ci_i hx hb hr hlocks e1 rfl hS hP dX9_napkinOf_104
        · rw [if_neg b8] at hE
          by_cases b10 : (what = 3)
          · rw [if_pos b10] at hE
            refine z_table hx hb dX9_napkinOf_21 (k0 := 3) (tgt := 105) (by omega) b10 (by decide) (by decide) rfl rfl ?_
            refine lv_aload_n hx hb dX9_napkinOf_105 rfl (lv_at hl 1 rfl) ?_
            refine lv_aload_n hx hb dX9_napkinOf_106 rfl (lv_at hl 1 rfl) ?_
            refine va_get (own := RX9) (ref := "NapkinSyntaxModel") (C := RX9) (T := TX9) (N := 20) hx hb hts hinX9 hown hK hP 0 VG_0 rfl 0 (Nat.le_of_ble_eq_true rfl) (hts (.fieldLink RX9 7 "NapkinSyntaxModel" "g" "[I") (by decide +kernel)) (fun _ h => h) (v := .ref (E 1)) rfl dX9_napkinOf_107 ?_
            refine z_bipush hx hb dX9_napkinOf_110 (by decide +kernel) ?_
            refine lv_iload_n hx hb dX9_napkinOf_112 rfl (lv_at hl 2 rfl) ?_
            refine z_iadd hx hb dX9_napkinOf_113 ?_
            refine z_iald hx hb hK hP 1 0 VG_1 rfl (by omega) (by omega) (by decide) dX9_napkinOf_114 ?_
            have q11 := GI_35 hG ((35) + napkin) (by omega) (by omega)
            refine ct_Vi (VG_fix E cI cC) hZo hZb hZ S0 (kX9_done l D E cI cC Z hZo hZb M (M 0 ((35) + napkin))  (fX9_done M (M 0 ((35) + napkin))).1 (fX9_done M (M 0 ((35) + napkin))).2 (Prod.ext rfl rfl)) (cwV 1 hts gX9_napkinOf_X9_done rfl rfl rfl (by decide +kernel) ⟨(Nat.le_of_ble_eq_true rfl), (Nat.le_of_ble_eq_true rfl)⟩) hK hP hD hS rfl rfl VG_0 rfl hl.1 rfl (Nat.le_of_ble_eq_true rfl) dX9_napkinOf_115 ⟨Nat.zero_le _, Nat.zero_le _⟩ (fun H locs hP hD hS => ?_)
            obtain ⟨e1, e2⟩ := Prod.mk.inj hE
            subst e2
            exact ci_i hx hb hr hlocks e1 rfl hS hP dX9_napkinOf_118
          · rw [if_neg b10] at hE
            by_cases b12 : (what = 4)
            · rw [if_pos b12] at hE
              refine z_table hx hb dX9_napkinOf_21 (k0 := 4) (tgt := 119) (by omega) b12 (by decide) (by decide) rfl rfl ?_
              refine lv_aload_n hx hb dX9_napkinOf_119 rfl (lv_at hl 1 rfl) ?_
              refine lv_iload_n hx hb dX9_napkinOf_120 rfl (lv_at hl 0 rfl) ?_
              refine z_iconst hx hb dX9_napkinOf_121 ?_
              refine z_icmp_ne hx hb dX9_napkinOf_122 (tgt := 129) rfl (by omega) (by omega) (fun b13 => ?_) (fun b13 => ?_)
              · rw [if_neg b13] at hE
                refine lv_iload_n hx hb dX9_napkinOf_129 rfl (lv_at hl 0 rfl) ?_
                refine z_bipush hx hb dX9_napkinOf_130 (by decide +kernel) ?_
                refine z_idiv hx hb dX9_napkinOf_132 (by omega) (by omega) (by omega) (by omega) ?_
                refine ct_Vi (VG_fix E cI cC) hZo hZb hZ S0 (kX9_done l D E cI cC Z hZo hZb M ((fX9_seatOf M napkin) / (10))  (fX9_done M ((fX9_seatOf M napkin) / (10))).1 (fX9_done M ((fX9_seatOf M napkin) / (10))).2 (Prod.ext rfl rfl)) (cwV 1 hts gX9_napkinOf_X9_done rfl rfl rfl (by decide +kernel) ⟨(Nat.le_of_ble_eq_true rfl), (Nat.le_of_ble_eq_true rfl)⟩) hK hP hD hS rfl rfl VG_0 rfl hl.1 rfl (Nat.le_of_ble_eq_true rfl) dX9_napkinOf_133 ⟨Nat.zero_le _, Nat.zero_le _⟩ (fun H locs hP hD hS => ?_)
                obtain ⟨e1, e2⟩ := Prod.mk.inj hE
                subst e2
                exact ci_i hx hb hr hlocks e1 rfl hS hP dX9_napkinOf_136
              · rw [if_pos b13] at hE
                refine z_iconst hx hb dX9_napkinOf_125 ?_
                refine lv_goto hx hb dX9_napkinOf_126 (tgt := 133) rfl ?_
                refine ct_Vi (VG_fix E cI cC) hZo hZb hZ S0 (kX9_done l D E cI cC Z hZo hZb M (-1)  (fX9_done M (-1)).1 (fX9_done M (-1)).2 (Prod.ext rfl rfl)) (cwV 1 hts gX9_napkinOf_X9_done rfl rfl rfl (by decide +kernel) ⟨(Nat.le_of_ble_eq_true rfl), (Nat.le_of_ble_eq_true rfl)⟩) hK hP hD hS rfl rfl VG_0 rfl hl.1 rfl (Nat.le_of_ble_eq_true rfl) dX9_napkinOf_133 ⟨Nat.zero_le _, Nat.zero_le _⟩ (fun H locs hP hD hS => ?_)
                obtain ⟨e1, e2⟩ := Prod.mk.inj hE
                subst e2
                exact ci_i hx hb hr hlocks e1 rfl hS hP dX9_napkinOf_136
            · rw [if_neg b12] at hE
              by_cases b14 : (what = 5)
              · rw [if_pos b14] at hE
                refine z_table hx hb dX9_napkinOf_21 (k0 := 5) (tgt := 137) (by omega) b14 (by decide) (by decide) rfl rfl ?_
                refine lv_aload_n hx hb dX9_napkinOf_137 rfl (lv_at hl 1 rfl) ?_
                refine lv_iload_n hx hb dX9_napkinOf_138 rfl (lv_at hl 0 rfl) ?_
                refine z_iconst hx hb dX9_napkinOf_139 ?_
                refine z_icmp_ne hx hb dX9_napkinOf_140 (tgt := 147) rfl (by omega) (by omega) (fun b15 => ?_) (fun b15 => ?_)
                · rw [if_neg b15] at hE
                  refine lv_iload_n hx hb dX9_napkinOf_147 rfl (lv_at hl 0 rfl) ?_
                  refine z_bipush hx hb dX9_napkinOf_148 (by decide +kernel) ?_
                  refine z_irem hx hb dX9_napkinOf_150 (by omega) (by omega) (by omega) (by omega) ?_
                  refine ct_Vi (VG_fix E cI cC) hZo hZb hZ S0 (kX9_done l D E cI cC Z hZo hZb M ((fX9_seatOf M napkin) % (10))  (fX9_done M ((fX9_seatOf M napkin) % (10))).1 (fX9_done M ((fX9_seatOf M napkin) % (10))).2 (Prod.ext rfl rfl)) (cwV 1 hts gX9_napkinOf_X9_done rfl rfl rfl (by decide +kernel) ⟨(Nat.le_of_ble_eq_true rfl), (Nat.le_of_ble_eq_true rfl)⟩) hK hP hD hS rfl rfl VG_0 rfl hl.1 rfl (Nat.le_of_ble_eq_true rfl) dX9_napkinOf_151 ⟨Nat.zero_le _, Nat.zero_le _⟩ (fun H locs hP hD hS => ?_)
                  obtain ⟨e1, e2⟩ := Prod.mk.inj hE
                  subst e2
                  exact ci_i hx hb hr hlocks e1 rfl hS hP dX9_napkinOf_154
                · rw [if_pos b15] at hE
                  refine z_iconst hx hb dX9_napkinOf_143 ?_
                  refine lv_goto hx hb dX9_napkinOf_144 (tgt := 151) rfl ?_
                  refine ct_Vi (VG_fix E cI cC) hZo hZb hZ S0 (kX9_done l D E cI cC Z hZo hZb M (-1)  (fX9_done M (-1)).1 (fX9_done M (-1)).2 (Prod.ext rfl rfl)) (cwV 1 hts gX9_napkinOf_X9_done rfl rfl rfl (by decide +kernel) ⟨(Nat.le_of_ble_eq_true rfl), (Nat.le_of_ble_eq_true rfl)⟩) hK hP hD hS rfl rfl VG_0 rfl hl.1 rfl (Nat.le_of_ble_eq_true rfl) dX9_napkinOf_151 ⟨Nat.zero_le _, Nat.zero_le _⟩ (fun H locs hP hD hS => ?_)
                  obtain ⟨e1, e2⟩ := Prod.mk.inj hE
                  subst e2
                  exact ci_i hx hb hr hlocks e1 rfl hS hP dX9_napkinOf_154
              · rw [if_neg b14] at hE
                by_cases b16 : (what = 6)
                · rw [if_pos b16] at hE
                  refine z_table hx hb dX9_napkinOf_21 (k0 := 6) (tgt := 155) (by omega) b16 (by decide) (by decide) rfl rfl ?_
                  refine lv_aload_n hx hb dX9_napkinOf_155 rfl (lv_at hl 1 rfl) ?_
                  refine lv_aload_n hx hb dX9_napkinOf_156 rfl (lv_at hl 1 rfl) ?_
                  refine va_get (own := RX9) (ref := "NapkinSyntaxModel") (C := RX9) (T := TX9) (N := 20) hx hb hts hinX9 hown hK hP 0 VG_0 rfl 0 (Nat.le_of_ble_eq_true rfl) (hts (.fieldLink RX9 7 "NapkinSyntaxModel" "g" "[I") (by decide +kernel)) (fun _ h => h) (v := .ref (E 1)) rfl dX9_napkinOf_157 ?_
                  refine z_bipush hx hb dX9_napkinOf_160 (by decide +kernel) ?_
                  refine lv_iload_n hx hb dX9_napkinOf_162 rfl (lv_at hl 2 rfl) ?_
                  refine z_iadd hx hb dX9_napkinOf_163 ?_
                  refine z_iald hx hb hK hP 1 0 VG_1 rfl (by omega) (by omega) (by decide) dX9_napkinOf_164 ?_
                  refine ct_Vi (VG_fix E cI cC) hZo hZb hZ S0 (kX9_done l D E cI cC Z hZo hZb M (M 0 ((45) + napkin))  (fX9_done M (M 0 ((45) + napkin))).1 (fX9_done M (M 0 ((45) + napkin))).2 (Prod.ext rfl rfl)) (cwV 1 hts gX9_napkinOf_X9_done rfl rfl rfl (by decide +kernel) ⟨(Nat.le_of_ble_eq_true rfl), (Nat.le_of_ble_eq_true rfl)⟩) hK hP hD hS rfl rfl VG_0 rfl hl.1 rfl (Nat.le_of_ble_eq_true rfl) dX9_napkinOf_165 ⟨Nat.zero_le _, Nat.zero_le _⟩ (fun H locs hP hD hS => ?_)
                  obtain ⟨e1, e2⟩ := Prod.mk.inj hE
                  subst e2
                  exact ci_i hx hb hr hlocks e1 rfl hS hP dX9_napkinOf_168
                · rw [if_neg b16] at hE
                  refine z_tableD hx hb dX9_napkinOf_21 (tgt := 169) (by omega) (by omega) rfl ?_
                  refine lv_aload_n hx hb dX9_napkinOf_169 rfl (lv_at hl 1 rfl) ?_
                  refine z_iconst hx hb dX9_napkinOf_170 ?_
                  refine ct_Vi (VG_fix E cI cC) hZo hZb hZ S0 (kX9_fails l D E cI cC Z hZo hZb M (2)  (fX9_fails M (2)).1 (fX9_fails M (2)).2 (Prod.ext rfl rfl)) (cwV 1 hts gX9_napkinOf_X9_fails rfl rfl rfl (by decide +kernel) ⟨(Nat.le_of_ble_eq_true rfl), (Nat.le_of_ble_eq_true rfl)⟩) hK hP hD hS rfl rfl VG_0 rfl hl.1 rfl (Nat.le_of_ble_eq_true rfl) dX9_napkinOf_171 ⟨Nat.zero_le _, Nat.zero_le _⟩ (fun H locs hP hD hS => ?_)
                  obtain ⟨e1, e2⟩ := Prod.mk.inj hE
                  subst e2
                  exact ci_i hx hb hr hlocks e1 rfl hS hP dX9_napkinOf_174
  · rw [if_pos b2] at hE
    refine lv_aload_n hx hb dX9_napkinOf_8 rfl (lv_at hl 0 rfl) ?_
    refine z_iconst hx hb dX9_napkinOf_9 ?_
    refine ct_Vi (VG_fix E cI cC) hZo hZb hZ S0 (kX9_fails l D E cI cC Z hZo hZb M (1)  (fX9_fails M (1)).1 (fX9_fails M (1)).2 (Prod.ext rfl rfl)) (cwV 1 hts gX9_napkinOf_X9_fails rfl rfl rfl (by decide +kernel) ⟨(Nat.le_of_ble_eq_true rfl), (Nat.le_of_ble_eq_true rfl)⟩) hK hP hD hS rfl rfl VG_0 rfl hl.1 rfl (Nat.le_of_ble_eq_true rfl) dX9_napkinOf_10 ⟨Nat.zero_le _, Nat.zero_le _⟩ (fun H locs hP hD hS => ?_)
    obtain ⟨e1, e2⟩ := Prod.mk.inj hE
    subst e2
    exact ci_i hx hb hr hlocks e1 rfl hS hP dX9_napkinOf_13

theorem fr_fX9_napkinOf {M : Mem} (napkin what : Int) {r : Nat} (h23 : Nat.beq r 23 = false) (h26 : Nat.beq r 26 = false) : (fX9_napkinOf M napkin what).2 r = M r := by
  unfold fX9_napkinOf
  (repeat' with_reducible refine frite_w (fun _ => ?_) (fun _ => ?_)) <;> first | with_reducible rfl | simp only [mst_o, msf_o, mcp_o, fr_fX9_done, fr_fX9_fails, h23, h26]

def fX9_tableOf (M : Mem) (table what : Int) : Int × Mem := if ((fX9_isTable table) = 0) then ((fX9_fails M (1)).1, (fX9_fails M (1)).2) else if (what = 0) then ((fX9_done M (M 0 ((55) + table))).1, (fX9_done M (M 0 ((55) + table))).2) else if (what = 1) then ((fX9_done M (fX9_countOf M table (0))).1, (fX9_done M (fX9_countOf M table (0))).2) else if (what = 2) then ((fX9_done M (fX9_countOf M table (1))).1, (fX9_done M (fX9_countOf M table (1))).2) else if (what = 3) then ((fX9_done M (fX9_countOf M table (4))).1, (fX9_done M (fX9_countOf M table (4))).2) else if (what = 4) then ((fX9_done M (M 0 ((58) + table))).1, (fX9_done M (M 0 ((58) + table))).2) else if (what = 5) then ((fX9_done M (M 0 ((61) + table))).1, (fX9_done M (M 0 ((61) + table))).2) else ((fX9_fails M (2)).1, (fX9_fails M (2)).2)
set_option maxRecDepth 100000 in
set_option maxHeartbeats 4000000 in
theorem kX9_tableOf (l : Launch) (D : va_G) (E : Nat → Nat) (cI cC : ClassId) (Z : State → Prop) (hZo : ∀ M : Mem, ZOk (VG E cI cC M) Z) (hZb : ZBl Z) (M : Mem) (table what : Int) (h1 : -2147483648 ≤ table ∧ table < 2147483648) (h2 : -2147483648 ≤ what ∧ what < 2147483648) (hG : GI M) (r : Int) (M' : Mem) (hE : fX9_tableOf M table what = (r, M')) : Ci l yX9_tableOf wsX9_tableOf 2 47 [.ref (E 0), .int (iI table), .int (iI what)] D (TY cI cC) (VG E cI cC) Z M r M' := by
  refine Ci.of (cc := cX9_tableOf) (maxL := 3) (ret := (some .int)) (by decide +kernel) rfl (Nat.le_of_ble_eq_true rfl) ?_
  intro p e s m args below meth c ls hx hb hml hr hown hts hlocks hP hK hD hZ hS hl
  have hl : lv_has ls 3 [(0, .ref (E 0)), (1, .int (iI table)), (2, .int (iI what))] := hl
  have S0 : CallFix p m c cX9_tableOf 3 s args wsX9_tableOf RX9 := ⟨hx, hb, hml, hown, hts⟩
  have hinX9 : ∀ w ∈ u_ws RX9 TX9 20, w ∈ wsX9_tableOf := by decide +kernel
  rw [fX9_tableOf] at hE
  refine lv_iload_n hx hb dX9_tableOf_0 rfl (lv_at hl 1 rfl) ?_
  refine ct_Si (VG_fix E cI cC) hZo hZb hZ S0 (kX9_isTable l D E cI cC Z hZo hZb M table (by omega) (fX9_isTable table) rfl) (va_cwS 1 hts gX9_tableOf_X9_isTable rfl rfl rfl (by decide +kernel) ⟨(Nat.le_of_ble_eq_true rfl), (Nat.le_of_ble_eq_true rfl)⟩) hK hP hD hS rfl hl.1 rfl (Nat.le_of_ble_eq_true rfl) dX9_tableOf_1 ⟨Nat.zero_le _, Nat.zero_le _⟩ (fun H locs hP hD hS => ?_)
  have q1 := dX9_isTable table
  refine z_if_ne hx hb dX9_tableOf_4 (tgt := 13) rfl (by omega) (fun b2 => ?_) (fun b2 => ?_)
  · rw [if_neg b2] at hE
    refine lv_iload_n hx hb dX9_tableOf_13 rfl (lv_at hl 2 rfl) ?_
    by_cases b3 : (what = 0)
    · rw [if_pos b3] at hE
      refine z_table hx hb dX9_tableOf_14 (k0 := 0) (tgt := 52) (by omega) b3 (by decide) (by decide) rfl rfl ?_
      refine lv_aload_n hx hb dX9_tableOf_52 rfl (lv_at hl 0 rfl) ?_
      refine lv_aload_n hx hb dX9_tableOf_53 rfl (lv_at hl 0 rfl) ?_
      refine va_get (own := RX9) (ref := "NapkinSyntaxModel") (C := RX9) (T := TX9) (N := 20) hx hb hts hinX9 hown hK hP 0 VG_0 rfl 0 (Nat.le_of_ble_eq_true rfl) (hts (.fieldLink RX9 7 "NapkinSyntaxModel" "g" "[I") (by decide +kernel)) (fun _ h => h) (v := .ref (E 1)) rfl dX9_tableOf_54 ?_
      refine z_bipush hx hb dX9_tableOf_57 (by decide +kernel) ?_
      refine lv_iload_n hx hb dX9_tableOf_59 rfl (lv_at hl 1 rfl) ?_
      refine z_iadd hx hb dX9_tableOf_60 ?_
      refine z_iald hx hb hK hP 1 0 VG_1 rfl (by omega) (by omega) (by decide) dX9_tableOf_61 ?_
      have q4 := GI_55 hG ((55) + table) (by omega) (by omega)
      refine ct_Vi (VG_fix E cI cC) hZo hZb hZ S0 (kX9_done l D E cI cC Z hZo hZb M (M 0 ((55) + table))  (fX9_done M (M 0 ((55) + table))).1 (fX9_done M (M 0 ((55) + table))).2 (Prod.ext rfl rfl)) (cwV 1 hts gX9_tableOf_X9_done rfl rfl rfl (by decide +kernel) ⟨(Nat.le_of_ble_eq_true rfl), (Nat.le_of_ble_eq_true rfl)⟩) hK hP hD hS rfl rfl VG_0 rfl hl.1 rfl (Nat.le_of_ble_eq_true rfl) dX9_tableOf_62 ⟨Nat.zero_le _, Nat.zero_le _⟩ (fun H locs hP hD hS => ?_)
      obtain ⟨e1, e2⟩ := Prod.mk.inj hE
      subst e2
      exact ci_i hx hb hr hlocks e1 rfl hS hP dX9_tableOf_65
    · rw [if_neg b3] at hE
      by_cases b5 : (what = 1)
      · rw [if_pos b5] at hE
        refine z_table hx hb dX9_tableOf_14 (k0 := 1) (tgt := 66) (by omega) b5 (by decide) (by decide) rfl rfl ?_
        refine lv_aload_n hx hb dX9_tableOf_66 rfl (lv_at hl 0 rfl) ?_
        refine lv_aload_n hx hb dX9_tableOf_67 rfl (lv_at hl 0 rfl) ?_
        refine lv_iload_n hx hb dX9_tableOf_68 rfl (lv_at hl 1 rfl) ?_
        refine z_iconst hx hb dX9_tableOf_69 ?_
        refine ct_Vi (VG_fix E cI cC) hZo hZb hZ S0 (kX9_countOf l D E cI cC Z hZo hZb M table (0) (by omega) (by omega) hG (fX9_countOf M table (0)) rfl) (cwV 2 hts gX9_tableOf_X9_countOf rfl rfl rfl (by decide +kernel) ⟨(Nat.le_of_ble_eq_true rfl), (Nat.le_of_ble_eq_true rfl)⟩) hK hP hD hS rfl rfl VG_0 rfl hl.1 rfl (Nat.le_of_ble_eq_true rfl) dX9_tableOf_70 ⟨Nat.zero_le _, Nat.zero_le _⟩ (fun H locs hP hD hS => ?_)
        have q6 := rg_X9_countOf hG table (0) (by omega)
        refine ct_Vi (VG_fix E cI cC) hZo hZb hZ S0 (kX9_done l D E cI cC Z hZo hZb M (fX9_countOf M table (0))  (fX9_done M (fX9_countOf M table (0))).1 (fX9_done M (fX9_countOf M table (0))).2 (Prod.ext rfl rfl)) (cwV 1 hts gX9_tableOf_X9_done rfl rfl rfl (by decide +kernel) ⟨(Nat.le_of_ble_eq_true rfl), (Nat.le_of_ble_eq_true rfl)⟩) hK hP hD hS rfl rfl VG_0 rfl hl.1 rfl (Nat.le_of_ble_eq_true rfl) dX9_tableOf_73 ⟨Nat.zero_le _, Nat.zero_le _⟩ (fun H locs hP hD hS => ?_)
        obtain ⟨e1, e2⟩ := Prod.mk.inj hE
        subst e2
        exact ci_i hx hb hr hlocks e1 rfl hS hP dX9_tableOf_76
      · rw [if_neg b5] at hE
        by_cases b7 : (what = 2)
        · rw [if_pos b7] at hE
          refine z_table hx hb dX9_tableOf_14 (k0 := 2) (tgt := 77) (by omega) b7 (by decide) (by decide) rfl rfl ?_
          refine lv_aload_n hx hb dX9_tableOf_77 rfl (lv_at hl 0 rfl) ?_
          refine lv_aload_n hx hb dX9_tableOf_78 rfl (lv_at hl 0 rfl) ?_
          refine lv_iload_n hx hb dX9_tableOf_79 rfl (lv_at hl 1 rfl) ?_
          refine z_iconst hx hb dX9_tableOf_80 ?_
          refine ct_Vi (VG_fix E cI cC) hZo hZb hZ S0 (kX9_countOf l D E cI cC Z hZo hZb M table (1) (by omega) (by omega) hG (fX9_countOf M table (1)) rfl) (cwV 2 hts gX9_tableOf_X9_countOf rfl rfl rfl (by decide +kernel) ⟨(Nat.le_of_ble_eq_true rfl), (Nat.le_of_ble_eq_true rfl)⟩) hK hP hD hS rfl rfl VG_0 rfl hl.1 rfl (Nat.le_of_ble_eq_true rfl) dX9_tableOf_81 ⟨Nat.zero_le _, Nat.zero_le _⟩ (fun H locs hP hD hS => ?_)
          have q8 := rg_X9_countOf hG table (1) (by omega)
          refine ct_Vi (VG_fix E cI cC) hZo hZb hZ S0 (kX9_done l D E cI cC Z hZo hZb M (fX9_countOf M table (1))  (fX9_done M (fX9_countOf M table (1))).1 (fX9_done M (fX9_countOf M table (1))).2 (Prod.ext rfl rfl)) (cwV 1 hts gX9_tableOf_X9_done rfl rfl rfl (by decide +kernel) ⟨(Nat.le_of_ble_eq_true rfl), (Nat.le_of_ble_eq_true rfl)⟩) hK hP hD hS rfl rfl VG_0 rfl hl.1 rfl (Nat.le_of_ble_eq_true rfl) dX9_tableOf_84 ⟨Nat.zero_le _, Nat.zero_le _⟩ (fun H locs hP hD hS => ?_)
          obtain ⟨e1, e2⟩ := Prod.mk.inj hE
          subst e2
          exact ci_i hx hb hr hlocks e1 rfl hS hP dX9_tableOf_87
        · rw [if_neg b7] at hE
          by_cases b9 : (what = 3)
          · rw [if_pos b9] at hE
            refine z_table hx hb dX9_tableOf_14 (k0 := 3) (tgt := 88) (by omega) b9 (by decide) (by decide) rfl rfl ?_
            refine lv_aload_n hx hb dX9_tableOf_88 rfl (lv_at hl 0 rfl) ?_
            refine lv_aload_n hx hb dX9_tableOf_89 rfl (lv_at hl 0 rfl) ?_
            refine lv_iload_n hx hb dX9_tableOf_90 rfl (lv_at hl 1 rfl) ?_
            refine z_iconst hx hb dX9_tableOf_91 ?_
            refine ct_Vi (VG_fix E cI cC) hZo hZb hZ S0 (kX9_countOf l D E cI cC Z hZo hZb M table (4) (by omega) (by omega) hG (fX9_countOf M table (4)) rfl) (cwV 2 hts gX9_tableOf_X9_countOf rfl rfl rfl (by decide +kernel) ⟨(Nat.le_of_ble_eq_true rfl), (Nat.le_of_ble_eq_true rfl)⟩) hK hP hD hS rfl rfl VG_0 rfl hl.1 rfl (Nat.le_of_ble_eq_true rfl) dX9_tableOf_92 ⟨Nat.zero_le _, Nat.zero_le _⟩ (fun H locs hP hD hS => ?_)
            have q10 := rg_X9_countOf hG table (4) (by omega)
            refine ct_Vi (VG_fix E cI cC) hZo hZb hZ S0 (kX9_done l D E cI cC Z hZo hZb M (fX9_countOf M table (4))  (fX9_done M (fX9_countOf M table (4))).1 (fX9_done M (fX9_countOf M table (4))).2 (Prod.ext rfl rfl)) (cwV 1 hts gX9_tableOf_X9_done rfl rfl rfl (by decide +kernel) ⟨(Nat.le_of_ble_eq_true rfl), (Nat.le_of_ble_eq_true rfl)⟩) hK hP hD hS rfl rfl VG_0 rfl hl.1 rfl (Nat.le_of_ble_eq_true rfl) dX9_tableOf_95 ⟨Nat.zero_le _, Nat.zero_le _⟩ (fun H locs hP hD hS => ?_)
            obtain ⟨e1, e2⟩ := Prod.mk.inj hE
            subst e2
            exact ci_i hx hb hr hlocks e1 rfl hS hP dX9_tableOf_98
          · rw [if_neg b9] at hE
            by_cases b11 : (what = 4)
            · rw [if_pos b11] at hE
              refine z_table hx hb dX9_tableOf_14 (k0 := 4) (tgt := 99) (by omega) b11 (by decide) (by decide) rfl rfl ?_
              refine lv_aload_n hx hb dX9_tableOf_99 rfl (lv_at hl 0 rfl) ?_
              refine lv_aload_n hx hb dX9_tableOf_100 rfl (lv_at hl 0 rfl) ?_
              refine va_get (own := RX9) (ref := "NapkinSyntaxModel") (C := RX9) (T := TX9) (N := 20) hx hb hts hinX9 hown hK hP 0 VG_0 rfl 0 (Nat.le_of_ble_eq_true rfl) (hts (.fieldLink RX9 7 "NapkinSyntaxModel" "g" "[I") (by decide +kernel)) (fun _ h => h) (v := .ref (E 1)) rfl dX9_tableOf_101 ?_
              refine z_bipush hx hb dX9_tableOf_104 (by decide +kernel) ?_
              refine lv_iload_n hx hb dX9_tableOf_106 rfl (lv_at hl 1 rfl) ?_
              refine z_iadd hx hb dX9_tableOf_107 ?_
              refine z_iald hx hb hK hP 1 0 VG_1 rfl (by omega) (by omega) (by decide) dX9_tableOf_108 ?_
              refine ct_Vi (VG_fix E cI cC) hZo hZb hZ S0 (kX9_done l D E cI cC Z hZo hZb M (M 0 ((58) + table))  (fX9_done M (M 0 ((58) + table))).1 (fX9_done M (M 0 ((58) + table))).2 (Prod.ext rfl rfl)) (cwV 1 hts gX9_tableOf_X9_done rfl rfl rfl (by decide +kernel) ⟨(Nat.le_of_ble_eq_true rfl), (Nat.le_of_ble_eq_true rfl)⟩) hK hP hD hS rfl rfl VG_0 rfl hl.1 rfl (Nat.le_of_ble_eq_true rfl) dX9_tableOf_109 ⟨Nat.zero_le _, Nat.zero_le _⟩ (fun H locs hP hD hS => ?_)
              obtain ⟨e1, e2⟩ := Prod.mk.inj hE
              subst e2
              exact ci_i hx hb hr hlocks e1 rfl hS hP dX9_tableOf_112
            · rw [if_neg b11] at hE
              by_cases b12 : (what = 5)
              · rw [if_pos b12] at hE
                refine z_table hx hb dX9_tableOf_14 (k0 := 5) (tgt := 113) (by omega) b12 (by decide) (by decide) rfl rfl ?_
                refine lv_aload_n hx hb dX9_tableOf_113 rfl (lv_at hl 0 rfl) ?_
                refine lv_aload_n hx hb dX9_tableOf_114 rfl (lv_at hl 0 rfl) ?_
                refine va_get (own := RX9) (ref := "NapkinSyntaxModel") (C := RX9) (T := TX9) (N := 20) hx hb hts hinX9 hown hK hP 0 VG_0 rfl 0 (Nat.le_of_ble_eq_true rfl) (hts (.fieldLink RX9 7 "NapkinSyntaxModel" "g" "[I") (by decide +kernel)) (fun _ h => h) (v := .ref (E 1)) rfl dX9_tableOf_115 ?_
                refine z_bipush hx hb dX9_tableOf_118 (by decide +kernel) ?_
                refine lv_iload_n hx hb dX9_tableOf_120 rfl (lv_at hl 1 rfl) ?_
                refine z_iadd hx hb dX9_tableOf_121 ?_
                refine z_iald hx hb hK hP 1 0 VG_1 rfl (by omega) (by omega) (by decide) dX9_tableOf_122 ?_
                refine ct_Vi (VG_fix E cI cC) hZo hZb hZ S0 (kX9_done l D E cI cC Z hZo hZb M (M 0 ((61) + table))  (fX9_done M (M 0 ((61) + table))).1 (fX9_done M (M 0 ((61) + table))).2 (Prod.ext rfl rfl)) (cwV 1 hts gX9_tableOf_X9_done rfl rfl rfl (by decide +kernel) ⟨(Nat.le_of_ble_eq_true rfl), (Nat.le_of_ble_eq_true rfl)⟩) hK hP hD hS rfl rfl VG_0 rfl hl.1 rfl (Nat.le_of_ble_eq_true rfl) dX9_tableOf_123 ⟨Nat.zero_le _, Nat.zero_le _⟩ (fun H locs hP hD hS => ?_)
                obtain ⟨e1, e2⟩ := Prod.mk.inj hE
                subst e2
                exact ci_i hx hb hr hlocks e1 rfl hS hP dX9_tableOf_126
              · rw [if_neg b12] at hE
                refine z_tableD hx hb dX9_tableOf_14 (tgt := 127) (by omega) (by omega) rfl ?_
                refine lv_aload_n hx hb dX9_tableOf_127 rfl (lv_at hl 0 rfl) ?_
                refine z_iconst hx hb dX9_tableOf_128 ?_
                refine ct_Vi (VG_fix E cI cC) hZo hZb hZ S0 (kX9_fails l D E cI cC Z hZo hZb M (2)  (fX9_fails M (2)).1 (fX9_fails M (2)).2 (Prod.ext rfl rfl)) (cwV 1 hts gX9_tableOf_X9_fails rfl rfl rfl (by decide +kernel) ⟨(Nat.le_of_ble_eq_true rfl), (Nat.le_of_ble_eq_true rfl)⟩) hK hP hD hS rfl rfl VG_0 rfl hl.1 rfl (Nat.le_of_ble_eq_true rfl) dX9_tableOf_129 ⟨Nat.zero_le _, Nat.zero_le _⟩ (fun H locs hP hD hS => ?_)
                obtain ⟨e1, e2⟩ := Prod.mk.inj hE
                subst e2
                exact ci_i hx hb hr hlocks e1 rfl hS hP dX9_tableOf_132
  · rw [if_pos b2] at hE
    refine lv_aload_n hx hb dX9_tableOf_7 rfl (lv_at hl 0 rfl) ?_
    refine z_iconst hx hb dX9_tableOf_8 ?_
    refine ct_Vi (VG_fix E cI cC) hZo hZb hZ S0 (kX9_fails l D E cI cC Z hZo hZb M (1)  (fX9_fails M (1)).1 (fX9_fails M (1)).2 (Prod.ext rfl rfl)) (cwV 1 hts gX9_tableOf_X9_fails rfl rfl rfl (by decide +kernel) ⟨(Nat.le_of_ble_eq_true rfl), (Nat.le_of_ble_eq_true rfl)⟩) hK hP hD hS rfl rfl VG_0 rfl hl.1 rfl (Nat.le_of_ble_eq_true rfl) dX9_tableOf_9 ⟨Nat.zero_le _, Nat.zero_le _⟩ (fun H locs hP hD hS => ?_)
    obtain ⟨e1, e2⟩ := Prod.mk.inj hE
    subst e2
    exact ci_i hx hb hr hlocks e1 rfl hS hP dX9_tableOf_12

theorem fr_fX9_tableOf {M : Mem} (table what : Int) {r : Nat} (h23 : Nat.beq r 23 = false) (h26 : Nat.beq r 26 = false) : (fX9_tableOf M table what).2 r = M r := by
  unfold fX9_tableOf
  (repeat' with_reducible refine frite_w (fun _ => ?_) (fun _ => ?_)) <;> first | with_reducible rfl | simp only [mst_o, msf_o, mcp_o, fr_fX9_done, fr_fX9_fails, h23, h26]

def fX9_seat (M : Mem) (table place : Int) : Int × Mem := if ((fX9_isTable table) = 0) then ((fX9_fails M (1)).1, (fX9_fails M (1)).2) else if ((fX9_in place (0) ((M 0 ((55) + table)) - (1))) = 0) then ((fX9_fails M (2)).1, (fX9_fails M (2)).2) else ((fX9_done M (fX9_at M table place)).1, (fX9_done M (fX9_at M table place)).2)
set_option maxRecDepth 100000 in
set_option maxHeartbeats 4000000 in
theorem kX9_seat (l : Launch) (D : va_G) (E : Nat → Nat) (cI cC : ClassId) (Z : State → Prop) (hZo : ∀ M : Mem, ZOk (VG E cI cC M) Z) (hZb : ZBl Z) (M : Mem) (table place : Int) (h1 : -2147483648 ≤ table ∧ table < 2147483648) (h2 : -2147483648 ≤ place ∧ place < 2147483648) (hG : GI M) (r : Int) (M' : Mem) (hE : fX9_seat M table place = (r, M')) : Ci l yX9_seat wsX9_seat 2 42 [.ref (E 0), .int (iI table), .int (iI place)] D (TY cI cC) (VG E cI cC) Z M r M' := by
  refine Ci.of (cc := cX9_seat) (maxL := 3) (ret := (some .int)) (by decide +kernel) rfl (Nat.le_of_ble_eq_true rfl) ?_
  intro p e s m args below meth c ls hx hb hml hr hown hts hlocks hP hK hD hZ hS hl
  have hl : lv_has ls 3 [(0, .ref (E 0)), (1, .int (iI table)), (2, .int (iI place))] := hl
  have S0 : CallFix p m c cX9_seat 3 s args wsX9_seat RX9 := ⟨hx, hb, hml, hown, hts⟩
  have hinX9 : ∀ w ∈ u_ws RX9 TX9 20, w ∈ wsX9_seat := by decide +kernel
  rw [fX9_seat] at hE
  refine lv_iload_n hx hb dX9_seat_0 rfl (lv_at hl 1 rfl) ?_
  refine ct_Si (VG_fix E cI cC) hZo hZb hZ S0 (kX9_isTable l D E cI cC Z hZo hZb M table (by omega) (fX9_isTable table) rfl) (va_cwS 1 hts gX9_seat_X9_isTable rfl rfl rfl (by decide +kernel) ⟨(Nat.le_of_ble_eq_true rfl), (Nat.le_of_ble_eq_true rfl)⟩) hK hP hD hS rfl hl.1 rfl (Nat.le_of_ble_eq_true rfl) dX9_seat_1 ⟨Nat.zero_le _, Nat.zero_le _⟩ (fun H locs hP hD hS => ?_)
  have q1 := dX9_isTable table
  refine z_if_ne hx hb dX9_seat_4 (tgt := 13) rfl (by omega) (fun b2 => ?_) (fun b2 => ?_)
  · rw [if_neg b2] at hE
    refine lv_iload_n hx hb dX9_seat_13 rfl (lv_at hl 2 rfl) ?_
    refine z_iconst hx hb dX9_seat_14 ?_
    refine lv_aload_n hx hb dX9_seat_15 rfl (lv_at hl 0 rfl) ?_
    refine va_get (own := RX9) (ref := "NapkinSyntaxModel") (C := RX9) (T := TX9) (N := 20) hx hb hts hinX9 hown hK hP 0 VG_0 rfl 0 (Nat.le_of_ble_eq_true rfl) (hts (.fieldLink RX9 7 "NapkinSyntaxModel" "g" "[I") (by decide +kernel)) (fun _ h => h) (v := .ref (E 1)) rfl dX9_seat_16 ?_
    refine z_bipush hx hb dX9_seat_19 (by decide +kernel) ?_
    refine lv_iload_n hx hb dX9_seat_21 rfl (lv_at hl 1 rfl) ?_
    refine z_iadd hx hb dX9_seat_22 ?_
    refine z_iald hx hb hK hP 1 0 VG_1 rfl (by omega) (by omega) (by decide) dX9_seat_23 ?_
    have q3 := GI_55 hG ((55) + table) (by omega) (by omega)
    refine z_iconst hx hb dX9_seat_24 ?_
    refine z_isub hx hb dX9_seat_25 ?_
    refine ct_Si (VG_fix E cI cC) hZo hZb hZ S0 (kX9_in l D E cI cC Z hZo hZb M place (0) ((M 0 ((55) + table)) - (1)) (by omega) (by omega) (by omega) (fX9_in place (0) ((M 0 ((55) + table)) - (1))) rfl) (va_cwS 3 hts gX9_seat_X9_in rfl rfl rfl (by decide +kernel) ⟨(Nat.le_of_ble_eq_true rfl), (Nat.le_of_ble_eq_true rfl)⟩) hK hP hD hS rfl hl.1 rfl (Nat.le_of_ble_eq_true rfl) dX9_seat_26 ⟨Nat.zero_le _, Nat.zero_le _⟩ (fun H locs hP hD hS => ?_)
    have q4 := dX9_in place (0) ((M 0 ((55) + table)) - (1))
    refine z_if_eq hx hb dX9_seat_29 (tgt := 45) rfl (by omega) (fun b5 => ?_) (fun b5 => ?_)
    · rw [if_pos b5] at hE
      refine lv_aload_n hx hb dX9_seat_45 rfl (lv_at hl 0 rfl) ?_
      refine z_iconst hx hb dX9_seat_46 ?_
      refine ct_Vi (VG_fix E cI cC) hZo hZb hZ S0 (kX9_fails l D E cI cC Z hZo hZb M (2)  (fX9_fails M (2)).1 (fX9_fails M (2)).2 (Prod.ext rfl rfl)) (cwV 1 hts gX9_seat_X9_fails rfl rfl rfl (by decide +kernel) ⟨(Nat.le_of_ble_eq_true rfl), (Nat.le_of_ble_eq_true rfl)⟩) hK hP hD hS rfl rfl VG_0 rfl hl.1 rfl (Nat.le_of_ble_eq_true rfl) dX9_seat_47 ⟨Nat.zero_le _, Nat.zero_le _⟩ (fun H locs hP hD hS => ?_)
      obtain ⟨e1, e2⟩ := Prod.mk.inj hE
      subst e2
      exact ci_i hx hb hr hlocks e1 rfl hS hP dX9_seat_50
    · rw [if_neg b5] at hE
      refine lv_aload_n hx hb dX9_seat_32 rfl (lv_at hl 0 rfl) ?_
      refine lv_aload_n hx hb dX9_seat_33 rfl (lv_at hl 0 rfl) ?_
      refine lv_iload_n hx hb dX9_seat_34 rfl (lv_at hl 1 rfl) ?_
      refine lv_iload_n hx hb dX9_seat_35 rfl (lv_at hl 2 rfl) ?_
      refine ct_Vi (VG_fix E cI cC) hZo hZb hZ S0 (kX9_at l D E cI cC Z hZo hZb M table place (by omega) (by omega) (fX9_at M table place) rfl) (cwV 2 hts gX9_seat_X9_at rfl rfl rfl (by decide +kernel) ⟨(Nat.le_of_ble_eq_true rfl), (Nat.le_of_ble_eq_true rfl)⟩) hK hP hD hS rfl rfl VG_0 rfl hl.1 rfl (Nat.le_of_ble_eq_true rfl) dX9_seat_36 ⟨Nat.zero_le _, Nat.zero_le _⟩ (fun H locs hP hD hS => ?_)
      have q6 := rg_X9_at hG table place (by omega) (by omega)
      refine ct_Vi (VG_fix E cI cC) hZo hZb hZ S0 (kX9_done l D E cI cC Z hZo hZb M (fX9_at M table place)  (fX9_done M (fX9_at M table place)).1 (fX9_done M (fX9_at M table place)).2 (Prod.ext rfl rfl)) (cwV 1 hts gX9_seat_X9_done rfl rfl rfl (by decide +kernel) ⟨(Nat.le_of_ble_eq_true rfl), (Nat.le_of_ble_eq_true rfl)⟩) hK hP hD hS rfl rfl VG_0 rfl hl.1 rfl (Nat.le_of_ble_eq_true rfl) dX9_seat_39 ⟨Nat.zero_le _, Nat.zero_le _⟩ (fun H locs hP hD hS => ?_)
      refine lv_goto hx hb dX9_seat_42 (tgt := 50) rfl ?_
      obtain ⟨e1, e2⟩ := Prod.mk.inj hE
      subst e2
      exact ci_i hx hb hr hlocks e1 rfl hS hP dX9_seat_50
  · rw [if_pos b2] at hE
    refine lv_aload_n hx hb dX9_seat_7 rfl (lv_at hl 0 rfl) ?_
    refine z_iconst hx hb dX9_seat_8 ?_
    refine ct_Vi (VG_fix E cI cC) hZo hZb hZ S0 (kX9_fails l D E cI cC Z hZo hZb M (1)  (fX9_fails M (1)).1 (fX9_fails M (1)).2 (Prod.ext rfl rfl)) (cwV 1 hts gX9_seat_X9_fails rfl rfl rfl (by decide +kernel) ⟨(Nat.le_of_ble_eq_true rfl), (Nat.le_of_ble_eq_true rfl)⟩) hK hP hD hS rfl rfl VG_0 rfl hl.1 rfl (Nat.le_of_ble_eq_true rfl) dX9_seat_9 ⟨Nat.zero_le _, Nat.zero_le _⟩ (fun H locs hP hD hS => ?_)
    obtain ⟨e1, e2⟩ := Prod.mk.inj hE
    subst e2
    exact ci_i hx hb hr hlocks e1 rfl hS hP dX9_seat_12

theorem fr_fX9_seat {M : Mem} (table place : Int) {r : Nat} (h23 : Nat.beq r 23 = false) (h26 : Nat.beq r 26 = false) : (fX9_seat M table place).2 r = M r := by
  unfold fX9_seat
  (repeat' with_reducible refine frite_w (fun _ => ?_) (fun _ => ?_)) <;> first | with_reducible rfl | simp only [mst_o, msf_o, mcp_o, fr_fX9_done, fr_fX9_fails, h23, h26]

def fX9_said (M : Mem) (table number : Int) : Int × Mem := if ((fX9_isTable table) = 0) then ((fX9_fails M (1)).1, (fX9_fails M (1)).2) else if ((fX9_in number (0) ((fX9_countOf M table (0)) - (1))) = 0) then ((fX9_fails M (2)).1, (fX9_fails M (2)).2) else ((fX9_done M (fX9_saidAt M table number)).1, (fX9_done M (fX9_saidAt M table number)).2)
set_option maxRecDepth 100000 in
set_option maxHeartbeats 4000000 in
theorem kX9_said (l : Launch) (D : va_G) (E : Nat → Nat) (cI cC : ClassId) (Z : State → Prop) (hZo : ∀ M : Mem, ZOk (VG E cI cC M) Z) (hZb : ZBl Z) (M : Mem) (table number : Int) (h1 : -2147483648 ≤ table ∧ table < 2147483648) (h2 : -2147483648 ≤ number ∧ number < 2147483648) (hG : GI M) (r : Int) (M' : Mem) (hE : fX9_said M table number = (r, M')) : Ci l yX9_said wsX9_said 2 47 [.ref (E 0), .int (iI table), .int (iI number)] D (TY cI cC) (VG E cI cC) Z M r M' := by
  refine Ci.of (cc := cX9_said) (maxL := 3) (ret := (some .int)) (by decide +kernel) rfl (Nat.le_of_ble_eq_true rfl) ?_
  intro p e s m args below meth c ls hx hb hml hr hown hts hlocks hP hK hD hZ hS hl
  have hl : lv_has ls 3 [(0, .ref (E 0)), (1, .int (iI table)), (2, .int (iI number))] := hl
  have S0 : CallFix p m c cX9_said 3 s args wsX9_said RX9 := ⟨hx, hb, hml, hown, hts⟩
  rw [fX9_said] at hE
  refine lv_iload_n hx hb dX9_said_0 rfl (lv_at hl 1 rfl) ?_
  refine ct_Si (VG_fix E cI cC) hZo hZb hZ S0 (kX9_isTable l D E cI cC Z hZo hZb M table (by omega) (fX9_isTable table) rfl) (va_cwS 1 hts gX9_said_X9_isTable rfl rfl rfl (by decide +kernel) ⟨(Nat.le_of_ble_eq_true rfl), (Nat.le_of_ble_eq_true rfl)⟩) hK hP hD hS rfl hl.1 rfl (Nat.le_of_ble_eq_true rfl) dX9_said_1 ⟨Nat.zero_le _, Nat.zero_le _⟩ (fun H locs hP hD hS => ?_)
  have q1 := dX9_isTable table
  refine z_if_ne hx hb dX9_said_4 (tgt := 13) rfl (by omega) (fun b2 => ?_) (fun b2 => ?_)
  · rw [if_neg b2] at hE
    refine lv_iload_n hx hb dX9_said_13 rfl (lv_at hl 2 rfl) ?_
    refine z_iconst hx hb dX9_said_14 ?_
    refine lv_aload_n hx hb dX9_said_15 rfl (lv_at hl 0 rfl) ?_
    refine lv_iload_n hx hb dX9_said_16 rfl (lv_at hl 1 rfl) ?_
    refine z_iconst hx hb dX9_said_17 ?_
    refine ct_Vi (VG_fix E cI cC) hZo hZb hZ S0 (kX9_countOf l D E cI cC Z hZo hZb M table (0) (by omega) (by omega) hG (fX9_countOf M table (0)) rfl) (cwV 2 hts gX9_said_X9_countOf rfl rfl rfl (by decide +kernel) ⟨(Nat.le_of_ble_eq_true rfl), (Nat.le_of_ble_eq_true rfl)⟩) hK hP hD hS rfl rfl VG_0 rfl hl.1 rfl (Nat.le_of_ble_eq_true rfl) dX9_said_18 ⟨Nat.zero_le _, Nat.zero_le _⟩ (fun H locs hP hD hS => ?_)
    have q3 := rg_X9_countOf hG table (0) (by omega)
    refine z_iconst hx hb dX9_said_21 ?_
    refine z_isub hx hb dX9_said_22 ?_
    refine ct_Si (VG_fix E cI cC) hZo hZb hZ S0 (kX9_in l D E cI cC Z hZo hZb M number (0) ((fX9_countOf M table (0)) - (1)) (by omega) (by omega) (by omega) (fX9_in number (0) ((fX9_countOf M table (0)) - (1))) rfl) (va_cwS 3 hts gX9_said_X9_in rfl rfl rfl (by decide +kernel) ⟨(Nat.le_of_ble_eq_true rfl), (Nat.le_of_ble_eq_true rfl)⟩) hK hP hD hS rfl hl.1 rfl (Nat.le_of_ble_eq_true rfl) dX9_said_23 ⟨Nat.zero_le _, Nat.zero_le _⟩ (fun H locs hP hD hS => ?_)
    have q4 := dX9_in number (0) ((fX9_countOf M table (0)) - (1))
    refine z_if_eq hx hb dX9_said_26 (tgt := 42) rfl (by omega) (fun b5 => ?_) (fun b5 => ?_)
    · rw [if_pos b5] at hE
      refine lv_aload_n hx hb dX9_said_42 rfl (lv_at hl 0 rfl) ?_
      refine z_iconst hx hb dX9_said_43 ?_
      refine ct_Vi (VG_fix E cI cC) hZo hZb hZ S0 (kX9_fails l D E cI cC Z hZo hZb M (2)  (fX9_fails M (2)).1 (fX9_fails M (2)).2 (Prod.ext rfl rfl)) (cwV 1 hts gX9_said_X9_fails rfl rfl rfl (by decide +kernel) ⟨(Nat.le_of_ble_eq_true rfl), (Nat.le_of_ble_eq_true rfl)⟩) hK hP hD hS rfl rfl VG_0 rfl hl.1 rfl (Nat.le_of_ble_eq_true rfl) dX9_said_44 ⟨Nat.zero_le _, Nat.zero_le _⟩ (fun H locs hP hD hS => ?_)
      obtain ⟨e1, e2⟩ := Prod.mk.inj hE
      subst e2
      exact ci_i hx hb hr hlocks e1 rfl hS hP dX9_said_47
    · rw [if_neg b5] at hE
      refine lv_aload_n hx hb dX9_said_29 rfl (lv_at hl 0 rfl) ?_
      refine lv_aload_n hx hb dX9_said_30 rfl (lv_at hl 0 rfl) ?_
      refine lv_iload_n hx hb dX9_said_31 rfl (lv_at hl 1 rfl) ?_
      refine lv_iload_n hx hb dX9_said_32 rfl (lv_at hl 2 rfl) ?_
      refine ct_Vi (VG_fix E cI cC) hZo hZb hZ S0 (kX9_saidAt l D E cI cC Z hZo hZb M table number (by omega) (by omega) hG (fX9_saidAt M table number) rfl) (cwV 2 hts gX9_said_X9_saidAt rfl rfl rfl (by decide +kernel) ⟨(Nat.le_of_ble_eq_true rfl), (Nat.le_of_ble_eq_true rfl)⟩) hK hP hD hS rfl rfl VG_0 rfl hl.1 rfl (Nat.le_of_ble_eq_true rfl) dX9_said_33 ⟨Nat.zero_le _, Nat.zero_le _⟩ (fun H locs hP hD hS => ?_)
      have q6 := rg_X9_saidAt hG table number (by omega)
      refine ct_Vi (VG_fix E cI cC) hZo hZb hZ S0 (kX9_done l D E cI cC Z hZo hZb M (fX9_saidAt M table number)  (fX9_done M (fX9_saidAt M table number)).1 (fX9_done M (fX9_saidAt M table number)).2 (Prod.ext rfl rfl)) (cwV 1 hts gX9_said_X9_done rfl rfl rfl (by decide +kernel) ⟨(Nat.le_of_ble_eq_true rfl), (Nat.le_of_ble_eq_true rfl)⟩) hK hP hD hS rfl rfl VG_0 rfl hl.1 rfl (Nat.le_of_ble_eq_true rfl) dX9_said_36 ⟨Nat.zero_le _, Nat.zero_le _⟩ (fun H locs hP hD hS => ?_)
      refine lv_goto hx hb dX9_said_39 (tgt := 47) rfl ?_
      obtain ⟨e1, e2⟩ := Prod.mk.inj hE
      subst e2
      exact ci_i hx hb hr hlocks e1 rfl hS hP dX9_said_47
  · rw [if_pos b2] at hE
    refine lv_aload_n hx hb dX9_said_7 rfl (lv_at hl 0 rfl) ?_
    refine z_iconst hx hb dX9_said_8 ?_
    refine ct_Vi (VG_fix E cI cC) hZo hZb hZ S0 (kX9_fails l D E cI cC Z hZo hZb M (1)  (fX9_fails M (1)).1 (fX9_fails M (1)).2 (Prod.ext rfl rfl)) (cwV 1 hts gX9_said_X9_fails rfl rfl rfl (by decide +kernel) ⟨(Nat.le_of_ble_eq_true rfl), (Nat.le_of_ble_eq_true rfl)⟩) hK hP hD hS rfl rfl VG_0 rfl hl.1 rfl (Nat.le_of_ble_eq_true rfl) dX9_said_9 ⟨Nat.zero_le _, Nat.zero_le _⟩ (fun H locs hP hD hS => ?_)
    obtain ⟨e1, e2⟩ := Prod.mk.inj hE
    subst e2
    exact ci_i hx hb hr hlocks e1 rfl hS hP dX9_said_12

theorem fr_fX9_said {M : Mem} (table number : Int) {r : Nat} (h23 : Nat.beq r 23 = false) (h26 : Nat.beq r 26 = false) : (fX9_said M table number).2 r = M r := by
  unfold fX9_said
  (repeat' with_reducible refine frite_w (fun _ => ?_) (fun _ => ?_)) <;> first | with_reducible rfl | simp only [mst_o, msf_o, mcp_o, fr_fX9_done, fr_fX9_fails, h23, h26]

def fX9_wrong (M : Mem) (table : Int) : Int × Mem := if ((fX9_isTable table) = 0) then ((fX9_fails M (1)).1, (fX9_fails M (1)).2) else ((fX9_done M (fX9_wrongAt M table)).1, (fX9_done M (fX9_wrongAt M table)).2)
set_option maxRecDepth 100000 in
set_option maxHeartbeats 4000000 in
theorem kX9_wrong (l : Launch) (D : va_G) (E : Nat → Nat) (cI cC : ClassId) (Z : State → Prop) (hZo : ∀ M : Mem, ZOk (VG E cI cC M) Z) (hZb : ZBl Z) (M : Mem) (table : Int) (h1 : -2147483648 ≤ table ∧ table < 2147483648) (hG : GI M) (r : Int) (M' : Mem) (hE : fX9_wrong M table = (r, M')) : Ci l yX9_wrong wsX9_wrong 4 93 [.ref (E 0), .int (iI table)] D (TY cI cC) (VG E cI cC) Z M r M' := by
  refine Ci.of (cc := cX9_wrong) (maxL := 2) (ret := (some .int)) (by decide +kernel) rfl (Nat.le_of_ble_eq_true rfl) ?_
  intro p e s m args below meth c ls hx hb hml hr hown hts hlocks hP hK hD hZ hS hl
  have hl : lv_has ls 2 [(0, .ref (E 0)), (1, .int (iI table))] := hl
  have S0 : CallFix p m c cX9_wrong 2 s args wsX9_wrong RX9 := ⟨hx, hb, hml, hown, hts⟩
  rw [fX9_wrong] at hE
  refine lv_iload_n hx hb dX9_wrong_0 rfl (lv_at hl 1 rfl) ?_
  refine ct_Si (VG_fix E cI cC) hZo hZb hZ S0 (kX9_isTable l D E cI cC Z hZo hZb M table (by omega) (fX9_isTable table) rfl) (va_cwS 1 hts gX9_wrong_X9_isTable rfl rfl rfl (by decide +kernel) ⟨(Nat.le_of_ble_eq_true rfl), (Nat.le_of_ble_eq_true rfl)⟩) hK hP hD hS rfl hl.1 rfl (Nat.le_of_ble_eq_true rfl) dX9_wrong_1 ⟨Nat.zero_le _, Nat.zero_le _⟩ (fun H locs hP hD hS => ?_)
  have q1 := dX9_isTable table
  refine z_if_eq hx hb dX9_wrong_4 (tgt := 19) rfl (by omega) (fun b2 => ?_) (fun b2 => ?_)
  · rw [if_pos b2] at hE
    refine lv_aload_n hx hb dX9_wrong_19 rfl (lv_at hl 0 rfl) ?_
    refine z_iconst hx hb dX9_wrong_20 ?_
    refine ct_Vi (VG_fix E cI cC) hZo hZb hZ S0 (kX9_fails l D E cI cC Z hZo hZb M (1)  (fX9_fails M (1)).1 (fX9_fails M (1)).2 (Prod.ext rfl rfl)) (cwV 1 hts gX9_wrong_X9_fails rfl rfl rfl (by decide +kernel) ⟨(Nat.le_of_ble_eq_true rfl), (Nat.le_of_ble_eq_true rfl)⟩) hK hP hD hS rfl rfl VG_0 rfl hl.1 rfl (Nat.le_of_ble_eq_true rfl) dX9_wrong_21 ⟨Nat.zero_le _, Nat.zero_le _⟩ (fun H locs hP hD hS => ?_)
    obtain ⟨e1, e2⟩ := Prod.mk.inj hE
    subst e2
    exact ci_i hx hb hr hlocks e1 rfl hS hP dX9_wrong_24
  · rw [if_neg b2] at hE
    refine lv_aload_n hx hb dX9_wrong_7 rfl (lv_at hl 0 rfl) ?_
    refine lv_aload_n hx hb dX9_wrong_8 rfl (lv_at hl 0 rfl) ?_
    refine lv_iload_n hx hb dX9_wrong_9 rfl (lv_at hl 1 rfl) ?_
    refine ct_Vi (VG_fix E cI cC) hZo hZb hZ S0 (kX9_wrongAt l D E cI cC Z hZo hZb M table (by omega) hG (fX9_wrongAt M table) rfl) (cwV 1 hts gX9_wrong_X9_wrongAt rfl rfl rfl (by decide +kernel) ⟨(Nat.le_of_ble_eq_true rfl), (Nat.le_of_ble_eq_true rfl)⟩) hK hP hD hS rfl rfl VG_0 rfl hl.1 rfl (Nat.le_of_ble_eq_true rfl) dX9_wrong_10 ⟨Nat.zero_le _, Nat.zero_le _⟩ (fun H locs hP hD hS => ?_)
    refine ct_Vi (VG_fix E cI cC) hZo hZb hZ S0 (kX9_done l D E cI cC Z hZo hZb M (fX9_wrongAt M table)  (fX9_done M (fX9_wrongAt M table)).1 (fX9_done M (fX9_wrongAt M table)).2 (Prod.ext rfl rfl)) (cwV 1 hts gX9_wrong_X9_done rfl rfl rfl (by decide +kernel) ⟨(Nat.le_of_ble_eq_true rfl), (Nat.le_of_ble_eq_true rfl)⟩) hK hP hD hS rfl rfl VG_0 rfl hl.1 rfl (Nat.le_of_ble_eq_true rfl) dX9_wrong_13 ⟨Nat.zero_le _, Nat.zero_le _⟩ (fun H locs hP hD hS => ?_)
    refine lv_goto hx hb dX9_wrong_16 (tgt := 24) rfl ?_
    obtain ⟨e1, e2⟩ := Prod.mk.inj hE
    subst e2
    exact ci_i hx hb hr hlocks e1 rfl hS hP dX9_wrong_24

theorem fr_fX9_wrong {M : Mem} (table : Int) {r : Nat} (h23 : Nat.beq r 23 = false) (h26 : Nat.beq r 26 = false) : (fX9_wrong M table).2 r = M r := by
  unfold fX9_wrong
  (repeat' with_reducible refine frite_w (fun _ => ?_) (fun _ => ?_)) <;> first | with_reducible rfl | simp only [mst_o, msf_o, mcp_o, fr_fX9_done, fr_fX9_fails, h23, h26]

def fX9_wrongAgain (M : Mem) (table : Int) : Int × Mem := ((fX9_wrong M table).1, (fX9_wrong M table).2)
set_option maxRecDepth 100000 in
set_option maxHeartbeats 4000000 in
theorem kX9_wrongAgain (l : Launch) (D : va_G) (E : Nat → Nat) (cI cC : ClassId) (Z : State → Prop) (hZo : ∀ M : Mem, ZOk (VG E cI cC M) Z) (hZb : ZBl Z) (M : Mem) (table : Int) (h1 : -2147483648 ≤ table ∧ table < 2147483648) (hG : GI M) (r : Int) (M' : Mem) (hE : fX9_wrongAgain M table = (r, M')) : Ci l yX9_wrongAgain wsX9_wrongAgain 5 114 [.ref (E 0), .int (iI table)] D (TY cI cC) (VG E cI cC) Z M r M' := by
  refine Ci.of (cc := cX9_wrongAgain) (maxL := 2) (ret := (some .int)) (by decide +kernel) rfl (Nat.le_of_ble_eq_true rfl) ?_
  intro p e s m args below meth c ls hx hb hml hr hown hts hlocks hP hK hD hZ hS hl
  have hl : lv_has ls 2 [(0, .ref (E 0)), (1, .int (iI table))] := hl
  have S0 : CallFix p m c cX9_wrongAgain 2 s args wsX9_wrongAgain RX9 := ⟨hx, hb, hml, hown, hts⟩
  rw [fX9_wrongAgain] at hE
  refine lv_aload_n hx hb dX9_wrongAgain_0 rfl (lv_at hl 0 rfl) ?_
  refine lv_iload_n hx hb dX9_wrongAgain_1 rfl (lv_at hl 1 rfl) ?_
  refine ct_Vi (VG_fix E cI cC) hZo hZb hZ S0 (kX9_wrong l D E cI cC Z hZo hZb M table (by omega) hG (fX9_wrong M table).1 (fX9_wrong M table).2 (Prod.ext rfl rfl)) (cwV 1 hts gX9_wrongAgain_X9_wrong rfl rfl rfl (by decide +kernel) ⟨(Nat.le_of_ble_eq_true rfl), (Nat.le_of_ble_eq_true rfl)⟩) hK hP hD hS rfl rfl VG_0 rfl hl.1 rfl (Nat.le_of_ble_eq_true rfl) dX9_wrongAgain_2 ⟨Nat.zero_le _, Nat.zero_le _⟩ (fun H locs hP hD hS => ?_)
  obtain ⟨e1, e2⟩ := Prod.mk.inj hE
  subst e2
  exact ci_i hx hb hr hlocks e1 rfl hS hP dX9_wrongAgain_5

theorem fr_fX9_wrongAgain {M : Mem} (table : Int) {r : Nat} (h23 : Nat.beq r 23 = false) (h26 : Nat.beq r 26 = false) : (fX9_wrongAgain M table).2 r = M r := by
  unfold fX9_wrongAgain
  (repeat' with_reducible refine frite_w (fun _ => ?_) (fun _ => ?_)) <;> first | with_reducible rfl | simp only [mst_o, msf_o, mcp_o, fr_fX9_wrong, h23, h26]

def fX9_isRight (M : Mem) (table : Int) : Int × Mem := if ((fX9_isTable table) = 0) then ((0), (msf M 26 (1))) else if ((fX9_rightly M table) = 0) then ((0), (msf M 26 (0))) else ((1), (msf M 26 (0)))
set_option maxRecDepth 100000 in
set_option maxHeartbeats 4000000 in
theorem kX9_isRight (l : Launch) (D : va_G) (E : Nat → Nat) (cI cC : ClassId) (Z : State → Prop) (hZo : ∀ M : Mem, ZOk (VG E cI cC M) Z) (hZb : ZBl Z) (M : Mem) (table : Int) (h1 : -2147483648 ≤ table ∧ table < 2147483648) (hG : GI M) (r : Int) (M' : Mem) (hE : fX9_isRight M table = (r, M')) : Ci l yX9_isRight wsX9_isRight 5 113 [.ref (E 0), .int (iI table)] D (TY cI cC) (VG E cI cC) Z M r M' := by
  refine Ci.of (cc := cX9_isRight) (maxL := 2) (ret := (some .boolean)) (by decide +kernel) rfl (Nat.le_of_ble_eq_true rfl) ?_
  intro p e s m args below meth c ls hx hb hml hr hown hts hlocks hP hK hD hZ hS hl
  have hl : lv_has ls 2 [(0, .ref (E 0)), (1, .int (iI table))] := hl
  have S0 : CallFix p m c cX9_isRight 2 s args wsX9_isRight RX9 := ⟨hx, hb, hml, hown, hts⟩
  have hinX9 : ∀ w ∈ u_ws RX9 TX9 20, w ∈ wsX9_isRight := by decide +kernel
  rw [fX9_isRight] at hE
  refine lv_aload_n hx hb dX9_isRight_0 rfl (lv_at hl 0 rfl) ?_
  refine lv_iload_n hx hb dX9_isRight_1 rfl (lv_at hl 1 rfl) ?_
  refine ct_Si (VG_fix E cI cC) hZo hZb hZ S0 (kX9_isTable l D E cI cC Z hZo hZb M table (by omega) (fX9_isTable table) rfl) (va_cwS 1 hts gX9_isRight_X9_isTable rfl rfl rfl (by decide +kernel) ⟨(Nat.le_of_ble_eq_true rfl), (Nat.le_of_ble_eq_true rfl)⟩) hK hP hD hS rfl hl.1 rfl (Nat.le_of_ble_eq_true rfl) dX9_isRight_2 ⟨Nat.zero_le _, Nat.zero_le _⟩ (fun H locs hP hD hS => ?_)
  have q1 := dX9_isTable table
  refine z_if_eq hx hb dX9_isRight_5 (tgt := 12) rfl (by omega) (fun b2 => ?_) (fun b2 => ?_)
  · rw [if_pos b2] at hE
    refine z_iconst hx hb dX9_isRight_12 ?_
    refine va_put (own := RX9) (ref := "NapkinSyntaxModel") (C := RX9) (T := TX9) (N := 20) hx hb hts hinX9 tyX9 tyX9_ok nmX9 hown hK hP hD hS 0 VG_0 rfl 16 (Nat.le_of_ble_eq_true rfl) (hts (.fieldLink RX9 36 "NapkinSyntaxModel" "thrown" "I") (by decide +kernel)) (fun _ h => h) rfl (ty := .int) (v := .int (iI (1))) (by decide +kernel) rfl rfl (Nat.le_of_ble_eq_true rfl) dX9_isRight_13 (fun H locs hP hD hS => ?_)
    rw [VGf_26] at hP hD
    refine lv_aload_n hx hb dX9_isRight_16 rfl (lv_at hl 0 rfl) ?_
    refine va_get (own := RX9) (ref := "NapkinSyntaxModel") (C := RX9) (T := TX9) (N := 20) hx hb hts hinX9 hown hK hP 0 VG_0 rfl 16 (Nat.le_of_ble_eq_true rfl) (hts (.fieldLink RX9 36 "NapkinSyntaxModel" "thrown" "I") (by decide +kernel)) (fun _ h => h) (v := .int (iI (1))) rfl dX9_isRight_17 ?_
    refine z_if_ne hx hb dX9_isRight_20 (tgt := 35) rfl (by omega) (fun h => ?_) (fun h => absurd h (by decide))
    refine z_iconst hx hb dX9_isRight_35 ?_
    obtain ⟨e1, e2⟩ := Prod.mk.inj hE
    subst e2
    exact ci_i hx hb hr hlocks e1 nr_b0 hS hP dX9_isRight_36
  · rw [if_neg b2] at hE
    refine z_iconst hx hb dX9_isRight_8 ?_
    refine lv_goto hx hb dX9_isRight_9 (tgt := 13) rfl ?_
    refine va_put (own := RX9) (ref := "NapkinSyntaxModel") (C := RX9) (T := TX9) (N := 20) hx hb hts hinX9 tyX9 tyX9_ok nmX9 hown hK hP hD hS 0 VG_0 rfl 16 (Nat.le_of_ble_eq_true rfl) (hts (.fieldLink RX9 36 "NapkinSyntaxModel" "thrown" "I") (by decide +kernel)) (fun _ h => h) rfl (ty := .int) (v := .int (iI (0))) (by decide +kernel) rfl rfl (Nat.le_of_ble_eq_true rfl) dX9_isRight_13 (fun H locs hP hD hS => ?_)
    rw [VGf_26] at hP hD
    refine lv_aload_n hx hb dX9_isRight_16 rfl (lv_at hl 0 rfl) ?_
    refine va_get (own := RX9) (ref := "NapkinSyntaxModel") (C := RX9) (T := TX9) (N := 20) hx hb hts hinX9 hown hK hP 0 VG_0 rfl 16 (Nat.le_of_ble_eq_true rfl) (hts (.fieldLink RX9 36 "NapkinSyntaxModel" "thrown" "I") (by decide +kernel)) (fun _ h => h) (v := .int (iI (0))) rfl dX9_isRight_17 ?_
    refine z_if_ne hx hb dX9_isRight_20 (tgt := 35) rfl (by omega) (fun h => absurd h (by decide)) (fun h => ?_)
    refine lv_aload_n hx hb dX9_isRight_23 rfl (lv_at hl 0 rfl) ?_
    refine lv_iload_n hx hb dX9_isRight_24 rfl (lv_at hl 1 rfl) ?_
    refine ct_Vi (VG_fix E cI cC) hZo hZb hZ S0 (kX9_rightly l D E cI cC Z hZo hZb (msf M 26 (0)) table (by omega) hG (fX9_rightly M table) rfl) (cwV 1 hts gX9_isRight_X9_rightly rfl rfl rfl (by decide +kernel) ⟨(Nat.le_of_ble_eq_true rfl), (Nat.le_of_ble_eq_true rfl)⟩) hK hP hD hS rfl rfl VG_0 rfl hl.1 rfl (Nat.le_of_ble_eq_true rfl) dX9_isRight_25 ⟨Nat.zero_le _, Nat.zero_le _⟩ (fun H locs hP hD hS => ?_)
    have q3 := bX9_rightly M table
    refine z_if_eq hx hb dX9_isRight_28 (tgt := 35) rfl (by omega) (fun b4 => ?_) (fun b4 => ?_)
    · rw [if_pos b4] at hE
      refine z_iconst hx hb dX9_isRight_35 ?_
      obtain ⟨e1, e2⟩ := Prod.mk.inj hE
      subst e2
      exact ci_i hx hb hr hlocks e1 nr_b0 hS hP dX9_isRight_36
    · rw [if_neg b4] at hE
      refine z_iconst hx hb dX9_isRight_31 ?_
      refine lv_goto hx hb dX9_isRight_32 (tgt := 36) rfl ?_
      obtain ⟨e1, e2⟩ := Prod.mk.inj hE
      subst e2
      exact ci_i hx hb hr hlocks e1 nr_b1 hS hP dX9_isRight_36

theorem fr_fX9_isRight {M : Mem} (table : Int) {r : Nat} (h26 : Nat.beq r 26 = false) : (fX9_isRight M table).2 r = M r := by
  unfold fX9_isRight
  (repeat' with_reducible refine frite_w (fun _ => ?_) (fun _ => ?_)) <;> first | with_reducible rfl | simp only [mst_o, msf_o, mcp_o, h26]

def fX9_phrases (M : Mem) (table : Int) : Int × Mem := if ((fX9_isTable table) = 0) then ((fX9_fails M (1)).1, (fX9_fails M (1)).2) else ((fX9_done M (fX9_phrasesOf M table)).1, (fX9_done M (fX9_phrasesOf M table)).2)
set_option maxRecDepth 100000 in
set_option maxHeartbeats 4000000 in
theorem kX9_phrases (l : Launch) (D : va_G) (E : Nat → Nat) (cI cC : ClassId) (Z : State → Prop) (hZo : ∀ M : Mem, ZOk (VG E cI cC M) Z) (hZb : ZBl Z) (M : Mem) (table : Int) (h1 : -2147483648 ≤ table ∧ table < 2147483648) (hG : GI M) (r : Int) (M' : Mem) (hE : fX9_phrases M table = (r, M')) : Ci l yX9_phrases wsX9_phrases 6 134 [.ref (E 0), .int (iI table)] D (TY cI cC) (VG E cI cC) Z M r M' := by
  refine Ci.of (cc := cX9_phrases) (maxL := 2) (ret := (some .int)) (by decide +kernel) rfl (Nat.le_of_ble_eq_true rfl) ?_
  intro p e s m args below meth c ls hx hb hml hr hown hts hlocks hP hK hD hZ hS hl
  have hl : lv_has ls 2 [(0, .ref (E 0)), (1, .int (iI table))] := hl
  have S0 : CallFix p m c cX9_phrases 2 s args wsX9_phrases RX9 := ⟨hx, hb, hml, hown, hts⟩
  rw [fX9_phrases] at hE
  refine lv_iload_n hx hb dX9_phrases_0 rfl (lv_at hl 1 rfl) ?_
  refine ct_Si (VG_fix E cI cC) hZo hZb hZ S0 (kX9_isTable l D E cI cC Z hZo hZb M table (by omega) (fX9_isTable table) rfl) (va_cwS 1 hts gX9_phrases_X9_isTable rfl rfl rfl (by decide +kernel) ⟨(Nat.le_of_ble_eq_true rfl), (Nat.le_of_ble_eq_true rfl)⟩) hK hP hD hS rfl hl.1 rfl (Nat.le_of_ble_eq_true rfl) dX9_phrases_1 ⟨Nat.zero_le _, Nat.zero_le _⟩ (fun H locs hP hD hS => ?_)
  have q1 := dX9_isTable table
  refine z_if_eq hx hb dX9_phrases_4 (tgt := 19) rfl (by omega) (fun b2 => ?_) (fun b2 => ?_)
  · rw [if_pos b2] at hE
    refine lv_aload_n hx hb dX9_phrases_19 rfl (lv_at hl 0 rfl) ?_
    refine z_iconst hx hb dX9_phrases_20 ?_
    refine ct_Vi (VG_fix E cI cC) hZo hZb hZ S0 (kX9_fails l D E cI cC Z hZo hZb M (1)  (fX9_fails M (1)).1 (fX9_fails M (1)).2 (Prod.ext rfl rfl)) (cwV 1 hts gX9_phrases_X9_fails rfl rfl rfl (by decide +kernel) ⟨(Nat.le_of_ble_eq_true rfl), (Nat.le_of_ble_eq_true rfl)⟩) hK hP hD hS rfl rfl VG_0 rfl hl.1 rfl (Nat.le_of_ble_eq_true rfl) dX9_phrases_21 ⟨Nat.zero_le _, Nat.zero_le _⟩ (fun H locs hP hD hS => ?_)
    obtain ⟨e1, e2⟩ := Prod.mk.inj hE
    subst e2
    exact ci_i hx hb hr hlocks e1 rfl hS hP dX9_phrases_24
  · rw [if_neg b2] at hE
    refine lv_aload_n hx hb dX9_phrases_7 rfl (lv_at hl 0 rfl) ?_
    refine lv_aload_n hx hb dX9_phrases_8 rfl (lv_at hl 0 rfl) ?_
    refine lv_iload_n hx hb dX9_phrases_9 rfl (lv_at hl 1 rfl) ?_
    refine ct_Vi (VG_fix E cI cC) hZo hZb hZ S0 (kX9_phrasesOf l D E cI cC Z hZo hZb M table (by omega) hG (fX9_phrasesOf M table) rfl) (cwV 1 hts gX9_phrases_X9_phrasesOf rfl rfl rfl (by decide +kernel) ⟨(Nat.le_of_ble_eq_true rfl), (Nat.le_of_ble_eq_true rfl)⟩) hK hP hD hS rfl rfl VG_0 rfl hl.1 rfl (Nat.le_of_ble_eq_true rfl) dX9_phrases_10 ⟨Nat.zero_le _, Nat.zero_le _⟩ (fun H locs hP hD hS => ?_)
    have q3 := rg_X9_phrasesOf hG table (by omega)
    refine ct_Vi (VG_fix E cI cC) hZo hZb hZ S0 (kX9_done l D E cI cC Z hZo hZb M (fX9_phrasesOf M table)  (fX9_done M (fX9_phrasesOf M table)).1 (fX9_done M (fX9_phrasesOf M table)).2 (Prod.ext rfl rfl)) (cwV 1 hts gX9_phrases_X9_done rfl rfl rfl (by decide +kernel) ⟨(Nat.le_of_ble_eq_true rfl), (Nat.le_of_ble_eq_true rfl)⟩) hK hP hD hS rfl rfl VG_0 rfl hl.1 rfl (Nat.le_of_ble_eq_true rfl) dX9_phrases_13 ⟨Nat.zero_le _, Nat.zero_le _⟩ (fun H locs hP hD hS => ?_)
    refine lv_goto hx hb dX9_phrases_16 (tgt := 24) rfl ?_
    obtain ⟨e1, e2⟩ := Prod.mk.inj hE
    subst e2
    exact ci_i hx hb hr hlocks e1 rfl hS hP dX9_phrases_24

theorem fr_fX9_phrases {M : Mem} (table : Int) {r : Nat} (h23 : Nat.beq r 23 = false) (h26 : Nat.beq r 26 = false) : (fX9_phrases M table).2 r = M r := by
  unfold fX9_phrases
  (repeat' with_reducible refine frite_w (fun _ => ?_) (fun _ => ?_)) <;> first | with_reducible rfl | simp only [mst_o, msf_o, mcp_o, fr_fX9_done, fr_fX9_fails, h23, h26]

def fX9_next_L1 (M : Mem) (table : Int) : Nat → Int → Int → (Int × Mem)
  | 0, _, _ => (0, M)
  | k1 + 1, set, fold => if ((4) < fold) then ((fX9_done M set).1, (fX9_done M set).2) else if ((fX9_goesOn (fX9_stateOf M table) fold) = (4)) then fX9_next_L1 M table k1 (zor set (0)) (fold + 1) else fX9_next_L1 M table k1 (zor set (zshl (1) fold)) (fold + 1)
def fX9_next (M : Mem) (table : Int) : Int × Mem := if ((fX9_isTable table) = 0) then ((fX9_fails M (1)).1, (fX9_fails M (1)).2) else fX9_next_L1 M table 6 (0) (1)
set_option maxRecDepth 100000 in
set_option maxHeartbeats 4000000 in
theorem kX9_next (l : Launch) (D : va_G) (E : Nat → Nat) (cI cC : ClassId) (Z : State → Prop) (hZo : ∀ M : Mem, ZOk (VG E cI cC M) Z) (hZb : ZBl Z) (M : Mem) (table : Int) (h1 : -2147483648 ≤ table ∧ table < 2147483648) (hG : GI M) (r : Int) (M' : Mem) (hE : fX9_next M table = (r, M')) : Ci l yX9_next wsX9_next 4 92 [.ref (E 0), .int (iI table)] D (TY cI cC) (VG E cI cC) Z M r M' := by
  refine Ci.of (cc := cX9_next) (maxL := 4) (ret := (some .int)) (by decide +kernel) rfl (Nat.le_of_ble_eq_true rfl) ?_
  intro p e s m args below meth c ls hx hb hml hr hown hts hlocks hP hK hD hZ hS hl
  have hl : lv_has ls 4 [(0, .ref (E 0)), (1, .int (iI table))] := hl
  have S0 : CallFix p m c cX9_next 4 s args wsX9_next RX9 := ⟨hx, hb, hml, hown, hts⟩
  rw [fX9_next] at hE
  refine lv_iload_n hx hb dX9_next_0 rfl (lv_at hl 1 rfl) ?_
  refine ct_Si (VG_fix E cI cC) hZo hZb hZ S0 (kX9_isTable l D E cI cC Z hZo hZb M table (by omega) (fX9_isTable table) rfl) (va_cwS 1 hts gX9_next_X9_isTable rfl rfl rfl (by decide +kernel) ⟨(Nat.le_of_ble_eq_true rfl), (Nat.le_of_ble_eq_true rfl)⟩) hK hP hD hS rfl hl.1 rfl (Nat.le_of_ble_eq_true rfl) dX9_next_1 ⟨Nat.zero_le _, Nat.zero_le _⟩ (fun H locs hP hD hS => ?_)
  have q1 := dX9_isTable table
  refine z_if_ne hx hb dX9_next_4 (tgt := 13) rfl (by omega) (fun b2 => ?_) (fun b2 => ?_)
  · rw [if_neg b2] at hE
    refine z_iconst hx hb dX9_next_13 ?_
    refine lv_istore_n hx hb dX9_next_14 rfl hl (Nat.le_of_ble_eq_true rfl) (lv' := [(2, .int (iI (0))), (0, .ref (E 0)), (1, .int (iI table))]) rfl (fun ls hl => ?_)
    refine z_iconst hx hb dX9_next_15 ?_
    refine lv_istore_n hx hb dX9_next_16 rfl hl (Nat.le_of_ble_eq_true rfl) (lv' := [(3, .int (iI (1))), (2, .int (iI (0))), (0, .ref (E 0)), (1, .int (iI table))]) rfl (fun ls hl => ?_)
    have L1 : ∀ (k1 : Nat) (set fold : Int) (ls : Array Slot) (H : Heap) (locs : List Loc), lv_has ls 4 [(0, .ref (E 0)), (1, .int (iI table)), (2, .int (iI set)), (3, .int (iI fold))] → va_P D vwCl (VG E cI cC M) H → va_D (wA (VG E cI cC M)) (VG E cI cC M) → va_S (wA (VG E cI cC M)) s.heap H locs → (1 ≤ fold ∧ fold ≤ 5) → (5 - fold < (k1 : Int)) → fX9_next_L1 M table k1 set fold = (r, M') → W p l e (zRm 4 92) s m args below meth c H locs 0 0 (MQ below (ciQ D (VG E cI cC) M r M') args s 0 0 (wA (VG E cI cC M))) (F0 m 17 ls []) := by
      intro k1
      induction k1 with
      | zero => intro set fold ls H locs hl hP hD hS i1 i3 hE; exfalso; omega
      | succ k1 ih1 =>
        intro set fold ls H locs hl hP hD hS i1 i3 hE
        rw [fX9_next_L1] at hE
        refine lv_iload_n hx hb dX9_next_17 rfl (lv_at hl 3 rfl) ?_
        refine z_iconst hx hb dX9_next_18 ?_
        refine z_icmp_gt hx hb dX9_next_19 (tgt := 51) rfl (by omega) (by omega) (fun b3 => ?_) (fun b3 => ?_)
        · rw [if_pos b3] at hE
          refine lv_aload_n hx hb dX9_next_51 rfl (lv_at hl 0 rfl) ?_
          refine lv_iload_n hx hb dX9_next_52 rfl (lv_at hl 2 rfl) ?_
          refine ct_Vi (VG_fix E cI cC) hZo hZb hZ S0 (kX9_done l D E cI cC Z hZo hZb M set  (fX9_done M set).1 (fX9_done M set).2 (Prod.ext rfl rfl)) (cwV 1 hts gX9_next_X9_done rfl rfl rfl (by decide +kernel) ⟨(Nat.le_of_ble_eq_true rfl), (Nat.le_of_ble_eq_true rfl)⟩) hK hP hD hS rfl rfl VG_0 rfl hl.1 rfl (Nat.le_of_ble_eq_true rfl) dX9_next_53 ⟨Nat.zero_le _, Nat.zero_le _⟩ (fun H locs hP hD hS => ?_)
          obtain ⟨e1, e2⟩ := Prod.mk.inj hE
          subst e2
          exact ci_i hx hb hr hlocks e1 rfl hS hP dX9_next_56
        · rw [if_neg b3] at hE
          refine lv_iload_n hx hb dX9_next_22 rfl (lv_at hl 2 rfl) ?_
          refine lv_aload_n hx hb dX9_next_23 rfl (lv_at hl 0 rfl) ?_
          refine lv_iload_n hx hb dX9_next_24 rfl (lv_at hl 1 rfl) ?_
          refine ct_Vi (VG_fix E cI cC) hZo hZb hZ S0 (kX9_stateOf l D E cI cC Z hZo hZb M table (by omega) hG (fX9_stateOf M table) rfl) (cwV 1 hts gX9_next_X9_stateOf rfl rfl rfl (by decide +kernel) ⟨(Nat.le_of_ble_eq_true rfl), (Nat.le_of_ble_eq_true rfl)⟩) hK hP hD hS rfl rfl VG_0 rfl hl.1 rfl (Nat.le_of_ble_eq_true rfl) dX9_next_25 ⟨Nat.zero_le _, Nat.zero_le _⟩ (fun H locs hP hD hS => ?_)
          have q4 := rg_X9_stateOf hG table
          refine lv_iload_n hx hb dX9_next_28 rfl (lv_at hl 3 rfl) ?_
          refine ct_Si (VG_fix E cI cC) hZo hZb hZ S0 (kX9_goesOn l D E cI cC Z hZo hZb M (fX9_stateOf M table) fold (by omega) (by omega) (fX9_goesOn (fX9_stateOf M table) fold) rfl) (va_cwS 2 hts gX9_next_X9_goesOn rfl rfl rfl (by decide +kernel) ⟨(Nat.le_of_ble_eq_true rfl), (Nat.le_of_ble_eq_true rfl)⟩) hK hP hD hS rfl hl.1 rfl (Nat.le_of_ble_eq_true rfl) dX9_next_29 ⟨Nat.zero_le _, Nat.zero_le _⟩ (fun H locs hP hD hS => ?_)
          have q5 := rg_X9_goesOn (fX9_stateOf M table) fold
          refine z_iconst hx hb dX9_next_32 ?_
          refine z_icmp_ne hx hb dX9_next_33 (tgt := 40) rfl (by omega) (by omega) (fun b6 => ?_) (fun b6 => ?_)
          · rw [if_neg b6] at hE
            refine z_iconst hx hb dX9_next_40 ?_
            refine lv_iload_n hx hb dX9_next_41 rfl (lv_at hl 3 rfl) ?_
            refine z_ishl hx hb dX9_next_42 ?_
            have q7 := zshl_I (1) fold
            refine z_ior hx hb dX9_next_43 ?_
            have q8 := zor_I set (zshl (1) fold)
            refine lv_istore_n hx hb dX9_next_44 rfl hl (Nat.le_of_ble_eq_true rfl) (lv' := [(2, .int (iI (zor set (zshl (1) fold)))), (0, .ref (E 0)), (1, .int (iI table)), (3, .int (iI fold))]) rfl (fun ls hl => ?_)
            refine z_iinc hx hb dX9_next_45 hl (k := 3) rfl (Nat.le_of_ble_eq_true rfl) (lv' := [(3, .int (iI (fold + 1))), (2, .int (iI (zor set (zshl (1) fold)))), (0, .ref (E 0)), (1, .int (iI table))]) rfl (fun ls hl => ?_)
            refine lv_goto hx hb dX9_next_48 (tgt := 17) rfl ?_
            exact ih1 (zor set (zshl (1) fold)) (fold + 1) ls _ _ (lv_sub hl [2, 3, 1, 0] rfl) hP hD hS (by omega) (by omega) hE
          · rw [if_pos b6] at hE
            refine z_iconst hx hb dX9_next_36 ?_
            refine lv_goto hx hb dX9_next_37 (tgt := 43) rfl ?_
            refine z_ior hx hb dX9_next_43 ?_
            have q9 := zor_I set (0)
            refine lv_istore_n hx hb dX9_next_44 rfl hl (Nat.le_of_ble_eq_true rfl) (lv' := [(2, .int (iI (zor set (0)))), (0, .ref (E 0)), (1, .int (iI table)), (3, .int (iI fold))]) rfl (fun ls hl => ?_)
            refine z_iinc hx hb dX9_next_45 hl (k := 3) rfl (Nat.le_of_ble_eq_true rfl) (lv' := [(3, .int (iI (fold + 1))), (2, .int (iI (zor set (0)))), (0, .ref (E 0)), (1, .int (iI table))]) rfl (fun ls hl => ?_)
            refine lv_goto hx hb dX9_next_48 (tgt := 17) rfl ?_
            exact ih1 (zor set (0)) (fold + 1) ls _ _ (lv_sub hl [2, 3, 1, 0] rfl) hP hD hS (by omega) (by omega) hE
    exact L1 6 (0) (1) ls _ _ (lv_sub hl [2, 3, 1, 0] rfl) hP hD hS (by omega) (by omega) hE
  · rw [if_pos b2] at hE
    refine lv_aload_n hx hb dX9_next_7 rfl (lv_at hl 0 rfl) ?_
    refine z_iconst hx hb dX9_next_8 ?_
    refine ct_Vi (VG_fix E cI cC) hZo hZb hZ S0 (kX9_fails l D E cI cC Z hZo hZb M (1)  (fX9_fails M (1)).1 (fX9_fails M (1)).2 (Prod.ext rfl rfl)) (cwV 1 hts gX9_next_X9_fails rfl rfl rfl (by decide +kernel) ⟨(Nat.le_of_ble_eq_true rfl), (Nat.le_of_ble_eq_true rfl)⟩) hK hP hD hS rfl rfl VG_0 rfl hl.1 rfl (Nat.le_of_ble_eq_true rfl) dX9_next_9 ⟨Nat.zero_le _, Nat.zero_le _⟩ (fun H locs hP hD hS => ?_)
    obtain ⟨e1, e2⟩ := Prod.mk.inj hE
    subst e2
    exact ci_i hx hb hr hlocks e1 rfl hS hP dX9_next_12

-- no frame row for fX9_next (a reading loop)

def fX9_leftOut_L1 (M : Mem) (table set : Int) : Nat → Int → Int → Int → (Int)
  | 0, _, _, _ => 0
  | k1 + 1, state, n, ii => if ((fX9_countOf M table (0)) ≤ ii) then if ((fX9_isEnd state) = 0) then (-1) else n else if ((zand (zshr set ii) (1)) = (1)) then fX9_leftOut_L1 M table set k1 state (n + (1)) (ii + 1) else fX9_leftOut_L1 M table set k1 (fX9_goesOn state (fX9_foldAt M table ii)) (n + (0)) (ii + 1)
def fX9_leftOut (M : Mem) (table set : Int) : Int := fX9_leftOut_L1 M table set 7 (0) (0) (0)
set_option maxRecDepth 100000 in
set_option maxHeartbeats 4000000 in
theorem kX9_leftOut (l : Launch) (D : va_G) (E : Nat → Nat) (cI cC : ClassId) (Z : State → Prop) (hZo : ∀ M : Mem, ZOk (VG E cI cC M) Z) (hZb : ZBl Z) (M : Mem) (table set : Int) (h1 : 0 ≤ table ∧ table < 3) (h2 : -2147483648 ≤ set ∧ set < 2147483648) (hG : GI M) (r : Int) (hE : fX9_leftOut M table set = r) : Ci l yX9_leftOut wsX9_leftOut 3 69 [.ref (E 0), .int (iI table), .int (iI set)] D (TY cI cC) (VG E cI cC) Z M r M := by
  refine Ci.of (cc := cX9_leftOut) (maxL := 7) (ret := (some .int)) (by decide +kernel) rfl (Nat.le_of_ble_eq_true rfl) ?_
  intro p e s m args below meth c ls hx hb hml hr hown hts hlocks hP hK hD hZ hS hl
  have hl : lv_has ls 7 [(0, .ref (E 0)), (1, .int (iI table)), (2, .int (iI set))] := hl
  have S0 : CallFix p m c cX9_leftOut 7 s args wsX9_leftOut RX9 := ⟨hx, hb, hml, hown, hts⟩
  rw [fX9_leftOut] at hE
  refine z_iconst hx hb dX9_leftOut_0 ?_
  refine lv_istore_n hx hb dX9_leftOut_1 rfl hl (Nat.le_of_ble_eq_true rfl) (lv' := [(3, .int (iI (0))), (0, .ref (E 0)), (1, .int (iI table)), (2, .int (iI set))]) rfl (fun ls hl => ?_)
  refine z_iconst hx hb dX9_leftOut_2 ?_
  refine lv_istore hx hb dX9_leftOut_3 hl (Nat.le_of_ble_eq_true rfl) (lv' := [(4, .int (iI (0))), (3, .int (iI (0))), (0, .ref (E 0)), (1, .int (iI table)), (2, .int (iI set))]) rfl (fun ls hl => ?_)
  refine z_iconst hx hb dX9_leftOut_5 ?_
  refine lv_istore hx hb dX9_leftOut_6 hl (Nat.le_of_ble_eq_true rfl) (lv' := [(5, .int (iI (0))), (4, .int (iI (0))), (3, .int (iI (0))), (0, .ref (E 0)), (1, .int (iI table)), (2, .int (iI set))]) rfl (fun ls hl => ?_)
  have L1 : ∀ (k1 : Nat) (state n ii : Int) (ls : Array Slot) (H : Heap) (locs : List Loc), lv_has ls 7 [(0, .ref (E 0)), (1, .int (iI table)), (2, .int (iI set)), (3, .int (iI state)), (4, .int (iI n)), (5, .int (iI ii))] → va_P D vwCl (VG E cI cC M) H → va_D (wA (VG E cI cC M)) (VG E cI cC M) → va_S (wA (VG E cI cC M)) s.heap H locs → (0 ≤ ii ∧ ii ≤ 6) → (6 - ii < (k1 : Int)) → (0 ≤ state ∧ state ≤ 4) → (0 ≤ n ∧ n ≤ ii) → fX9_leftOut_L1 M table set k1 state n ii = r → W p l e (zRm 3 69) s m args below meth c H locs 0 0 (MQ below (ciQ D (VG E cI cC) M r M) args s 0 0 (wA (VG E cI cC M))) (F0 m 8 ls []) := by
    intro k1
    induction k1 with
    | zero => intro state n ii ls H locs hl hP hD hS i1 i3 i4 i5 hE; exfalso; omega
    | succ k1 ih1 =>
      intro state n ii ls H locs hl hP hD hS i1 i3 i4 i5 hE
      have q96 := rg_X9_countOf hG table (0) (by omega)
      rw [fX9_leftOut_L1] at hE
      refine lv_iload hx hb dX9_leftOut_8 (lv_at hl 5 rfl) ?_
      refine lv_aload_n hx hb dX9_leftOut_10 rfl (lv_at hl 0 rfl) ?_
      refine lv_iload_n hx hb dX9_leftOut_11 rfl (lv_at hl 1 rfl) ?_
      refine z_iconst hx hb dX9_leftOut_12 ?_
      refine ct_Vi (VG_fix E cI cC) hZo hZb hZ S0 (kX9_countOf l D E cI cC Z hZo hZb M table (0) (by omega) (by omega) hG (fX9_countOf M table (0)) rfl) (cwV 2 hts gX9_leftOut_X9_countOf rfl rfl rfl (by decide +kernel) ⟨(Nat.le_of_ble_eq_true rfl), (Nat.le_of_ble_eq_true rfl)⟩) hK hP hD hS rfl rfl VG_0 rfl hl.1 rfl (Nat.le_of_ble_eq_true rfl) dX9_leftOut_13 ⟨Nat.zero_le _, Nat.zero_le _⟩ (fun H locs hP hD hS => ?_)
      have q1 := rg_X9_countOf hG table (0) (by omega)
      refine z_icmp_ge hx hb dX9_leftOut_16 (tgt := 78) rfl (by omega) (by omega) (fun b2 => ?_) (fun b2 => ?_)
      · rw [if_pos b2] at hE
        refine lv_iload_n hx hb dX9_leftOut_78 rfl (lv_at hl 3 rfl) ?_
        refine ct_Si (VG_fix E cI cC) hZo hZb hZ S0 (kX9_isEnd l D E cI cC Z hZo hZb M state (by omega) (fX9_isEnd state) rfl) (va_cwS 1 hts gX9_leftOut_X9_isEnd rfl rfl rfl (by decide +kernel) ⟨(Nat.le_of_ble_eq_true rfl), (Nat.le_of_ble_eq_true rfl)⟩) hK hP hD hS rfl hl.1 rfl (Nat.le_of_ble_eq_true rfl) dX9_leftOut_79 ⟨Nat.zero_le _, Nat.zero_le _⟩ (fun H locs hP hD hS => ?_)
        have q3 := bX9_isEnd state
        refine z_if_eq hx hb dX9_leftOut_82 (tgt := 90) rfl (by omega) (fun b4 => ?_) (fun b4 => ?_)
        · rw [if_pos b4] at hE
          refine z_iconst hx hb dX9_leftOut_90 ?_
          exact ci_i hx hb hr hlocks hE rfl hS hP dX9_leftOut_91
        · rw [if_neg b4] at hE
          refine lv_iload hx hb dX9_leftOut_85 (lv_at hl 4 rfl) ?_
          refine lv_goto hx hb dX9_leftOut_87 (tgt := 91) rfl ?_
          exact ci_i hx hb hr hlocks hE rfl hS hP dX9_leftOut_91
      · rw [if_neg b2] at hE
        refine lv_iload_n hx hb dX9_leftOut_19 rfl (lv_at hl 2 rfl) ?_
        refine lv_iload hx hb dX9_leftOut_20 (lv_at hl 5 rfl) ?_
        refine z_ishr hx hb dX9_leftOut_22 ?_
        have q5 := zshr_I set ii
        refine z_iconst hx hb dX9_leftOut_23 ?_
        refine z_iand hx hb dX9_leftOut_24 ?_
        have q6 := zand_I (zshr set ii) (1)
        refine z_iconst hx hb dX9_leftOut_25 ?_
        refine z_icmp_ne hx hb dX9_leftOut_26 (tgt := 33) rfl (by omega) (by omega) (fun b7 => ?_) (fun b7 => ?_)
        · rw [if_neg b7] at hE
          refine z_iconst hx hb dX9_leftOut_33 ?_
          refine lv_istore hx hb dX9_leftOut_34 hl (Nat.le_of_ble_eq_true rfl) (lv' := [(6, .int (iI (0))), (0, .ref (E 0)), (1, .int (iI table)), (2, .int (iI set)), (3, .int (iI state)), (4, .int (iI n)), (5, .int (iI ii))]) rfl (fun ls hl => ?_)
          refine lv_iload hx hb dX9_leftOut_36 (lv_at hl 5 rfl) ?_
          refine lv_iload hx hb dX9_leftOut_38 (lv_at hl 0 rfl) ?_
          refine z_if_eq hx hb dX9_leftOut_40 (tgt := 47) rfl (by omega) (fun h => ?_) (fun h => absurd h (by decide))
          refine z_iconst hx hb dX9_leftOut_47 ?_
          refine z_iadd hx hb dX9_leftOut_48 ?_
          refine lv_istore hx hb dX9_leftOut_49 hl (Nat.le_of_ble_eq_true rfl) (lv' := [(4, .int (iI (n + (0)))), (6, .int (iI (0))), (0, .ref (E 0)), (1, .int (iI table)), (2, .int (iI set)), (3, .int (iI state)), (5, .int (iI ii))]) rfl (fun ls hl => ?_)
          refine lv_iload hx hb dX9_leftOut_51 (lv_at hl 1 rfl) ?_
          refine z_if_eq hx hb dX9_leftOut_53 (tgt := 60) rfl (by omega) (fun h => ?_) (fun h => absurd h (by decide))
          refine lv_iload_n hx hb dX9_leftOut_60 rfl (lv_at hl 5 rfl) ?_
          refine lv_aload_n hx hb dX9_leftOut_61 rfl (lv_at hl 2 rfl) ?_
          refine lv_iload_n hx hb dX9_leftOut_62 rfl (lv_at hl 3 rfl) ?_
          refine lv_iload hx hb dX9_leftOut_63 (lv_at hl 6 rfl) ?_
          refine ct_Vi (VG_fix E cI cC) hZo hZb hZ S0 (kX9_foldAt l D E cI cC Z hZo hZb M table ii (by omega) (by omega) hG (fX9_foldAt M table ii) rfl) (cwV 2 hts gX9_leftOut_X9_foldAt rfl rfl rfl (by decide +kernel) ⟨(Nat.le_of_ble_eq_true rfl), (Nat.le_of_ble_eq_true rfl)⟩) hK hP hD hS rfl rfl VG_0 rfl hl.1 rfl (Nat.le_of_ble_eq_true rfl) dX9_leftOut_65 ⟨Nat.zero_le _, Nat.zero_le _⟩ (fun H locs hP hD hS => ?_)
          have q8 := rg_X9_foldAt hG table ii (by omega)
          refine ct_Si (VG_fix E cI cC) hZo hZb hZ S0 (kX9_goesOn l D E cI cC Z hZo hZb M state (fX9_foldAt M table ii) (by omega) (by omega) (fX9_goesOn state (fX9_foldAt M table ii)) rfl) (va_cwS 2 hts gX9_leftOut_X9_goesOn rfl rfl rfl (by decide +kernel) ⟨(Nat.le_of_ble_eq_true rfl), (Nat.le_of_ble_eq_true rfl)⟩) hK hP hD hS rfl hl.1 rfl (Nat.le_of_ble_eq_true rfl) dX9_leftOut_68 ⟨Nat.zero_le _, Nat.zero_le _⟩ (fun H locs hP hD hS => ?_)
          have q9 := rg_X9_goesOn state (fX9_foldAt M table ii)
          refine lv_istore_n hx hb dX9_leftOut_71 rfl hl (Nat.le_of_ble_eq_true rfl) (lv' := [(3, .int (iI (fX9_goesOn state (fX9_foldAt M table ii)))), (4, .int (iI (n + (0)))), (6, .int (iI (0))), (0, .ref (E 0)), (1, .int (iI table)), (2, .int (iI set)), (5, .int (iI ii))]) rfl (fun ls hl => ?_)
          refine z_iinc hx hb dX9_leftOut_72 hl (k := 6) rfl (Nat.le_of_ble_eq_true rfl) (lv' := [(5, .int (iI (ii + 1))), (3, .int (iI (fX9_goesOn state (fX9_foldAt M table ii)))), (4, .int (iI (n + (0)))), (6, .int (iI (0))), (0, .ref (E 0)), (1, .int (iI table)), (2, .int (iI set))]) rfl (fun ls hl => ?_)
          refine lv_goto hx hb dX9_leftOut_75 (tgt := 8) rfl ?_
          exact ih1 (fX9_goesOn state (fX9_foldAt M table ii)) (n + (0)) (ii + 1) ls _ _ (lv_sub hl [4, 5, 6, 1, 2, 0] rfl) hP hD hS (by omega) (by omega) (by omega) (by omega) hE
        · rw [if_pos b7] at hE
          refine z_iconst hx hb dX9_leftOut_29 ?_
          refine lv_goto hx hb dX9_leftOut_30 (tgt := 34) rfl ?_
          refine lv_istore hx hb dX9_leftOut_34 hl (Nat.le_of_ble_eq_true rfl) (lv' := [(6, .int (iI (1))), (0, .ref (E 0)), (1, .int (iI table)), (2, .int (iI set)), (3, .int (iI state)), (4, .int (iI n)), (5, .int (iI ii))]) rfl (fun ls hl => ?_)
          refine lv_iload hx hb dX9_leftOut_36 (lv_at hl 5 rfl) ?_
          refine lv_iload hx hb dX9_leftOut_38 (lv_at hl 0 rfl) ?_
          refine z_if_eq hx hb dX9_leftOut_40 (tgt := 47) rfl (by omega) (fun h => absurd h (by decide)) (fun h => ?_)
          refine z_iconst hx hb dX9_leftOut_43 ?_
          refine lv_goto hx hb dX9_leftOut_44 (tgt := 48) rfl ?_
          refine z_iadd hx hb dX9_leftOut_48 ?_
          refine lv_istore hx hb dX9_leftOut_49 hl (Nat.le_of_ble_eq_true rfl) (lv' := [(4, .int (iI (n + (1)))), (6, .int (iI (1))), (0, .ref (E 0)), (1, .int (iI table)), (2, .int (iI set)), (3, .int (iI state)), (5, .int (iI ii))]) rfl (fun ls hl => ?_)
          refine lv_iload hx hb dX9_leftOut_51 (lv_at hl 1 rfl) ?_
          refine z_if_eq hx hb dX9_leftOut_53 (tgt := 60) rfl (by omega) (fun h => absurd h (by decide)) (fun h => ?_)
          refine lv_iload_n hx hb dX9_leftOut_56 rfl (lv_at hl 5 rfl) ?_
          refine lv_goto hx hb dX9_leftOut_57 (tgt := 71) rfl ?_
          refine lv_istore_n hx hb dX9_leftOut_71 rfl hl (Nat.le_of_ble_eq_true rfl) (lv' := [(3, .int (iI state)), (4, .int (iI (n + (1)))), (6, .int (iI (1))), (0, .ref (E 0)), (1, .int (iI table)), (2, .int (iI set)), (5, .int (iI ii))]) rfl (fun ls hl => ?_)
          refine z_iinc hx hb dX9_leftOut_72 hl (k := 6) rfl (Nat.le_of_ble_eq_true rfl) (lv' := [(5, .int (iI (ii + 1))), (3, .int (iI state)), (4, .int (iI (n + (1)))), (6, .int (iI (1))), (0, .ref (E 0)), (1, .int (iI table)), (2, .int (iI set))]) rfl (fun ls hl => ?_)
          refine lv_goto hx hb dX9_leftOut_75 (tgt := 8) rfl ?_
          exact ih1 state (n + (1)) (ii + 1) ls _ _ (lv_sub hl [4, 5, 6, 1, 2, 0] rfl) hP hD hS (by omega) (by omega) (by omega) (by omega) hE
  exact L1 7 (0) (0) (0) ls _ _ (lv_sub hl [3, 4, 5, 2, 1, 0] rfl) hP hD hS (by omega) (by omega) (by omega) (by omega) hE


theorem rg_X9_leftOut_L {M : Mem} (t s : Int) : ∀ (k : Nat) (a n i : Int), 0 ≤ n → n + k ≤ 100 → -1 ≤ fX9_leftOut_L1 M t s k a n i ∧ fX9_leftOut_L1 M t s k a n i ≤ 100 := by
  intro k
  induction k with
  | zero => intro a n i _ _; exact ⟨(by decide : (-1 : Int) ≤ 0), (by decide : (0 : Int) ≤ 100)⟩
  | succ k ih =>
    intro a n i h1 h2
    rw [fX9_leftOut_L1]
    (repeat' split) <;> first | omega | exact ih _ _ _ (by omega) (by omega)
theorem rg_X9_leftOut {M : Mem} (_ : GI M) (t s : Int) : -1 ≤ fX9_leftOut M t s ∧ fX9_leftOut M t s ≤ 100 := rg_X9_leftOut_L t s 7 0 0 0 (by decide) (by decide)
theorem zshl_64 : ∀ c : Fin 7, zshl 1 (c.val : Int) ≤ 64 ∧ 0 ≤ zshl 1 (c.val : Int) := by decide +kernel
theorem zshl_le {c : Int} (h1 : 0 ≤ c) (h2 : c ≤ 6) : zshl 1 c ≤ 64 ∧ 0 ≤ zshl 1 c := by
  obtain ⟨n, rfl⟩ := Int.eq_ofNat_of_zero_le h1
  exact zshl_64 ⟨n, by omega⟩

def fX9_fewestOf_L1 (M : Mem) (table : Int) : Nat → Int → Int → (Int)
  | 0, _, _ => 0
  | k1 + 1, best, set => if ((zshl (1) (fX9_countOf M table (0))) ≤ set) then best else if ((fX9_leftOut M table set) = (-1)) then fX9_fewestOf_L1 M table k1 best (set + 1) else if (best = (-1)) then fX9_fewestOf_L1 M table k1 (fX9_leftOut M table set) (set + 1) else if (best ≤ (fX9_leftOut M table set)) then fX9_fewestOf_L1 M table k1 best (set + 1) else fX9_fewestOf_L1 M table k1 (fX9_leftOut M table set) (set + 1)
def fX9_fewestOf (M : Mem) (table : Int) : Int := fX9_fewestOf_L1 M table 66 (-1) (0)
set_option maxRecDepth 100000 in
set_option maxHeartbeats 4000000 in
theorem kX9_fewestOf (l : Launch) (D : va_G) (E : Nat → Nat) (cI cC : ClassId) (Z : State → Prop) (hZo : ∀ M : Mem, ZOk (VG E cI cC M) Z) (hZb : ZBl Z) (M : Mem) (table : Int) (h1 : 0 ≤ table ∧ table < 3) (hG : GI M) (r : Int) (hE : fX9_fewestOf M table = r) : Ci l yX9_fewestOf wsX9_fewestOf 4 95 [.ref (E 0), .int (iI table)] D (TY cI cC) (VG E cI cC) Z M r M := by
  refine Ci.of (cc := cX9_fewestOf) (maxL := 5) (ret := (some .int)) (by decide +kernel) rfl (Nat.le_of_ble_eq_true rfl) ?_
  intro p e s m args below meth c ls hx hb hml hr hown hts hlocks hP hK hD hZ hS hl
  have hl : lv_has ls 5 [(0, .ref (E 0)), (1, .int (iI table))] := hl
  have S0 : CallFix p m c cX9_fewestOf 5 s args wsX9_fewestOf RX9 := ⟨hx, hb, hml, hown, hts⟩
  rw [fX9_fewestOf] at hE
  refine z_iconst hx hb dX9_fewestOf_0 ?_
  refine lv_istore_n hx hb dX9_fewestOf_1 rfl hl (Nat.le_of_ble_eq_true rfl) (lv' := [(2, .int (iI (-1))), (0, .ref (E 0)), (1, .int (iI table))]) rfl (fun ls hl => ?_)
  refine z_iconst hx hb dX9_fewestOf_2 ?_
  refine lv_istore_n hx hb dX9_fewestOf_3 rfl hl (Nat.le_of_ble_eq_true rfl) (lv' := [(3, .int (iI (0))), (2, .int (iI (-1))), (0, .ref (E 0)), (1, .int (iI table))]) rfl (fun ls hl => ?_)
  have L1 : ∀ (k1 : Nat) (best set : Int) (ls : Array Slot) (H : Heap) (locs : List Loc), lv_has ls 5 [(0, .ref (E 0)), (1, .int (iI table)), (2, .int (iI best)), (3, .int (iI set))] → va_P D vwCl (VG E cI cC M) H → va_D (wA (VG E cI cC M)) (VG E cI cC M) → va_S (wA (VG E cI cC M)) s.heap H locs → (0 ≤ set ∧ set ≤ 64) → (-1 ≤ best ∧ best ≤ 100) → (64 - set < (k1 : Int)) → fX9_fewestOf_L1 M table k1 best set = r → W p l e (zRm 4 95) s m args below meth c H locs 0 0 (MQ below (ciQ D (VG E cI cC) M r M) args s 0 0 (wA (VG E cI cC M))) (F0 m 4 ls []) := by
    intro k1
    induction k1 with
    | zero => intro best set ls H locs hl hP hD hS i1 i2 i3 hE; exfalso; omega
    | succ k1 ih1 =>
      intro best set ls H locs hl hP hD hS i1 i2 i3 hE
      have q96 := rg_X9_countOf hG table (0) (by omega)
      have q92 := zshl_le q96.1 q96.2
      rw [fX9_fewestOf_L1] at hE
      refine lv_iload_n hx hb dX9_fewestOf_4 rfl (lv_at hl 3 rfl) ?_
      refine z_iconst hx hb dX9_fewestOf_5 ?_
      refine lv_aload_n hx hb dX9_fewestOf_6 rfl (lv_at hl 0 rfl) ?_
      refine lv_iload_n hx hb dX9_fewestOf_7 rfl (lv_at hl 1 rfl) ?_
      refine z_iconst hx hb dX9_fewestOf_8 ?_
      refine ct_Vi (VG_fix E cI cC) hZo hZb hZ S0 (kX9_countOf l D E cI cC Z hZo hZb M table (0) (by omega) (by omega) hG (fX9_countOf M table (0)) rfl) (cwV 2 hts gX9_fewestOf_X9_countOf rfl rfl rfl (by decide +kernel) ⟨(Nat.le_of_ble_eq_true rfl), (Nat.le_of_ble_eq_true rfl)⟩) hK hP hD hS rfl rfl VG_0 rfl hl.1 rfl (Nat.le_of_ble_eq_true rfl) dX9_fewestOf_9 ⟨Nat.zero_le _, Nat.zero_le _⟩ (fun H locs hP hD hS => ?_)
      have q1 := rg_X9_countOf hG table (0) (by omega)
      refine z_ishl hx hb dX9_fewestOf_12 ?_
      have q2 := zshl_I (1) (fX9_countOf M table (0))
      refine z_icmp_ge hx hb dX9_fewestOf_13 (tgt := 54) rfl (by omega) (by omega) (fun b3 => ?_) (fun b3 => ?_)
      · rw [if_pos b3] at hE
        refine lv_iload_n hx hb dX9_fewestOf_54 rfl (lv_at hl 2 rfl) ?_
        exact ci_i hx hb hr hlocks hE rfl hS hP dX9_fewestOf_55
      · rw [if_neg b3] at hE
        refine lv_aload_n hx hb dX9_fewestOf_16 rfl (lv_at hl 0 rfl) ?_
        refine lv_iload_n hx hb dX9_fewestOf_17 rfl (lv_at hl 1 rfl) ?_
        refine lv_iload_n hx hb dX9_fewestOf_18 rfl (lv_at hl 3 rfl) ?_
        refine ct_Vi (VG_fix E cI cC) hZo hZb hZ S0 (kX9_leftOut l D E cI cC Z hZo hZb M table set (by omega) (by omega) hG (fX9_leftOut M table set) rfl) (cwV 2 hts gX9_fewestOf_X9_leftOut rfl rfl rfl (by decide +kernel) ⟨(Nat.le_of_ble_eq_true rfl), (Nat.le_of_ble_eq_true rfl)⟩) hK hP hD hS rfl rfl VG_0 rfl hl.1 rfl (Nat.le_of_ble_eq_true rfl) dX9_fewestOf_19 ⟨Nat.zero_le _, Nat.zero_le _⟩ (fun H locs hP hD hS => ?_)
        have q4 := rg_X9_leftOut hG table set
        refine lv_istore hx hb dX9_fewestOf_22 hl (Nat.le_of_ble_eq_true rfl) (lv' := [(4, .int (iI (fX9_leftOut M table set))), (0, .ref (E 0)), (1, .int (iI table)), (2, .int (iI best)), (3, .int (iI set))]) rfl (fun ls hl => ?_)
        refine lv_iload hx hb dX9_fewestOf_24 (lv_at hl 0 rfl) ?_
        refine z_iconst hx hb dX9_fewestOf_26 ?_
        refine z_icmp_eq hx hb dX9_fewestOf_27 (tgt := 46) rfl (by omega) (by omega) (fun b5 => ?_) (fun b5 => ?_)
        · rw [if_pos b5] at hE
          refine lv_iload_n hx hb dX9_fewestOf_46 rfl (lv_at hl 3 rfl) ?_
          refine lv_istore_n hx hb dX9_fewestOf_47 rfl hl (Nat.le_of_ble_eq_true rfl) (lv' := [(2, .int (iI best)), (4, .int (iI (fX9_leftOut M table set))), (0, .ref (E 0)), (1, .int (iI table)), (3, .int (iI set))]) rfl (fun ls hl => ?_)
          refine z_iinc hx hb dX9_fewestOf_48 hl (k := 4) rfl (Nat.le_of_ble_eq_true rfl) (lv' := [(3, .int (iI (set + 1))), (2, .int (iI best)), (4, .int (iI (fX9_leftOut M table set))), (0, .ref (E 0)), (1, .int (iI table))]) rfl (fun ls hl => ?_)
          refine lv_goto hx hb dX9_fewestOf_51 (tgt := 4) rfl ?_
          exact ih1 best (set + 1) ls _ _ (lv_sub hl [3, 4, 1, 0] rfl) hP hD hS (by omega) (by omega) (by omega) hE
        · rw [if_neg b5] at hE
          refine lv_iload_n hx hb dX9_fewestOf_30 rfl (lv_at hl 3 rfl) ?_
          refine z_iconst hx hb dX9_fewestOf_31 ?_
          refine z_icmp_eq hx hb dX9_fewestOf_32 (tgt := 41) rfl (by omega) (by omega) (fun b6 => ?_) (fun b6 => ?_)
          · rw [if_pos b6] at hE
            refine lv_iload hx hb dX9_fewestOf_41 (lv_at hl 0 rfl) ?_
            refine lv_goto hx hb dX9_fewestOf_43 (tgt := 47) rfl ?_
            refine lv_istore_n hx hb dX9_fewestOf_47 rfl hl (Nat.le_of_ble_eq_true rfl) (lv' := [(2, .int (iI (fX9_leftOut M table set))), (4, .int (iI (fX9_leftOut M table set))), (0, .ref (E 0)), (1, .int (iI table)), (3, .int (iI set))]) rfl (fun ls hl => ?_)
            refine z_iinc hx hb dX9_fewestOf_48 hl (k := 4) rfl (Nat.le_of_ble_eq_true rfl) (lv' := [(3, .int (iI (set + 1))), (2, .int (iI (fX9_leftOut M table set))), (4, .int (iI (fX9_leftOut M table set))), (0, .ref (E 0)), (1, .int (iI table))]) rfl (fun ls hl => ?_)
            refine lv_goto hx hb dX9_fewestOf_51 (tgt := 4) rfl ?_
            exact ih1 (fX9_leftOut M table set) (set + 1) ls _ _ (lv_sub hl [3, 4, 1, 0] rfl) hP hD hS (by omega) (by omega) (by omega) hE
          · rw [if_neg b6] at hE
            refine lv_iload hx hb dX9_fewestOf_35 (lv_at hl 0 rfl) ?_
            refine lv_iload_n hx hb dX9_fewestOf_37 rfl (lv_at hl 3 rfl) ?_
            refine z_icmp_ge hx hb dX9_fewestOf_38 (tgt := 46) rfl (by omega) (by omega) (fun b7 => ?_) (fun b7 => ?_)
            · rw [if_pos b7] at hE
              refine lv_iload_n hx hb dX9_fewestOf_46 rfl (lv_at hl 3 rfl) ?_
              refine lv_istore_n hx hb dX9_fewestOf_47 rfl hl (Nat.le_of_ble_eq_true rfl) (lv' := [(2, .int (iI best)), (4, .int (iI (fX9_leftOut M table set))), (0, .ref (E 0)), (1, .int (iI table)), (3, .int (iI set))]) rfl (fun ls hl => ?_)
              refine z_iinc hx hb dX9_fewestOf_48 hl (k := 4) rfl (Nat.le_of_ble_eq_true rfl) (lv' := [(3, .int (iI (set + 1))), (2, .int (iI best)), (4, .int (iI (fX9_leftOut M table set))), (0, .ref (E 0)), (1, .int (iI table))]) rfl (fun ls hl => ?_)
              refine lv_goto hx hb dX9_fewestOf_51 (tgt := 4) rfl ?_
              exact ih1 best (set + 1) ls _ _ (lv_sub hl [3, 4, 1, 0] rfl) hP hD hS (by omega) (by omega) (by omega) hE
            · rw [if_neg b7] at hE
              refine lv_iload hx hb dX9_fewestOf_41 (lv_at hl 0 rfl) ?_
              refine lv_goto hx hb dX9_fewestOf_43 (tgt := 47) rfl ?_
              refine lv_istore_n hx hb dX9_fewestOf_47 rfl hl (Nat.le_of_ble_eq_true rfl) (lv' := [(2, .int (iI (fX9_leftOut M table set))), (4, .int (iI (fX9_leftOut M table set))), (0, .ref (E 0)), (1, .int (iI table)), (3, .int (iI set))]) rfl (fun ls hl => ?_)
              refine z_iinc hx hb dX9_fewestOf_48 hl (k := 4) rfl (Nat.le_of_ble_eq_true rfl) (lv' := [(3, .int (iI (set + 1))), (2, .int (iI (fX9_leftOut M table set))), (4, .int (iI (fX9_leftOut M table set))), (0, .ref (E 0)), (1, .int (iI table))]) rfl (fun ls hl => ?_)
              refine lv_goto hx hb dX9_fewestOf_51 (tgt := 4) rfl ?_
              exact ih1 (fX9_leftOut M table set) (set + 1) ls _ _ (lv_sub hl [3, 4, 1, 0] rfl) hP hD hS (by omega) (by omega) (by omega) hE
  exact L1 66 (-1) (0) ls _ _ (lv_sub hl [2, 3, 1, 0] rfl) hP hD hS (by omega) (by omega) (by omega) hE


theorem rg_X9_fewestOf_L {M : Mem} (h : GI M) (t : Int) : ∀ (k : Nat) (b s : Int), -1 ≤ b → b ≤ 100 → -1 ≤ fX9_fewestOf_L1 M t k b s ∧ fX9_fewestOf_L1 M t k b s ≤ 100 := by
  intro k
  induction k with
  | zero => intro b s _ _; exact ⟨(by decide : (-1 : Int) ≤ 0), (by decide : (0 : Int) ≤ 100)⟩
  | succ k ih =>
    intro b s h1 h2
    rw [fX9_fewestOf_L1]
    have := rg_X9_leftOut h t s
    (repeat' split) <;> first | omega | exact ih _ _ (by omega) (by omega)
theorem rg_X9_fewestOf {M : Mem} (h : GI M) (t : Int) : -1 ≤ fX9_fewestOf M t ∧ fX9_fewestOf M t ≤ 100 := rg_X9_fewestOf_L h t 66 (-1) 0 (by decide) (by decide)

def fX9_fewest (M : Mem) (table : Int) : Int × Mem := if ((fX9_isTable table) = 0) then ((fX9_fails M (1)).1, (fX9_fails M (1)).2) else if ((fX9_fewestOf M table) = (-1)) then ((fX9_fails M (2)).1, (fX9_fails M (2)).2) else ((fX9_done M (fX9_fewestOf M table)).1, (fX9_done M (fX9_fewestOf M table)).2)
set_option maxRecDepth 100000 in
set_option maxHeartbeats 4000000 in
theorem kX9_fewest (l : Launch) (D : va_G) (E : Nat → Nat) (cI cC : ClassId) (Z : State → Prop) (hZo : ∀ M : Mem, ZOk (VG E cI cC M) Z) (hZb : ZBl Z) (M : Mem) (table : Int) (h1 : -2147483648 ≤ table ∧ table < 2147483648) (hG : GI M) (r : Int) (M' : Mem) (hE : fX9_fewest M table = (r, M')) : Ci l yX9_fewest wsX9_fewest 5 119 [.ref (E 0), .int (iI table)] D (TY cI cC) (VG E cI cC) Z M r M' := by
  refine Ci.of (cc := cX9_fewest) (maxL := 3) (ret := (some .int)) (by decide +kernel) rfl (Nat.le_of_ble_eq_true rfl) ?_
  intro p e s m args below meth c ls hx hb hml hr hown hts hlocks hP hK hD hZ hS hl
  have hl : lv_has ls 3 [(0, .ref (E 0)), (1, .int (iI table))] := hl
  have S0 : CallFix p m c cX9_fewest 3 s args wsX9_fewest RX9 := ⟨hx, hb, hml, hown, hts⟩
  rw [fX9_fewest] at hE
  refine lv_iload_n hx hb dX9_fewest_0 rfl (lv_at hl 1 rfl) ?_
  refine ct_Si (VG_fix E cI cC) hZo hZb hZ S0 (kX9_isTable l D E cI cC Z hZo hZb M table (by omega) (fX9_isTable table) rfl) (va_cwS 1 hts gX9_fewest_X9_isTable rfl rfl rfl (by decide +kernel) ⟨(Nat.le_of_ble_eq_true rfl), (Nat.le_of_ble_eq_true rfl)⟩) hK hP hD hS rfl hl.1 rfl (Nat.le_of_ble_eq_true rfl) dX9_fewest_1 ⟨Nat.zero_le _, Nat.zero_le _⟩ (fun H locs hP hD hS => ?_)
  have q1 := dX9_isTable table
  refine z_if_ne hx hb dX9_fewest_4 (tgt := 13) rfl (by omega) (fun b2 => ?_) (fun b2 => ?_)
  · rw [if_neg b2] at hE
    refine lv_aload_n hx hb dX9_fewest_13 rfl (lv_at hl 0 rfl) ?_
    refine lv_iload_n hx hb dX9_fewest_14 rfl (lv_at hl 1 rfl) ?_
    refine ct_Vi (VG_fix E cI cC) hZo hZb hZ S0 (kX9_fewestOf l D E cI cC Z hZo hZb M table (by omega) hG (fX9_fewestOf M table) rfl) (cwV 1 hts gX9_fewest_X9_fewestOf rfl rfl rfl (by decide +kernel) ⟨(Nat.le_of_ble_eq_true rfl), (Nat.le_of_ble_eq_true rfl)⟩) hK hP hD hS rfl rfl VG_0 rfl hl.1 rfl (Nat.le_of_ble_eq_true rfl) dX9_fewest_15 ⟨Nat.zero_le _, Nat.zero_le _⟩ (fun H locs hP hD hS => ?_)
    have q3 := rg_X9_fewestOf hG table
    refine lv_istore_n hx hb dX9_fewest_18 rfl hl (Nat.le_of_ble_eq_true rfl) (lv' := [(2, .int (iI (fX9_fewestOf M table))), (0, .ref (E 0)), (1, .int (iI table))]) rfl (fun ls hl => ?_)
    refine lv_iload_n hx hb dX9_fewest_19 rfl (lv_at hl 0 rfl) ?_
    refine z_iconst hx hb dX9_fewest_20 ?_
    refine z_icmp_ne hx hb dX9_fewest_21 (tgt := 32) rfl (by omega) (by omega) (fun b4 => ?_) (fun b4 => ?_)
    · rw [if_neg b4] at hE
      refine lv_aload_n hx hb dX9_fewest_32 rfl (lv_at hl 1 rfl) ?_
      refine lv_iload_n hx hb dX9_fewest_33 rfl (lv_at hl 0 rfl) ?_
      refine ct_Vi (VG_fix E cI cC) hZo hZb hZ S0 (kX9_done l D E cI cC Z hZo hZb M (fX9_fewestOf M table)  (fX9_done M (fX9_fewestOf M table)).1 (fX9_done M (fX9_fewestOf M table)).2 (Prod.ext rfl rfl)) (cwV 1 hts gX9_fewest_X9_done rfl rfl rfl (by decide +kernel) ⟨(Nat.le_of_ble_eq_true rfl), (Nat.le_of_ble_eq_true rfl)⟩) hK hP hD hS rfl rfl VG_0 rfl hl.1 rfl (Nat.le_of_ble_eq_true rfl) dX9_fewest_34 ⟨Nat.zero_le _, Nat.zero_le _⟩ (fun H locs hP hD hS => ?_)
      obtain ⟨e1, e2⟩ := Prod.mk.inj hE
      subst e2
      exact ci_i hx hb hr hlocks e1 rfl hS hP dX9_fewest_37
    · rw [if_pos b4] at hE
      refine lv_aload_n hx hb dX9_fewest_24 rfl (lv_at hl 1 rfl) ?_
      refine z_iconst hx hb dX9_fewest_25 ?_
      refine ct_Vi (VG_fix E cI cC) hZo hZb hZ S0 (kX9_fails l D E cI cC Z hZo hZb M (2)  (fX9_fails M (2)).1 (fX9_fails M (2)).2 (Prod.ext rfl rfl)) (cwV 1 hts gX9_fewest_X9_fails rfl rfl rfl (by decide +kernel) ⟨(Nat.le_of_ble_eq_true rfl), (Nat.le_of_ble_eq_true rfl)⟩) hK hP hD hS rfl rfl VG_0 rfl hl.1 rfl (Nat.le_of_ble_eq_true rfl) dX9_fewest_26 ⟨Nat.zero_le _, Nat.zero_le _⟩ (fun H locs hP hD hS => ?_)
      refine lv_goto hx hb dX9_fewest_29 (tgt := 37) rfl ?_
      obtain ⟨e1, e2⟩ := Prod.mk.inj hE
      subst e2
      exact ci_i hx hb hr hlocks e1 rfl hS hP dX9_fewest_37
  · rw [if_pos b2] at hE
    refine lv_aload_n hx hb dX9_fewest_7 rfl (lv_at hl 0 rfl) ?_
    refine z_iconst hx hb dX9_fewest_8 ?_
    refine ct_Vi (VG_fix E cI cC) hZo hZb hZ S0 (kX9_fails l D E cI cC Z hZo hZb M (1)  (fX9_fails M (1)).1 (fX9_fails M (1)).2 (Prod.ext rfl rfl)) (cwV 1 hts gX9_fewest_X9_fails rfl rfl rfl (by decide +kernel) ⟨(Nat.le_of_ble_eq_true rfl), (Nat.le_of_ble_eq_true rfl)⟩) hK hP hD hS rfl rfl VG_0 rfl hl.1 rfl (Nat.le_of_ble_eq_true rfl) dX9_fewest_9 ⟨Nat.zero_le _, Nat.zero_le _⟩ (fun H locs hP hD hS => ?_)
    obtain ⟨e1, e2⟩ := Prod.mk.inj hE
    subst e2
    exact ci_i hx hb hr hlocks e1 rfl hS hP dX9_fewest_12

theorem fr_fX9_fewest {M : Mem} (table : Int) {r : Nat} (h23 : Nat.beq r 23 = false) (h26 : Nat.beq r 26 = false) : (fX9_fewest M table).2 r = M r := by
  unfold fX9_fewest
  (repeat' with_reducible refine frite_w (fun _ => ?_) (fun _ => ?_)) <;> first | with_reducible rfl | simp only [mst_o, msf_o, mcp_o, fr_fX9_done, fr_fX9_fails, h23, h26]

def fX9_fewestAgain (M : Mem) (table : Int) : Int × Mem := ((fX9_fewest M table).1, (fX9_fewest M table).2)
set_option maxRecDepth 100000 in
set_option maxHeartbeats 4000000 in
theorem kX9_fewestAgain (l : Launch) (D : va_G) (E : Nat → Nat) (cI cC : ClassId) (Z : State → Prop) (hZo : ∀ M : Mem, ZOk (VG E cI cC M) Z) (hZb : ZBl Z) (M : Mem) (table : Int) (h1 : -2147483648 ≤ table ∧ table < 2147483648) (hG : GI M) (r : Int) (M' : Mem) (hE : fX9_fewestAgain M table = (r, M')) : Ci l yX9_fewestAgain wsX9_fewestAgain 6 141 [.ref (E 0), .int (iI table)] D (TY cI cC) (VG E cI cC) Z M r M' := by
  refine Ci.of (cc := cX9_fewestAgain) (maxL := 2) (ret := (some .int)) (by decide +kernel) rfl (Nat.le_of_ble_eq_true rfl) ?_
  intro p e s m args below meth c ls hx hb hml hr hown hts hlocks hP hK hD hZ hS hl
  have hl : lv_has ls 2 [(0, .ref (E 0)), (1, .int (iI table))] := hl
  have S0 : CallFix p m c cX9_fewestAgain 2 s args wsX9_fewestAgain RX9 := ⟨hx, hb, hml, hown, hts⟩
  rw [fX9_fewestAgain] at hE
  refine lv_aload_n hx hb dX9_fewestAgain_0 rfl (lv_at hl 0 rfl) ?_
  refine lv_iload_n hx hb dX9_fewestAgain_1 rfl (lv_at hl 1 rfl) ?_
  refine ct_Vi (VG_fix E cI cC) hZo hZb hZ S0 (kX9_fewest l D E cI cC Z hZo hZb M table (by omega) hG (fX9_fewest M table).1 (fX9_fewest M table).2 (Prod.ext rfl rfl)) (cwV 1 hts gX9_fewestAgain_X9_fewest rfl rfl rfl (by decide +kernel) ⟨(Nat.le_of_ble_eq_true rfl), (Nat.le_of_ble_eq_true rfl)⟩) hK hP hD hS rfl rfl VG_0 rfl hl.1 rfl (Nat.le_of_ble_eq_true rfl) dX9_fewestAgain_2 ⟨Nat.zero_le _, Nat.zero_le _⟩ (fun H locs hP hD hS => ?_)
  obtain ⟨e1, e2⟩ := Prod.mk.inj hE
  subst e2
  exact ci_i hx hb hr hlocks e1 rfl hS hP dX9_fewestAgain_5

theorem fr_fX9_fewestAgain {M : Mem} (table : Int) {r : Nat} (h23 : Nat.beq r 23 = false) (h26 : Nat.beq r 26 = false) : (fX9_fewestAgain M table).2 r = M r := by
  unfold fX9_fewestAgain
  (repeat' with_reducible refine frite_w (fun _ => ?_) (fun _ => ?_)) <;> first | with_reducible rfl | simp only [mst_o, msf_o, mcp_o, fr_fX9_fewest, h23, h26]

def fX9_doubt (M : Mem) (table : Int) : Int × Mem := if ((fX9_isTable table) = 0) then ((fX9_fails M (1)).1, (fX9_fails M (1)).2) else ((fX9_done M (fX9_doubtOf M table)).1, (fX9_done M (fX9_doubtOf M table)).2)
set_option maxRecDepth 100000 in
set_option maxHeartbeats 4000000 in
theorem kX9_doubt (l : Launch) (D : va_G) (E : Nat → Nat) (cI cC : ClassId) (Z : State → Prop) (hZo : ∀ M : Mem, ZOk (VG E cI cC M) Z) (hZb : ZBl Z) (M : Mem) (table : Int) (h1 : -2147483648 ≤ table ∧ table < 2147483648) (hG : GI M) (r : Int) (M' : Mem) (hE : fX9_doubt M table = (r, M')) : Ci l yX9_doubt wsX9_doubt 3 70 [.ref (E 0), .int (iI table)] D (TY cI cC) (VG E cI cC) Z M r M' := by
  refine Ci.of (cc := cX9_doubt) (maxL := 2) (ret := (some .int)) (by decide +kernel) rfl (Nat.le_of_ble_eq_true rfl) ?_
  intro p e s m args below meth c ls hx hb hml hr hown hts hlocks hP hK hD hZ hS hl
  have hl : lv_has ls 2 [(0, .ref (E 0)), (1, .int (iI table))] := hl
  have S0 : CallFix p m c cX9_doubt 2 s args wsX9_doubt RX9 := ⟨hx, hb, hml, hown, hts⟩
  rw [fX9_doubt] at hE
  refine lv_iload_n hx hb dX9_doubt_0 rfl (lv_at hl 1 rfl) ?_
  refine ct_Si (VG_fix E cI cC) hZo hZb hZ S0 (kX9_isTable l D E cI cC Z hZo hZb M table (by omega) (fX9_isTable table) rfl) (va_cwS 1 hts gX9_doubt_X9_isTable rfl rfl rfl (by decide +kernel) ⟨(Nat.le_of_ble_eq_true rfl), (Nat.le_of_ble_eq_true rfl)⟩) hK hP hD hS rfl hl.1 rfl (Nat.le_of_ble_eq_true rfl) dX9_doubt_1 ⟨Nat.zero_le _, Nat.zero_le _⟩ (fun H locs hP hD hS => ?_)
  have q1 := dX9_isTable table
  refine z_if_eq hx hb dX9_doubt_4 (tgt := 19) rfl (by omega) (fun b2 => ?_) (fun b2 => ?_)
  · rw [if_pos b2] at hE
    refine lv_aload_n hx hb dX9_doubt_19 rfl (lv_at hl 0 rfl) ?_
    refine z_iconst hx hb dX9_doubt_20 ?_
    refine ct_Vi (VG_fix E cI cC) hZo hZb hZ S0 (kX9_fails l D E cI cC Z hZo hZb M (1)  (fX9_fails M (1)).1 (fX9_fails M (1)).2 (Prod.ext rfl rfl)) (cwV 1 hts gX9_doubt_X9_fails rfl rfl rfl (by decide +kernel) ⟨(Nat.le_of_ble_eq_true rfl), (Nat.le_of_ble_eq_true rfl)⟩) hK hP hD hS rfl rfl VG_0 rfl hl.1 rfl (Nat.le_of_ble_eq_true rfl) dX9_doubt_21 ⟨Nat.zero_le _, Nat.zero_le _⟩ (fun H locs hP hD hS => ?_)
    obtain ⟨e1, e2⟩ := Prod.mk.inj hE
    subst e2
    exact ci_i hx hb hr hlocks e1 rfl hS hP dX9_doubt_24
  · rw [if_neg b2] at hE
    refine lv_aload_n hx hb dX9_doubt_7 rfl (lv_at hl 0 rfl) ?_
    refine lv_aload_n hx hb dX9_doubt_8 rfl (lv_at hl 0 rfl) ?_
    refine lv_iload_n hx hb dX9_doubt_9 rfl (lv_at hl 1 rfl) ?_
    refine ct_Vi (VG_fix E cI cC) hZo hZb hZ S0 (kX9_doubtOf l D E cI cC Z hZo hZb M table (by omega) hG (fX9_doubtOf M table) rfl) (cwV 1 hts gX9_doubt_X9_doubtOf rfl rfl rfl (by decide +kernel) ⟨(Nat.le_of_ble_eq_true rfl), (Nat.le_of_ble_eq_true rfl)⟩) hK hP hD hS rfl rfl VG_0 rfl hl.1 rfl (Nat.le_of_ble_eq_true rfl) dX9_doubt_10 ⟨Nat.zero_le _, Nat.zero_le _⟩ (fun H locs hP hD hS => ?_)
    have q3 := rg_X9_doubtOf hG table (by omega)
    refine ct_Vi (VG_fix E cI cC) hZo hZb hZ S0 (kX9_done l D E cI cC Z hZo hZb M (fX9_doubtOf M table)  (fX9_done M (fX9_doubtOf M table)).1 (fX9_done M (fX9_doubtOf M table)).2 (Prod.ext rfl rfl)) (cwV 1 hts gX9_doubt_X9_done rfl rfl rfl (by decide +kernel) ⟨(Nat.le_of_ble_eq_true rfl), (Nat.le_of_ble_eq_true rfl)⟩) hK hP hD hS rfl rfl VG_0 rfl hl.1 rfl (Nat.le_of_ble_eq_true rfl) dX9_doubt_13 ⟨Nat.zero_le _, Nat.zero_le _⟩ (fun H locs hP hD hS => ?_)
    refine lv_goto hx hb dX9_doubt_16 (tgt := 24) rfl ?_
    obtain ⟨e1, e2⟩ := Prod.mk.inj hE
    subst e2
    exact ci_i hx hb hr hlocks e1 rfl hS hP dX9_doubt_24

theorem fr_fX9_doubt {M : Mem} (table : Int) {r : Nat} (h23 : Nat.beq r 23 = false) (h26 : Nat.beq r 26 = false) : (fX9_doubt M table).2 r = M r := by
  unfold fX9_doubt
  (repeat' with_reducible refine frite_w (fun _ => ?_) (fun _ => ?_)) <;> first | with_reducible rfl | simp only [mst_o, msf_o, mcp_o, fr_fX9_done, fr_fX9_fails, h23, h26]

def fX9_doubtAgain (M : Mem) (table : Int) : Int × Mem := ((fX9_doubt M table).1, (fX9_doubt M table).2)
set_option maxRecDepth 100000 in
set_option maxHeartbeats 4000000 in
theorem kX9_doubtAgain (l : Launch) (D : va_G) (E : Nat → Nat) (cI cC : ClassId) (Z : State → Prop) (hZo : ∀ M : Mem, ZOk (VG E cI cC M) Z) (hZb : ZBl Z) (M : Mem) (table : Int) (h1 : -2147483648 ≤ table ∧ table < 2147483648) (hG : GI M) (r : Int) (M' : Mem) (hE : fX9_doubtAgain M table = (r, M')) : Ci l yX9_doubtAgain wsX9_doubtAgain 4 91 [.ref (E 0), .int (iI table)] D (TY cI cC) (VG E cI cC) Z M r M' := by
  refine Ci.of (cc := cX9_doubtAgain) (maxL := 2) (ret := (some .int)) (by decide +kernel) rfl (Nat.le_of_ble_eq_true rfl) ?_
  intro p e s m args below meth c ls hx hb hml hr hown hts hlocks hP hK hD hZ hS hl
  have hl : lv_has ls 2 [(0, .ref (E 0)), (1, .int (iI table))] := hl
  have S0 : CallFix p m c cX9_doubtAgain 2 s args wsX9_doubtAgain RX9 := ⟨hx, hb, hml, hown, hts⟩
  rw [fX9_doubtAgain] at hE
  refine lv_aload_n hx hb dX9_doubtAgain_0 rfl (lv_at hl 0 rfl) ?_
  refine lv_iload_n hx hb dX9_doubtAgain_1 rfl (lv_at hl 1 rfl) ?_
  refine ct_Vi (VG_fix E cI cC) hZo hZb hZ S0 (kX9_doubt l D E cI cC Z hZo hZb M table (by omega) hG (fX9_doubt M table).1 (fX9_doubt M table).2 (Prod.ext rfl rfl)) (cwV 1 hts gX9_doubtAgain_X9_doubt rfl rfl rfl (by decide +kernel) ⟨(Nat.le_of_ble_eq_true rfl), (Nat.le_of_ble_eq_true rfl)⟩) hK hP hD hS rfl rfl VG_0 rfl hl.1 rfl (Nat.le_of_ble_eq_true rfl) dX9_doubtAgain_2 ⟨Nat.zero_le _, Nat.zero_le _⟩ (fun H locs hP hD hS => ?_)
  obtain ⟨e1, e2⟩ := Prod.mk.inj hE
  subst e2
  exact ci_i hx hb hr hlocks e1 rfl hS hP dX9_doubtAgain_5

theorem fr_fX9_doubtAgain {M : Mem} (table : Int) {r : Nat} (h23 : Nat.beq r 23 = false) (h26 : Nat.beq r 26 = false) : (fX9_doubtAgain M table).2 r = M r := by
  unfold fX9_doubtAgain
  (repeat' with_reducible refine frite_w (fun _ => ?_) (fun _ => ?_)) <;> first | with_reducible rfl | simp only [mst_o, msf_o, mcp_o, fr_fX9_doubt, h23, h26]


theorem fp_gsure : ∀ n : Fin 7, ∀ d : Fin 101, n.val ≠ 0 → vf_n32 (FP.fdiv (FP.i2f (iI (100 * (n.val : Int) - 10 * (d.val : Int)))) (FP.i2f (iI (n.val : Int)))) := by unfold vf_n32; decide +kernel
theorem fp_gsureI {n d : Int} (h1 : 0 ≤ n ∧ n ≤ 6) (h0 : ¬ n = 0) (h2 : 0 ≤ d ∧ d ≤ 100) : vf_n32 (FP.fdiv (FP.i2f (iI (100 * n - 10 * d))) (FP.i2f (iI n))) := by
  obtain ⟨a, rfl⟩ := Int.eq_ofNat_of_zero_le h1.1
  obtain ⟨b, rfl⟩ := Int.eq_ofNat_of_zero_le h2.1
  exact fp_gsure ⟨a, by omega⟩ ⟨b, by omega⟩ (by show a ≠ 0; omega)

def fX9_sure (M : Mem) (table : Int) : Int × Mem := if ((fX9_isTable table) = 0) then ((fX9_fails M (1)).1, (fX9_fails M (1)).2) else if ((fX9_countOf M table (0)) = 0) then ((fX9_fails M (2)).1, (fX9_fails M (2)).2) else ((fX9_done M (zf2i (FP.fdiv (FP.i2f (iI (((100) * (fX9_countOf M table (0))) - ((10) * (fX9_doubtOf M table))))) (FP.i2f (iI (fX9_countOf M table (0))))))).1, (fX9_done M (zf2i (FP.fdiv (FP.i2f (iI (((100) * (fX9_countOf M table (0))) - ((10) * (fX9_doubtOf M table))))) (FP.i2f (iI (fX9_countOf M table (0))))))).2)
set_option maxRecDepth 100000 in
set_option maxHeartbeats 4000000 in
theorem kX9_sure (l : Launch) (D : va_G) (E : Nat → Nat) (cI cC : ClassId) (Z : State → Prop) (hZo : ∀ M : Mem, ZOk (VG E cI cC M) Z) (hZb : ZBl Z) (M : Mem) (table : Int) (h1 : -2147483648 ≤ table ∧ table < 2147483648) (hG : GI M) (r : Int) (M' : Mem) (hE : fX9_sure M table = (r, M')) : Ci l yX9_sure wsX9_sure 3 70 [.ref (E 0), .int (iI table)] D (TY cI cC) (VG E cI cC) Z M r M' := by
  refine Ci.of (cc := cX9_sure) (maxL := 3) (ret := (some .int)) (by decide +kernel) rfl (Nat.le_of_ble_eq_true rfl) ?_
  intro p e s m args below meth c ls hx hb hml hr hown hts hlocks hP hK hD hZ hS hl
  have hl : lv_has ls 3 [(0, .ref (E 0)), (1, .int (iI table))] := hl
  have S0 : CallFix p m c cX9_sure 3 s args wsX9_sure RX9 := ⟨hx, hb, hml, hown, hts⟩
  rw [fX9_sure] at hE
  refine lv_iload_n hx hb dX9_sure_0 rfl (lv_at hl 1 rfl) ?_
  refine ct_Si (VG_fix E cI cC) hZo hZb hZ S0 (kX9_isTable l D E cI cC Z hZo hZb M table (by omega) (fX9_isTable table) rfl) (va_cwS 1 hts gX9_sure_X9_isTable rfl rfl rfl (by decide +kernel) ⟨(Nat.le_of_ble_eq_true rfl), (Nat.le_of_ble_eq_true rfl)⟩) hK hP hD hS rfl hl.1 rfl (Nat.le_of_ble_eq_true rfl) dX9_sure_1 ⟨Nat.zero_le _, Nat.zero_le _⟩ (fun H locs hP hD hS => ?_)
  have q1 := dX9_isTable table
  refine z_if_ne hx hb dX9_sure_4 (tgt := 13) rfl (by omega) (fun b2 => ?_) (fun b2 => ?_)
  · rw [if_neg b2] at hE
    refine lv_aload_n hx hb dX9_sure_13 rfl (lv_at hl 0 rfl) ?_
    refine lv_iload_n hx hb dX9_sure_14 rfl (lv_at hl 1 rfl) ?_
    refine z_iconst hx hb dX9_sure_15 ?_
    refine ct_Vi (VG_fix E cI cC) hZo hZb hZ S0 (kX9_countOf l D E cI cC Z hZo hZb M table (0) (by omega) (by omega) hG (fX9_countOf M table (0)) rfl) (cwV 2 hts gX9_sure_X9_countOf rfl rfl rfl (by decide +kernel) ⟨(Nat.le_of_ble_eq_true rfl), (Nat.le_of_ble_eq_true rfl)⟩) hK hP hD hS rfl rfl VG_0 rfl hl.1 rfl (Nat.le_of_ble_eq_true rfl) dX9_sure_16 ⟨Nat.zero_le _, Nat.zero_le _⟩ (fun H locs hP hD hS => ?_)
    have q3 := rg_X9_countOf hG table (0) (by omega)
    refine lv_istore_n hx hb dX9_sure_19 rfl hl (Nat.le_of_ble_eq_true rfl) (lv' := [(2, .int (iI (fX9_countOf M table (0)))), (0, .ref (E 0)), (1, .int (iI table))]) rfl (fun ls hl => ?_)
    refine lv_iload_n hx hb dX9_sure_20 rfl (lv_at hl 0 rfl) ?_
    refine z_if_ne hx hb dX9_sure_21 (tgt := 30) rfl (by omega) (fun b4 => ?_) (fun b4 => ?_)
    · rw [if_neg b4] at hE
      refine lv_aload_n hx hb dX9_sure_30 rfl (lv_at hl 1 rfl) ?_
      refine z_bipush hx hb dX9_sure_31 (by decide +kernel) ?_
      refine lv_iload_n hx hb dX9_sure_33 rfl (lv_at hl 0 rfl) ?_
      refine z_imul hx hb dX9_sure_34 ?_
      refine z_bipush hx hb dX9_sure_35 (by decide +kernel) ?_
      refine lv_aload_n hx hb dX9_sure_37 rfl (lv_at hl 1 rfl) ?_
      refine lv_iload_n hx hb dX9_sure_38 rfl (lv_at hl 2 rfl) ?_
      refine ct_Vi (VG_fix E cI cC) hZo hZb hZ S0 (kX9_doubtOf l D E cI cC Z hZo hZb M table (by omega) hG (fX9_doubtOf M table) rfl) (cwV 1 hts gX9_sure_X9_doubtOf rfl rfl rfl (by decide +kernel) ⟨(Nat.le_of_ble_eq_true rfl), (Nat.le_of_ble_eq_true rfl)⟩) hK hP hD hS rfl rfl VG_0 rfl hl.1 rfl (Nat.le_of_ble_eq_true rfl) dX9_sure_39 ⟨Nat.zero_le _, Nat.zero_le _⟩ (fun H locs hP hD hS => ?_)
      have q5 := rg_X9_doubtOf hG table (by omega)
      refine z_imul hx hb dX9_sure_42 ?_
      refine z_isub hx hb dX9_sure_43 ?_
      refine lv_i2f hx hb dX9_sure_44 ?_
      refine lv_iload_n hx hb dX9_sure_45 rfl (lv_at hl 0 rfl) ?_
      refine lv_i2f hx hb dX9_sure_46 ?_
      refine lv_fdiv hx hb dX9_sure_47 (fp_gsureI (rg_X9_countOf hG table 0 (by omega)) (by assumption) (rg_X9_doubtOf hG table (by omega))) ?_
      refine z_f2i hx hb dX9_sure_48 ?_
      refine ct_Vi (VG_fix E cI cC) hZo hZb hZ S0 (kX9_done l D E cI cC Z hZo hZb M (zf2i (FP.fdiv (FP.i2f (iI (((100) * (fX9_countOf M table (0))) - ((10) * (fX9_doubtOf M table))))) (FP.i2f (iI (fX9_countOf M table (0))))))  (fX9_done M (zf2i (FP.fdiv (FP.i2f (iI (((100) * (fX9_countOf M table (0))) - ((10) * (fX9_doubtOf M table))))) (FP.i2f (iI (fX9_countOf M table (0))))))).1 (fX9_done M (zf2i (FP.fdiv (FP.i2f (iI (((100) * (fX9_countOf M table (0))) - ((10) * (fX9_doubtOf M table))))) (FP.i2f (iI (fX9_countOf M table (0))))))).2 (Prod.ext rfl rfl)) (cwV 1 hts gX9_sure_X9_done rfl rfl rfl (by decide +kernel) ⟨(Nat.le_of_ble_eq_true rfl), (Nat.le_of_ble_eq_true rfl)⟩) hK hP hD hS rfl rfl VG_0 rfl hl.1 rfl (Nat.le_of_ble_eq_true rfl) dX9_sure_49 ⟨Nat.zero_le _, Nat.zero_le _⟩ (fun H locs hP hD hS => ?_)
      obtain ⟨e1, e2⟩ := Prod.mk.inj hE
      subst e2
      exact ci_i hx hb hr hlocks e1 rfl hS hP dX9_sure_52
    · rw [if_pos b4] at hE
      refine lv_aload_n hx hb dX9_sure_24 rfl (lv_at hl 1 rfl) ?_
      refine z_iconst hx hb dX9_sure_25 ?_
      refine ct_Vi (VG_fix E cI cC) hZo hZb hZ S0 (kX9_fails l D E cI cC Z hZo hZb M (2)  (fX9_fails M (2)).1 (fX9_fails M (2)).2 (Prod.ext rfl rfl)) (cwV 1 hts gX9_sure_X9_fails rfl rfl rfl (by decide +kernel) ⟨(Nat.le_of_ble_eq_true rfl), (Nat.le_of_ble_eq_true rfl)⟩) hK hP hD hS rfl rfl VG_0 rfl hl.1 rfl (Nat.le_of_ble_eq_true rfl) dX9_sure_26 ⟨Nat.zero_le _, Nat.zero_le _⟩ (fun H locs hP hD hS => ?_)
      obtain ⟨e1, e2⟩ := Prod.mk.inj hE
      subst e2
      exact ci_i hx hb hr hlocks e1 rfl hS hP dX9_sure_29
  · rw [if_pos b2] at hE
    refine lv_aload_n hx hb dX9_sure_7 rfl (lv_at hl 0 rfl) ?_
    refine z_iconst hx hb dX9_sure_8 ?_
    refine ct_Vi (VG_fix E cI cC) hZo hZb hZ S0 (kX9_fails l D E cI cC Z hZo hZb M (1)  (fX9_fails M (1)).1 (fX9_fails M (1)).2 (Prod.ext rfl rfl)) (cwV 1 hts gX9_sure_X9_fails rfl rfl rfl (by decide +kernel) ⟨(Nat.le_of_ble_eq_true rfl), (Nat.le_of_ble_eq_true rfl)⟩) hK hP hD hS rfl rfl VG_0 rfl hl.1 rfl (Nat.le_of_ble_eq_true rfl) dX9_sure_9 ⟨Nat.zero_le _, Nat.zero_le _⟩ (fun H locs hP hD hS => ?_)
    obtain ⟨e1, e2⟩ := Prod.mk.inj hE
    subst e2
    exact ci_i hx hb hr hlocks e1 rfl hS hP dX9_sure_12

theorem fr_fX9_sure {M : Mem} (table : Int) {r : Nat} (h23 : Nat.beq r 23 = false) (h26 : Nat.beq r 26 = false) : (fX9_sure M table).2 r = M r := by
  unfold fX9_sure
  (repeat' with_reducible refine frite_w (fun _ => ?_) (fun _ => ?_)) <;> first | with_reducible rfl | simp only [mst_o, msf_o, mcp_o, fr_fX9_done, fr_fX9_fails, h23, h26]

def fX9_isClearer (M : Mem) (o tab : Int) : Int := if (0 < ((fX9_phrasesOf M o) - (fX9_phrasesOf M tab))) then (1) else if (((fX9_phrasesOf M o) - (fX9_phrasesOf M tab)) = 0) then if (0 < ((fX9_doubtOf M tab) - (fX9_doubtOf M o))) then (1) else if (((fX9_doubtOf M tab) - (fX9_doubtOf M o)) = 0) then if (tab ≤ o) then (0) else (1) else (0) else (0)
set_option maxRecDepth 100000 in
set_option maxHeartbeats 4000000 in
theorem kX9_isClearer (l : Launch) (D : va_G) (E : Nat → Nat) (cI cC : ClassId) (Z : State → Prop) (hZo : ∀ M : Mem, ZOk (VG E cI cC M) Z) (hZb : ZBl Z) (M : Mem) (o tab : Int) (h1 : 0 ≤ o ∧ o < 3) (h2 : 0 ≤ tab ∧ tab < 3) (hG : GI M) (r : Int) (hE : fX9_isClearer M o tab = r) : Ci l yX9_isClearer wsX9_isClearer 6 134 [.ref (E 0), .int (iI o), .int (iI tab)] D (TY cI cC) (VG E cI cC) Z M r M := by
  refine Ci.of (cc := cX9_isClearer) (maxL := 5) (ret := (some .boolean)) (by decide +kernel) rfl (Nat.le_of_ble_eq_true rfl) ?_
  intro p e s m args below meth c ls hx hb hml hr hown hts hlocks hP hK hD hZ hS hl
  have hl : lv_has ls 5 [(0, .ref (E 0)), (1, .int (iI o)), (2, .int (iI tab))] := hl
  have S0 : CallFix p m c cX9_isClearer 5 s args wsX9_isClearer RX9 := ⟨hx, hb, hml, hown, hts⟩
  rw [fX9_isClearer] at hE
  refine lv_aload_n hx hb dX9_isClearer_0 rfl (lv_at hl 0 rfl) ?_
  refine lv_iload_n hx hb dX9_isClearer_1 rfl (lv_at hl 1 rfl) ?_
  refine ct_Vi (VG_fix E cI cC) hZo hZb hZ S0 (kX9_phrasesOf l D E cI cC Z hZo hZb M o (by omega) hG (fX9_phrasesOf M o) rfl) (cwV 1 hts gX9_isClearer_X9_phrasesOf rfl rfl rfl (by decide +kernel) ⟨(Nat.le_of_ble_eq_true rfl), (Nat.le_of_ble_eq_true rfl)⟩) hK hP hD hS rfl rfl VG_0 rfl hl.1 rfl (Nat.le_of_ble_eq_true rfl) dX9_isClearer_2 ⟨Nat.zero_le _, Nat.zero_le _⟩ (fun H locs hP hD hS => ?_)
  have q1 := rg_X9_phrasesOf hG o (by omega)
  refine lv_aload_n hx hb dX9_isClearer_5 rfl (lv_at hl 0 rfl) ?_
  refine lv_iload_n hx hb dX9_isClearer_6 rfl (lv_at hl 2 rfl) ?_
  refine ct_Vi (VG_fix E cI cC) hZo hZb hZ S0 (kX9_phrasesOf l D E cI cC Z hZo hZb M tab (by omega) hG (fX9_phrasesOf M tab) rfl) (cwV 1 hts gX9_isClearer_X9_phrasesOf rfl rfl rfl (by decide +kernel) ⟨(Nat.le_of_ble_eq_true rfl), (Nat.le_of_ble_eq_true rfl)⟩) hK hP hD hS rfl rfl VG_0 rfl hl.1 rfl (Nat.le_of_ble_eq_true rfl) dX9_isClearer_7 ⟨Nat.zero_le _, Nat.zero_le _⟩ (fun H locs hP hD hS => ?_)
  have q2 := rg_X9_phrasesOf hG tab (by omega)
  refine z_isub hx hb dX9_isClearer_10 ?_
  refine lv_istore_n hx hb dX9_isClearer_11 rfl hl (Nat.le_of_ble_eq_true rfl) (lv' := [(3, .int (iI ((fX9_phrasesOf M o) - (fX9_phrasesOf M tab)))), (0, .ref (E 0)), (1, .int (iI o)), (2, .int (iI tab))]) rfl (fun ls hl => ?_)
  refine lv_aload_n hx hb dX9_isClearer_12 rfl (lv_at hl 1 rfl) ?_
  refine lv_iload_n hx hb dX9_isClearer_13 rfl (lv_at hl 3 rfl) ?_
  refine ct_Vi (VG_fix E cI cC) hZo hZb hZ S0 (kX9_doubtOf l D E cI cC Z hZo hZb M tab (by omega) hG (fX9_doubtOf M tab) rfl) (cwV 1 hts gX9_isClearer_X9_doubtOf rfl rfl rfl (by decide +kernel) ⟨(Nat.le_of_ble_eq_true rfl), (Nat.le_of_ble_eq_true rfl)⟩) hK hP hD hS rfl rfl VG_0 rfl hl.1 rfl (Nat.le_of_ble_eq_true rfl) dX9_isClearer_14 ⟨Nat.zero_le _, Nat.zero_le _⟩ (fun H locs hP hD hS => ?_)
  have q3 := rg_X9_doubtOf hG tab (by omega)
  refine lv_aload_n hx hb dX9_isClearer_17 rfl (lv_at hl 1 rfl) ?_
  refine lv_iload_n hx hb dX9_isClearer_18 rfl (lv_at hl 2 rfl) ?_
  refine ct_Vi (VG_fix E cI cC) hZo hZb hZ S0 (kX9_doubtOf l D E cI cC Z hZo hZb M o (by omega) hG (fX9_doubtOf M o) rfl) (cwV 1 hts gX9_isClearer_X9_doubtOf rfl rfl rfl (by decide +kernel) ⟨(Nat.le_of_ble_eq_true rfl), (Nat.le_of_ble_eq_true rfl)⟩) hK hP hD hS rfl rfl VG_0 rfl hl.1 rfl (Nat.le_of_ble_eq_true rfl) dX9_isClearer_19 ⟨Nat.zero_le _, Nat.zero_le _⟩ (fun H locs hP hD hS => ?_)
  have q4 := rg_X9_doubtOf hG o (by omega)
  refine z_isub hx hb dX9_isClearer_22 ?_
  refine lv_istore hx hb dX9_isClearer_23 hl (Nat.le_of_ble_eq_true rfl) (lv' := [(4, .int (iI ((fX9_doubtOf M tab) - (fX9_doubtOf M o)))), (3, .int (iI ((fX9_phrasesOf M o) - (fX9_phrasesOf M tab)))), (0, .ref (E 0)), (1, .int (iI o)), (2, .int (iI tab))]) rfl (fun ls hl => ?_)
  refine lv_iload_n hx hb dX9_isClearer_25 rfl (lv_at hl 1 rfl) ?_
  refine z_if_gt hx hb dX9_isClearer_26 (tgt := 48) rfl (by omega) (fun b5 => ?_) (fun b5 => ?_)
  · rw [if_pos b5] at hE
    refine z_iconst hx hb dX9_isClearer_48 ?_
    refine lv_goto hx hb dX9_isClearer_49 (tgt := 53) rfl ?_
    exact ci_i hx hb hr hlocks hE nr_b1 hS hP dX9_isClearer_53
  · rw [if_neg b5] at hE
    refine lv_iload_n hx hb dX9_isClearer_29 rfl (lv_at hl 1 rfl) ?_
    refine z_if_ne hx hb dX9_isClearer_30 (tgt := 52) rfl (by omega) (fun b6 => ?_) (fun b6 => ?_)
    · rw [if_neg b6] at hE
      refine z_iconst hx hb dX9_isClearer_52 ?_
      exact ci_i hx hb hr hlocks hE nr_b0 hS hP dX9_isClearer_53
    · rw [if_pos b6] at hE
      refine lv_iload hx hb dX9_isClearer_33 (lv_at hl 0 rfl) ?_
      refine z_if_gt hx hb dX9_isClearer_35 (tgt := 48) rfl (by omega) (fun b7 => ?_) (fun b7 => ?_)
      · rw [if_pos b7] at hE
        refine z_iconst hx hb dX9_isClearer_48 ?_
        refine lv_goto hx hb dX9_isClearer_49 (tgt := 53) rfl ?_
        exact ci_i hx hb hr hlocks hE nr_b1 hS hP dX9_isClearer_53
      · rw [if_neg b7] at hE
        refine lv_iload hx hb dX9_isClearer_38 (lv_at hl 0 rfl) ?_
        refine z_if_ne hx hb dX9_isClearer_40 (tgt := 52) rfl (by omega) (fun b8 => ?_) (fun b8 => ?_)
        · rw [if_neg b8] at hE
          refine z_iconst hx hb dX9_isClearer_52 ?_
          exact ci_i hx hb hr hlocks hE nr_b0 hS hP dX9_isClearer_53
        · rw [if_pos b8] at hE
          refine lv_iload_n hx hb dX9_isClearer_43 rfl (lv_at hl 3 rfl) ?_
          refine lv_iload_n hx hb dX9_isClearer_44 rfl (lv_at hl 4 rfl) ?_
          refine z_icmp_ge hx hb dX9_isClearer_45 (tgt := 52) rfl (by omega) (by omega) (fun b9 => ?_) (fun b9 => ?_)
          · rw [if_pos b9] at hE
            refine z_iconst hx hb dX9_isClearer_52 ?_
            exact ci_i hx hb hr hlocks hE nr_b0 hS hP dX9_isClearer_53
          · rw [if_neg b9] at hE
            refine z_iconst hx hb dX9_isClearer_48 ?_
            refine lv_goto hx hb dX9_isClearer_49 (tgt := 53) rfl ?_
            exact ci_i hx hb hr hlocks hE nr_b1 hS hP dX9_isClearer_53


theorem bX9_isClearer (M : Mem) (o t : Int) : 0 ≤ fX9_isClearer M o t ∧ fX9_isClearer M o t ≤ 1 := by unfold fX9_isClearer; (repeat' split) <;> omega

def fX9_clearest_L2 (M : Mem) (place : Int) (tab : Int) (K : Int → Int × Mem) : Nat → Int → Int → (Int × Mem)
  | 0, _, _ => (0, M)
  | k2 + 1, n, o => if ((3) ≤ o) then if (n = place) then ((fX9_done M tab).1, (fX9_done M tab).2) else K (tab + 1) else if ((fX9_isClearer M o tab) = 0) then fX9_clearest_L2 M place tab K k2 (n + (0)) (o + 1) else fX9_clearest_L2 M place tab K k2 (n + (1)) (o + 1)
def fX9_clearest_L1 (M : Mem) (place : Int) : Nat → Int → (Int × Mem)
  | 0, _ => (0, M)
  | k1 + 1, tab => if ((3) ≤ tab) then ((fX9_fails M (1)).1, (fX9_fails M (1)).2) else fX9_clearest_L2 M place tab (fun x0 => fX9_clearest_L1 M place k1 x0) 4 (0) (0)
def fX9_clearest (M : Mem) (place : Int) : Int × Mem := fX9_clearest_L1 M place 4 (0)
set_option maxRecDepth 100000 in
set_option maxHeartbeats 4000000 in
theorem kX9_clearest (l : Launch) (D : va_G) (E : Nat → Nat) (cI cC : ClassId) (Z : State → Prop) (hZo : ∀ M : Mem, ZOk (VG E cI cC M) Z) (hZb : ZBl Z) (M : Mem) (place : Int) (h1 : -2147483648 ≤ place ∧ place < 2147483648) (hG : GI M) (r : Int) (M' : Mem) (hE : fX9_clearest M place = (r, M')) : Ci l yX9_clearest wsX9_clearest 7 158 [.ref (E 0), .int (iI place)] D (TY cI cC) (VG E cI cC) Z M r M' := by
  refine Ci.of (cc := cX9_clearest) (maxL := 5) (ret := (some .int)) (by decide +kernel) rfl (Nat.le_of_ble_eq_true rfl) ?_
  intro p e s m args below meth c ls hx hb hml hr hown hts hlocks hP hK hD hZ hS hl
  have hl : lv_has ls 5 [(0, .ref (E 0)), (1, .int (iI place))] := hl
  have S0 : CallFix p m c cX9_clearest 5 s args wsX9_clearest RX9 := ⟨hx, hb, hml, hown, hts⟩
  rw [fX9_clearest] at hE
  refine z_iconst hx hb dX9_clearest_0 ?_
  refine lv_istore_n hx hb dX9_clearest_1 rfl hl (Nat.le_of_ble_eq_true rfl) (lv' := [(2, .int (iI (0))), (0, .ref (E 0)), (1, .int (iI place))]) rfl (fun ls hl => ?_)
  have L1 : ∀ (k1 : Nat) (tab : Int) (ls : Array Slot) (H : Heap) (locs : List Loc), lv_has ls 5 [(0, .ref (E 0)), (1, .int (iI place)), (2, .int (iI tab))] → va_P D vwCl (VG E cI cC M) H → va_D (wA (VG E cI cC M)) (VG E cI cC M) → va_S (wA (VG E cI cC M)) s.heap H locs → (0 ≤ tab ∧ tab ≤ 3) → (3 - tab < (k1 : Int)) → fX9_clearest_L1 M place k1 tab = (r, M') → W p l e (zRm 7 158) s m args below meth c H locs 0 0 (MQ below (ciQ D (VG E cI cC) M r M') args s 0 0 (wA (VG E cI cC M))) (F0 m 2 ls []) := by
    intro k1
    induction k1 with
    | zero => intro tab ls H locs hl hP hD hS i1 i3 hE; exfalso; omega
    | succ k1 ih1 =>
      intro tab ls H locs hl hP hD hS i1 i3 hE
      rw [fX9_clearest_L1] at hE
      refine lv_iload_n hx hb dX9_clearest_2 rfl (lv_at hl 2 rfl) ?_
      refine z_iconst hx hb dX9_clearest_3 ?_
      refine z_icmp_ge hx hb dX9_clearest_4 (tgt := 59) rfl (by omega) (by omega) (fun b1 => ?_) (fun b1 => ?_)
      · rw [if_pos b1] at hE
        refine lv_aload_n hx hb dX9_clearest_59 rfl (lv_at hl 0 rfl) ?_
        refine z_iconst hx hb dX9_clearest_60 ?_
        refine ct_Vi (VG_fix E cI cC) hZo hZb hZ S0 (kX9_fails l D E cI cC Z hZo hZb M (1)  (fX9_fails M (1)).1 (fX9_fails M (1)).2 (Prod.ext rfl rfl)) (cwV 1 hts gX9_clearest_X9_fails rfl rfl rfl (by decide +kernel) ⟨(Nat.le_of_ble_eq_true rfl), (Nat.le_of_ble_eq_true rfl)⟩) hK hP hD hS rfl rfl VG_0 rfl hl.1 rfl (Nat.le_of_ble_eq_true rfl) dX9_clearest_61 ⟨Nat.zero_le _, Nat.zero_le _⟩ (fun H locs hP hD hS => ?_)
        obtain ⟨e1, e2⟩ := Prod.mk.inj hE
        subst e2
        exact ci_i hx hb hr hlocks e1 rfl hS hP dX9_clearest_64
      · rw [if_neg b1] at hE
        refine z_iconst hx hb dX9_clearest_7 ?_
        refine lv_istore_n hx hb dX9_clearest_8 rfl hl (Nat.le_of_ble_eq_true rfl) (lv' := [(3, .int (iI (0))), (0, .ref (E 0)), (1, .int (iI place)), (2, .int (iI tab))]) rfl (fun ls hl => ?_)
        refine z_iconst hx hb dX9_clearest_9 ?_
        refine lv_istore hx hb dX9_clearest_10 hl (Nat.le_of_ble_eq_true rfl) (lv' := [(4, .int (iI (0))), (3, .int (iI (0))), (0, .ref (E 0)), (1, .int (iI place)), (2, .int (iI tab))]) rfl (fun ls hl => ?_)
        have L2 : ∀ (k2 : Nat) (n o : Int) (ls : Array Slot) (H : Heap) (locs : List Loc), lv_has ls 5 [(0, .ref (E 0)), (1, .int (iI place)), (2, .int (iI tab)), (3, .int (iI n)), (4, .int (iI o))] → va_P D vwCl (VG E cI cC M) H → va_D (wA (VG E cI cC M)) (VG E cI cC M) → va_S (wA (VG E cI cC M)) s.heap H locs → (0 ≤ o ∧ o ≤ 3) → (0 ≤ n ∧ n ≤ o) → (3 - o < (k2 : Int)) → fX9_clearest_L2 M place tab (fun x0 => fX9_clearest_L1 M place k1 x0) k2 n o = (r, M') → W p l e (zRm 7 158) s m args below meth c H locs 0 0 (MQ below (ciQ D (VG E cI cC) M r M') args s 0 0 (wA (VG E cI cC M))) (F0 m 12 ls []) := by
          intro k2
          induction k2 with
          | zero => intro n o ls H locs hl hP hD hS j1 j2 j3 hE; exfalso; omega
          | succ k2 ih2 =>
            intro n o ls H locs hl hP hD hS j1 j2 j3 hE
            rw [fX9_clearest_L2] at hE
            refine lv_iload hx hb dX9_clearest_12 (lv_at hl 4 rfl) ?_
            refine z_iconst hx hb dX9_clearest_14 ?_
            refine z_icmp_ge hx hb dX9_clearest_15 (tgt := 42) rfl (by omega) (by omega) (fun b2 => ?_) (fun b2 => ?_)
            · rw [if_pos b2] at hE
              refine lv_iload_n hx hb dX9_clearest_42 rfl (lv_at hl 3 rfl) ?_
              refine lv_iload_n hx hb dX9_clearest_43 rfl (lv_at hl 1 rfl) ?_
              refine z_icmp_ne hx hb dX9_clearest_44 (tgt := 53) rfl (by omega) (by omega) (fun b3 => ?_) (fun b3 => ?_)
              · rw [if_neg b3] at hE
                refine z_iinc hx hb dX9_clearest_53 hl (k := 2) rfl (Nat.le_of_ble_eq_true rfl) (lv' := [(2, .int (iI (tab + 1))), (0, .ref (E 0)), (1, .int (iI place)), (3, .int (iI n)), (4, .int (iI o))]) rfl (fun ls hl => ?_)
                refine lv_goto hx hb dX9_clearest_56 (tgt := 2) rfl ?_
                exact ih1 (tab + 1) ls _ _ (lv_sub hl [1, 2, 0] rfl) hP hD hS (by omega) (by omega) hE
              · rw [if_pos b3] at hE
                refine lv_aload_n hx hb dX9_clearest_47 rfl (lv_at hl 0 rfl) ?_
                refine lv_iload_n hx hb dX9_clearest_48 rfl (lv_at hl 2 rfl) ?_
                refine ct_Vi (VG_fix E cI cC) hZo hZb hZ S0 (kX9_done l D E cI cC Z hZo hZb M tab  (fX9_done M tab).1 (fX9_done M tab).2 (Prod.ext rfl rfl)) (cwV 1 hts gX9_clearest_X9_done rfl rfl rfl (by decide +kernel) ⟨(Nat.le_of_ble_eq_true rfl), (Nat.le_of_ble_eq_true rfl)⟩) hK hP hD hS rfl rfl VG_0 rfl hl.1 rfl (Nat.le_of_ble_eq_true rfl) dX9_clearest_49 ⟨Nat.zero_le _, Nat.zero_le _⟩ (fun H locs hP hD hS => ?_)
                obtain ⟨e1, e2⟩ := Prod.mk.inj hE
                subst e2
                exact ci_i hx hb hr hlocks e1 rfl hS hP dX9_clearest_52
            · rw [if_neg b2] at hE
              refine lv_iload_n hx hb dX9_clearest_18 rfl (lv_at hl 3 rfl) ?_
              refine lv_aload_n hx hb dX9_clearest_19 rfl (lv_at hl 0 rfl) ?_
              refine lv_iload hx hb dX9_clearest_20 (lv_at hl 4 rfl) ?_
              refine lv_iload_n hx hb dX9_clearest_22 rfl (lv_at hl 2 rfl) ?_
              refine ct_Vi (VG_fix E cI cC) hZo hZb hZ S0 (kX9_isClearer l D E cI cC Z hZo hZb M o tab (by omega) (by omega) hG (fX9_isClearer M o tab) rfl) (cwV 2 hts gX9_clearest_X9_isClearer rfl rfl rfl (by decide +kernel) ⟨(Nat.le_of_ble_eq_true rfl), (Nat.le_of_ble_eq_true rfl)⟩) hK hP hD hS rfl rfl VG_0 rfl hl.1 rfl (Nat.le_of_ble_eq_true rfl) dX9_clearest_23 ⟨Nat.zero_le _, Nat.zero_le _⟩ (fun H locs hP hD hS => ?_)
              have q4 := bX9_isClearer M o tab
              refine z_if_eq hx hb dX9_clearest_26 (tgt := 33) rfl (by omega) (fun b5 => ?_) (fun b5 => ?_)
              · rw [if_pos b5] at hE
                refine z_iconst hx hb dX9_clearest_33 ?_
                refine z_iadd hx hb dX9_clearest_34 ?_
                refine lv_istore_n hx hb dX9_clearest_35 rfl hl (Nat.le_of_ble_eq_true rfl) (lv' := [(3, .int (iI (n + (0)))), (0, .ref (E 0)), (1, .int (iI place)), (2, .int (iI tab)), (4, .int (iI o))]) rfl (fun ls hl => ?_)
                refine z_iinc hx hb dX9_clearest_36 hl (k := 4) rfl (Nat.le_of_ble_eq_true rfl) (lv' := [(4, .int (iI (o + 1))), (3, .int (iI (n + (0)))), (0, .ref (E 0)), (1, .int (iI place)), (2, .int (iI tab))]) rfl (fun ls hl => ?_)
                refine lv_goto hx hb dX9_clearest_39 (tgt := 12) rfl ?_
                exact ih2 (n + (0)) (o + 1) ls _ _ (lv_sub hl [2, 3, 4, 1, 0] rfl) hP hD hS (by omega) (by omega) (by omega) hE
              · rw [if_neg b5] at hE
                refine z_iconst hx hb dX9_clearest_29 ?_
                refine lv_goto hx hb dX9_clearest_30 (tgt := 34) rfl ?_
                refine z_iadd hx hb dX9_clearest_34 ?_
                refine lv_istore_n hx hb dX9_clearest_35 rfl hl (Nat.le_of_ble_eq_true rfl) (lv' := [(3, .int (iI (n + (1)))), (0, .ref (E 0)), (1, .int (iI place)), (2, .int (iI tab)), (4, .int (iI o))]) rfl (fun ls hl => ?_)
                refine z_iinc hx hb dX9_clearest_36 hl (k := 4) rfl (Nat.le_of_ble_eq_true rfl) (lv' := [(4, .int (iI (o + 1))), (3, .int (iI (n + (1)))), (0, .ref (E 0)), (1, .int (iI place)), (2, .int (iI tab))]) rfl (fun ls hl => ?_)
                refine lv_goto hx hb dX9_clearest_39 (tgt := 12) rfl ?_
                exact ih2 (n + (1)) (o + 1) ls _ _ (lv_sub hl [2, 3, 4, 1, 0] rfl) hP hD hS (by omega) (by omega) (by omega) hE
        exact L2 4 (0) (0) ls _ _ (lv_sub hl [2, 3, 4, 1, 0] rfl) hP hD hS (by omega) (by omega) (by omega) hE
  exact L1 4 (0) ls _ _ (lv_sub hl [1, 2, 0] rfl) hP hD hS (by omega) (by omega) hE

-- no frame row for fX9_clearest (inner loops)

def fX9_isMoreWorn (M : Mem) (o n : Int) : Int := if (0 < ((M 0 ((25) + o)) - (M 0 ((25) + n)))) then (1) else if (((M 0 ((25) + o)) - (M 0 ((25) + n))) = 0) then if (0 < ((M 0 ((35) + o)) - (M 0 ((35) + n)))) then (1) else if (((M 0 ((35) + o)) - (M 0 ((35) + n))) = 0) then if (n ≤ o) then (0) else (1) else (0) else (0)
set_option maxRecDepth 100000 in
set_option maxHeartbeats 4000000 in
theorem kX9_isMoreWorn (l : Launch) (D : va_G) (E : Nat → Nat) (cI cC : ClassId) (Z : State → Prop) (hZo : ∀ M : Mem, ZOk (VG E cI cC M) Z) (hZb : ZBl Z) (M : Mem) (o n : Int) (h1 : 0 ≤ o ∧ o < 10) (h2 : 0 ≤ n ∧ n < 10) (hG : GI M) (r : Int) (hE : fX9_isMoreWorn M o n = r) : Ci l yX9_isMoreWorn wsX9_isMoreWorn 0 0 [.ref (E 0), .int (iI o), .int (iI n)] D (TY cI cC) (VG E cI cC) Z M r M := by
  refine Ci.of (cc := cX9_isMoreWorn) (maxL := 5) (ret := (some .boolean)) (by decide +kernel) rfl (Nat.le_of_ble_eq_true rfl) ?_
  intro p e s m args below meth c ls hx hb hml hr hown hts hlocks hP hK hD hZ hS hl
  have hl : lv_has ls 5 [(0, .ref (E 0)), (1, .int (iI o)), (2, .int (iI n))] := hl
  have S0 : CallFix p m c cX9_isMoreWorn 5 s args wsX9_isMoreWorn RX9 := ⟨hx, hb, hml, hown, hts⟩
  have hinX9 : ∀ w ∈ u_ws RX9 TX9 20, w ∈ wsX9_isMoreWorn := by decide +kernel
  rw [fX9_isMoreWorn] at hE
  refine lv_aload_n hx hb dX9_isMoreWorn_0 rfl (lv_at hl 0 rfl) ?_
  refine va_get (own := RX9) (ref := "NapkinSyntaxModel") (C := RX9) (T := TX9) (N := 20) hx hb hts hinX9 hown hK hP 0 VG_0 rfl 0 (Nat.le_of_ble_eq_true rfl) (hts (.fieldLink RX9 7 "NapkinSyntaxModel" "g" "[I") (by decide +kernel)) (fun _ h => h) (v := .ref (E 1)) rfl dX9_isMoreWorn_1 ?_
  refine z_bipush hx hb dX9_isMoreWorn_4 (by decide +kernel) ?_
  refine lv_iload_n hx hb dX9_isMoreWorn_6 rfl (lv_at hl 1 rfl) ?_
  refine z_iadd hx hb dX9_isMoreWorn_7 ?_
  refine z_iald hx hb hK hP 1 0 VG_1 rfl (by omega) (by omega) (by decide) dX9_isMoreWorn_8 ?_
  have q1 := GI_25 hG ((25) + o) (by omega) (by omega)
  refine lv_aload_n hx hb dX9_isMoreWorn_9 rfl (lv_at hl 0 rfl) ?_
  refine va_get (own := RX9) (ref := "NapkinSyntaxModel") (C := RX9) (T := TX9) (N := 20) hx hb hts hinX9 hown hK hP 0 VG_0 rfl 0 (Nat.le_of_ble_eq_true rfl) (hts (.fieldLink RX9 7 "NapkinSyntaxModel" "g" "[I") (by decide +kernel)) (fun _ h => h) (v := .ref (E 1)) rfl dX9_isMoreWorn_10 ?_
  refine z_bipush hx hb dX9_isMoreWorn_13 (by decide +kernel) ?_
  refine lv_iload_n hx hb dX9_isMoreWorn_15 rfl (lv_at hl 2 rfl) ?_
  refine z_iadd hx hb dX9_isMoreWorn_16 ?_
  refine z_iald hx hb hK hP 1 0 VG_1 rfl (by omega) (by omega) (by decide) dX9_isMoreWorn_17 ?_
  have q2 := GI_25 hG ((25) + n) (by omega) (by omega)
  refine z_isub hx hb dX9_isMoreWorn_18 ?_
  refine lv_istore_n hx hb dX9_isMoreWorn_19 rfl hl (Nat.le_of_ble_eq_true rfl) (lv' := [(3, .int (iI ((M 0 ((25) + o)) - (M 0 ((25) + n))))), (0, .ref (E 0)), (1, .int (iI o)), (2, .int (iI n))]) rfl (fun ls hl => ?_)
  refine lv_aload_n hx hb dX9_isMoreWorn_20 rfl (lv_at hl 1 rfl) ?_
  refine va_get (own := RX9) (ref := "NapkinSyntaxModel") (C := RX9) (T := TX9) (N := 20) hx hb hts hinX9 hown hK hP 0 VG_0 rfl 0 (Nat.le_of_ble_eq_true rfl) (hts (.fieldLink RX9 7 "NapkinSyntaxModel" "g" "[I") (by decide +kernel)) (fun _ h => h) (v := .ref (E 1)) rfl dX9_isMoreWorn_21 ?_
  refine z_bipush hx hb dX9_isMoreWorn_24 (by decide +kernel) ?_
  refine lv_iload_n hx hb dX9_isMoreWorn_26 rfl (lv_at hl 2 rfl) ?_
  refine z_iadd hx hb dX9_isMoreWorn_27 ?_
  refine z_iald hx hb hK hP 1 0 VG_1 rfl (by omega) (by omega) (by decide) dX9_isMoreWorn_28 ?_
  have q3 := GI_35 hG ((35) + o) (by omega) (by omega)
  refine lv_aload_n hx hb dX9_isMoreWorn_29 rfl (lv_at hl 1 rfl) ?_
  refine va_get (own := RX9) (ref := "NapkinSyntaxModel") (C := RX9) (T := TX9) (N := 20) hx hb hts hinX9 hown hK hP 0 VG_0 rfl 0 (Nat.le_of_ble_eq_true rfl) (hts (.fieldLink RX9 7 "NapkinSyntaxModel" "g" "[I") (by decide +kernel)) (fun _ h => h) (v := .ref (E 1)) rfl dX9_isMoreWorn_30 ?_
  refine z_bipush hx hb dX9_isMoreWorn_33 (by decide +kernel) ?_
  refine lv_iload_n hx hb dX9_isMoreWorn_35 rfl (lv_at hl 3 rfl) ?_
  refine z_iadd hx hb dX9_isMoreWorn_36 ?_
  refine z_iald hx hb hK hP 1 0 VG_1 rfl (by omega) (by omega) (by decide) dX9_isMoreWorn_37 ?_
  have q4 := GI_35 hG ((35) + n) (by omega) (by omega)
  refine z_isub hx hb dX9_isMoreWorn_38 ?_
  refine lv_istore hx hb dX9_isMoreWorn_39 hl (Nat.le_of_ble_eq_true rfl) (lv' := [(4, .int (iI ((M 0 ((35) + o)) - (M 0 ((35) + n))))), (3, .int (iI ((M 0 ((25) + o)) - (M 0 ((25) + n))))), (0, .ref (E 0)), (1, .int (iI o)), (2, .int (iI n))]) rfl (fun ls hl => ?_)
  refine lv_iload_n hx hb dX9_isMoreWorn_41 rfl (lv_at hl 1 rfl) ?_
  refine z_if_gt hx hb dX9_isMoreWorn_42 (tgt := 64) rfl (by omega) (fun b5 => ?_) (fun b5 => ?_)
  · rw [if_pos b5] at hE
    refine z_iconst hx hb dX9_isMoreWorn_64 ?_
    refine lv_goto hx hb dX9_isMoreWorn_65 (tgt := 69) rfl ?_
    exact ci_i hx hb hr hlocks hE nr_b1 hS hP dX9_isMoreWorn_69
  · rw [if_neg b5] at hE
    refine lv_iload_n hx hb dX9_isMoreWorn_45 rfl (lv_at hl 1 rfl) ?_
    refine z_if_ne hx hb dX9_isMoreWorn_46 (tgt := 68) rfl (by omega) (fun b6 => ?_) (fun b6 => ?_)
    · rw [if_neg b6] at hE
      refine z_iconst hx hb dX9_isMoreWorn_68 ?_
      exact ci_i hx hb hr hlocks hE nr_b0 hS hP dX9_isMoreWorn_69
    · rw [if_pos b6] at hE
      refine lv_iload hx hb dX9_isMoreWorn_49 (lv_at hl 0 rfl) ?_
      refine z_if_gt hx hb dX9_isMoreWorn_51 (tgt := 64) rfl (by omega) (fun b7 => ?_) (fun b7 => ?_)
      · rw [if_pos b7] at hE
        refine z_iconst hx hb dX9_isMoreWorn_64 ?_
        refine lv_goto hx hb dX9_isMoreWorn_65 (tgt := 69) rfl ?_
        exact ci_i hx hb hr hlocks hE nr_b1 hS hP dX9_isMoreWorn_69
      · rw [if_neg b7] at hE
        refine lv_iload hx hb dX9_isMoreWorn_54 (lv_at hl 0 rfl) ?_
        refine z_if_ne hx hb dX9_isMoreWorn_56 (tgt := 68) rfl (by omega) (fun b8 => ?_) (fun b8 => ?_)
        · rw [if_neg b8] at hE
          refine z_iconst hx hb dX9_isMoreWorn_68 ?_
          exact ci_i hx hb hr hlocks hE nr_b0 hS hP dX9_isMoreWorn_69
        · rw [if_pos b8] at hE
          refine lv_iload_n hx hb dX9_isMoreWorn_59 rfl (lv_at hl 3 rfl) ?_
          refine lv_iload_n hx hb dX9_isMoreWorn_60 rfl (lv_at hl 4 rfl) ?_
          refine z_icmp_ge hx hb dX9_isMoreWorn_61 (tgt := 68) rfl (by omega) (by omega) (fun b9 => ?_) (fun b9 => ?_)
          · rw [if_pos b9] at hE
            refine z_iconst hx hb dX9_isMoreWorn_68 ?_
            exact ci_i hx hb hr hlocks hE nr_b0 hS hP dX9_isMoreWorn_69
          · rw [if_neg b9] at hE
            refine z_iconst hx hb dX9_isMoreWorn_64 ?_
            refine lv_goto hx hb dX9_isMoreWorn_65 (tgt := 69) rfl ?_
            exact ci_i hx hb hr hlocks hE nr_b1 hS hP dX9_isMoreWorn_69


theorem bX9_isMoreWorn (M : Mem) (o t : Int) : 0 ≤ fX9_isMoreWorn M o t ∧ fX9_isMoreWorn M o t ≤ 1 := by unfold fX9_isMoreWorn; (repeat' split) <;> omega

def fX9_worn_L2 (M : Mem) (place : Int) (n : Int) (K : Int → Int × Mem) : Nat → Int → Int → (Int × Mem)
  | 0, _, _ => (0, M)
  | k2 + 1, many, o => if ((M 0 (0)) ≤ o) then if (many = place) then ((fX9_done M n).1, (fX9_done M n).2) else K (n + 1) else if ((fX9_isMoreWorn M o n) = 0) then fX9_worn_L2 M place n K k2 (many + (0)) (o + 1) else fX9_worn_L2 M place n K k2 (many + (1)) (o + 1)
def fX9_worn_L1 (M : Mem) (place : Int) : Nat → Int → (Int × Mem)
  | 0, _ => (0, M)
  | k1 + 1, n => if ((M 0 (0)) ≤ n) then ((fX9_fails M (1)).1, (fX9_fails M (1)).2) else fX9_worn_L2 M place n (fun x0 => fX9_worn_L1 M place k1 x0) 12 (0) (0)
def fX9_worn (M : Mem) (place : Int) : Int × Mem := fX9_worn_L1 M place 12 (0)
set_option maxRecDepth 100000 in
set_option maxHeartbeats 4000000 in
theorem kX9_worn (l : Launch) (D : va_G) (E : Nat → Nat) (cI cC : ClassId) (Z : State → Prop) (hZo : ∀ M : Mem, ZOk (VG E cI cC M) Z) (hZb : ZBl Z) (M : Mem) (place : Int) (h1 : -2147483648 ≤ place ∧ place < 2147483648) (hG : GI M) (r : Int) (M' : Mem) (hE : fX9_worn M place = (r, M')) : Ci l yX9_worn wsX9_worn 1 24 [.ref (E 0), .int (iI place)] D (TY cI cC) (VG E cI cC) Z M r M' := by
  refine Ci.of (cc := cX9_worn) (maxL := 5) (ret := (some .int)) (by decide +kernel) rfl (Nat.le_of_ble_eq_true rfl) ?_
  intro p e s m args below meth c ls hx hb hml hr hown hts hlocks hP hK hD hZ hS hl
  have hl : lv_has ls 5 [(0, .ref (E 0)), (1, .int (iI place))] := hl
  have S0 : CallFix p m c cX9_worn 5 s args wsX9_worn RX9 := ⟨hx, hb, hml, hown, hts⟩
  have hinX9 : ∀ w ∈ u_ws RX9 TX9 20, w ∈ wsX9_worn := by decide +kernel
  rw [fX9_worn] at hE
  refine z_iconst hx hb dX9_worn_0 ?_
  refine lv_istore_n hx hb dX9_worn_1 rfl hl (Nat.le_of_ble_eq_true rfl) (lv' := [(2, .int (iI (0))), (0, .ref (E 0)), (1, .int (iI place))]) rfl (fun ls hl => ?_)
  have L1 : ∀ (k1 : Nat) (n : Int) (ls : Array Slot) (H : Heap) (locs : List Loc), lv_has ls 5 [(0, .ref (E 0)), (1, .int (iI place)), (2, .int (iI n))] → va_P D vwCl (VG E cI cC M) H → va_D (wA (VG E cI cC M)) (VG E cI cC M) → va_S (wA (VG E cI cC M)) s.heap H locs → (0 ≤ n ∧ n ≤ M 0 0) → (M 0 0 - n < (k1 : Int)) → fX9_worn_L1 M place k1 n = (r, M') → W p l e (zRm 1 24) s m args below meth c H locs 0 0 (MQ below (ciQ D (VG E cI cC) M r M') args s 0 0 (wA (VG E cI cC M))) (F0 m 2 ls []) := by
    intro k1
    induction k1 with
    | zero => intro n ls H locs hl hP hD hS i1 i3 hE; exfalso; omega
    | succ k1 ih1 =>
      intro n ls H locs hl hP hD hS i1 i3 hE
      have q95 := GI_0 hG
      rw [fX9_worn_L1] at hE
      refine lv_iload_n hx hb dX9_worn_2 rfl (lv_at hl 2 rfl) ?_
      refine lv_aload_n hx hb dX9_worn_3 rfl (lv_at hl 0 rfl) ?_
      refine va_get (own := RX9) (ref := "NapkinSyntaxModel") (C := RX9) (T := TX9) (N := 20) hx hb hts hinX9 hown hK hP 0 VG_0 rfl 0 (Nat.le_of_ble_eq_true rfl) (hts (.fieldLink RX9 7 "NapkinSyntaxModel" "g" "[I") (by decide +kernel)) (fun _ h => h) (v := .ref (E 1)) rfl dX9_worn_4 ?_
      refine z_iconst hx hb dX9_worn_7 ?_
      refine z_iald hx hb hK hP 1 0 VG_1 rfl (by omega) (by omega) (by decide) dX9_worn_8 ?_
      have q1 := GI_0 hG
      refine z_icmp_ge hx hb dX9_worn_9 (tgt := 69) rfl (by omega) (by omega) (fun b2 => ?_) (fun b2 => ?_)
      · rw [if_pos b2] at hE
        refine lv_aload_n hx hb dX9_worn_69 rfl (lv_at hl 0 rfl) ?_
        refine z_iconst hx hb dX9_worn_70 ?_
        refine ct_Vi (VG_fix E cI cC) hZo hZb hZ S0 (kX9_fails l D E cI cC Z hZo hZb M (1)  (fX9_fails M (1)).1 (fX9_fails M (1)).2 (Prod.ext rfl rfl)) (cwV 1 hts gX9_worn_X9_fails rfl rfl rfl (by decide +kernel) ⟨(Nat.le_of_ble_eq_true rfl), (Nat.le_of_ble_eq_true rfl)⟩) hK hP hD hS rfl rfl VG_0 rfl hl.1 rfl (Nat.le_of_ble_eq_true rfl) dX9_worn_71 ⟨Nat.zero_le _, Nat.zero_le _⟩ (fun H locs hP hD hS => ?_)
        obtain ⟨e1, e2⟩ := Prod.mk.inj hE
        subst e2
        exact ci_i hx hb hr hlocks e1 rfl hS hP dX9_worn_74
      · rw [if_neg b2] at hE
        refine z_iconst hx hb dX9_worn_12 ?_
        refine lv_istore_n hx hb dX9_worn_13 rfl hl (Nat.le_of_ble_eq_true rfl) (lv' := [(3, .int (iI (0))), (0, .ref (E 0)), (1, .int (iI place)), (2, .int (iI n))]) rfl (fun ls hl => ?_)
        refine z_iconst hx hb dX9_worn_14 ?_
        refine lv_istore hx hb dX9_worn_15 hl (Nat.le_of_ble_eq_true rfl) (lv' := [(4, .int (iI (0))), (3, .int (iI (0))), (0, .ref (E 0)), (1, .int (iI place)), (2, .int (iI n))]) rfl (fun ls hl => ?_)
        have L2 : ∀ (k2 : Nat) (many o : Int) (ls : Array Slot) (H : Heap) (locs : List Loc), lv_has ls 5 [(0, .ref (E 0)), (1, .int (iI place)), (2, .int (iI n)), (3, .int (iI many)), (4, .int (iI o))] → va_P D vwCl (VG E cI cC M) H → va_D (wA (VG E cI cC M)) (VG E cI cC M) → va_S (wA (VG E cI cC M)) s.heap H locs → (0 ≤ o ∧ o ≤ M 0 0) → (0 ≤ many ∧ many ≤ o) → (M 0 0 - o < (k2 : Int)) → fX9_worn_L2 M place n (fun x0 => fX9_worn_L1 M place k1 x0) k2 many o = (r, M') → W p l e (zRm 1 24) s m args below meth c H locs 0 0 (MQ below (ciQ D (VG E cI cC) M r M') args s 0 0 (wA (VG E cI cC M))) (F0 m 17 ls []) := by
          intro k2
          induction k2 with
          | zero => intro many o ls H locs hl hP hD hS j1 j2 j3 hE; exfalso; omega
          | succ k2 ih2 =>
            intro many o ls H locs hl hP hD hS j1 j2 j3 hE
            have q95 := GI_0 hG
            rw [fX9_worn_L2] at hE
            refine lv_iload hx hb dX9_worn_17 (lv_at hl 4 rfl) ?_
            refine lv_aload_n hx hb dX9_worn_19 rfl (lv_at hl 0 rfl) ?_
            refine va_get (own := RX9) (ref := "NapkinSyntaxModel") (C := RX9) (T := TX9) (N := 20) hx hb hts hinX9 hown hK hP 0 VG_0 rfl 0 (Nat.le_of_ble_eq_true rfl) (hts (.fieldLink RX9 7 "NapkinSyntaxModel" "g" "[I") (by decide +kernel)) (fun _ h => h) (v := .ref (E 1)) rfl dX9_worn_20 ?_
            refine z_iconst hx hb dX9_worn_23 ?_
            refine z_iald hx hb hK hP 1 0 VG_1 rfl (by omega) (by omega) (by decide) dX9_worn_24 ?_
            have q3 := GI_0 hG
            refine z_icmp_ge hx hb dX9_worn_25 (tgt := 52) rfl (by omega) (by omega) (fun b4 => ?_) (fun b4 => ?_)
            · rw [if_pos b4] at hE
              refine lv_iload_n hx hb dX9_worn_52 rfl (lv_at hl 3 rfl) ?_
              refine lv_iload_n hx hb dX9_worn_53 rfl (lv_at hl 1 rfl) ?_
              refine z_icmp_ne hx hb dX9_worn_54 (tgt := 63) rfl (by omega) (by omega) (fun b5 => ?_) (fun b5 => ?_)
              · rw [if_neg b5] at hE
                refine z_iinc hx hb dX9_worn_63 hl (k := 2) rfl (Nat.le_of_ble_eq_true rfl) (lv' := [(2, .int (iI (n + 1))), (0, .ref (E 0)), (1, .int (iI place)), (3, .int (iI many)), (4, .int (iI o))]) rfl (fun ls hl => ?_)
                refine lv_goto hx hb dX9_worn_66 (tgt := 2) rfl ?_
                exact ih1 (n + 1) ls _ _ (lv_sub hl [1, 2, 0] rfl) hP hD hS (by omega) (by omega) hE
              · rw [if_pos b5] at hE
                refine lv_aload_n hx hb dX9_worn_57 rfl (lv_at hl 0 rfl) ?_
                refine lv_iload_n hx hb dX9_worn_58 rfl (lv_at hl 2 rfl) ?_
                refine ct_Vi (VG_fix E cI cC) hZo hZb hZ S0 (kX9_done l D E cI cC Z hZo hZb M n  (fX9_done M n).1 (fX9_done M n).2 (Prod.ext rfl rfl)) (cwV 1 hts gX9_worn_X9_done rfl rfl rfl (by decide +kernel) ⟨(Nat.le_of_ble_eq_true rfl), (Nat.le_of_ble_eq_true rfl)⟩) hK hP hD hS rfl rfl VG_0 rfl hl.1 rfl (Nat.le_of_ble_eq_true rfl) dX9_worn_59 ⟨Nat.zero_le _, Nat.zero_le _⟩ (fun H locs hP hD hS => ?_)
                obtain ⟨e1, e2⟩ := Prod.mk.inj hE
                subst e2
                exact ci_i hx hb hr hlocks e1 rfl hS hP dX9_worn_62
            · rw [if_neg b4] at hE
              refine lv_iload_n hx hb dX9_worn_28 rfl (lv_at hl 3 rfl) ?_
              refine lv_aload_n hx hb dX9_worn_29 rfl (lv_at hl 0 rfl) ?_
              refine lv_iload hx hb dX9_worn_30 (lv_at hl 4 rfl) ?_
              refine lv_iload_n hx hb dX9_worn_32 rfl (lv_at hl 2 rfl) ?_
              refine ct_Vi (VG_fix E cI cC) hZo hZb hZ S0 (kX9_isMoreWorn l D E cI cC Z hZo hZb M o n (by omega) (by omega) hG (fX9_isMoreWorn M o n) rfl) (cwV 2 hts gX9_worn_X9_isMoreWorn rfl rfl rfl (by decide +kernel) ⟨(Nat.le_of_ble_eq_true rfl), (Nat.le_of_ble_eq_true rfl)⟩) hK hP hD hS rfl rfl VG_0 rfl hl.1 rfl (Nat.le_of_ble_eq_true rfl) dX9_worn_33 ⟨Nat.zero_le _, Nat.zero_le _⟩ (fun H locs hP hD hS => ?_)
              have q6 := bX9_isMoreWorn M o n
              refine z_if_eq hx hb dX9_worn_36 (tgt := 43) rfl (by omega) (fun b7 => ?_) (fun b7 => ?_)
              · rw [if_pos b7] at hE
                refine z_iconst hx hb dX9_worn_43 ?_
                refine z_iadd hx hb dX9_worn_44 ?_
                refine lv_istore_n hx hb dX9_worn_45 rfl hl (Nat.le_of_ble_eq_true rfl) (lv' := [(3, .int (iI (many + (0)))), (0, .ref (E 0)), (1, .int (iI place)), (2, .int (iI n)), (4, .int (iI o))]) rfl (fun ls hl => ?_)
                refine z_iinc hx hb dX9_worn_46 hl (k := 4) rfl (Nat.le_of_ble_eq_true rfl) (lv' := [(4, .int (iI (o + 1))), (3, .int (iI (many + (0)))), (0, .ref (E 0)), (1, .int (iI place)), (2, .int (iI n))]) rfl (fun ls hl => ?_)
                refine lv_goto hx hb dX9_worn_49 (tgt := 17) rfl ?_
                exact ih2 (many + (0)) (o + 1) ls _ _ (lv_sub hl [2, 3, 4, 1, 0] rfl) hP hD hS (by omega) (by omega) (by omega) hE
              · rw [if_neg b7] at hE
                refine z_iconst hx hb dX9_worn_39 ?_
                refine lv_goto hx hb dX9_worn_40 (tgt := 44) rfl ?_
                refine z_iadd hx hb dX9_worn_44 ?_
                refine lv_istore_n hx hb dX9_worn_45 rfl hl (Nat.le_of_ble_eq_true rfl) (lv' := [(3, .int (iI (many + (1)))), (0, .ref (E 0)), (1, .int (iI place)), (2, .int (iI n)), (4, .int (iI o))]) rfl (fun ls hl => ?_)
                refine z_iinc hx hb dX9_worn_46 hl (k := 4) rfl (Nat.le_of_ble_eq_true rfl) (lv' := [(4, .int (iI (o + 1))), (3, .int (iI (many + (1)))), (0, .ref (E 0)), (1, .int (iI place)), (2, .int (iI n))]) rfl (fun ls hl => ?_)
                refine lv_goto hx hb dX9_worn_49 (tgt := 17) rfl ?_
                exact ih2 (many + (1)) (o + 1) ls _ _ (lv_sub hl [2, 3, 4, 1, 0] rfl) hP hD hS (by omega) (by omega) (by omega) hE
        exact L2 12 (0) (0) ls _ _ (lv_sub hl [2, 3, 4, 1, 0] rfl) hP hD hS (by have := GI_0 hG; omega) (by omega) (by have := GI_0 hG; omega) hE
  exact L1 12 (0) ls _ _ (lv_sub hl [1, 2, 0] rfl) hP hD hS (by have := GI_0 hG; omega) (by have := GI_0 hG; omega) hE

-- no frame row for fX9_worn (inner loops)

def fX9_isWell (M : Mem) : Int × Mem := ((1), (msf M 26 (0)))
set_option maxRecDepth 100000 in
set_option maxHeartbeats 4000000 in
theorem kX9_isWell (l : Launch) (D : va_G) (E : Nat → Nat) (cI cC : ClassId) (Z : State → Prop) (hZo : ∀ M : Mem, ZOk (VG E cI cC M) Z) (hZb : ZBl Z) (M : Mem)  (r : Int) (M' : Mem) (hE : fX9_isWell M = (r, M')) : Ci l yX9_isWell wsX9_isWell 0 0 [.ref (E 0)] D (TY cI cC) (VG E cI cC) Z M r M' := by
  refine Ci.of (cc := cX9_isWell) (maxL := 1) (ret := (some .boolean)) (by decide +kernel) rfl (Nat.le_of_ble_eq_true rfl) ?_
  intro p e s m args below meth c ls hx hb hml hr hown hts hlocks hP hK hD hZ hS hl
  have hl : lv_has ls 1 [(0, .ref (E 0))] := hl
  have S0 : CallFix p m c cX9_isWell 1 s args wsX9_isWell RX9 := ⟨hx, hb, hml, hown, hts⟩
  have hinX9 : ∀ w ∈ u_ws RX9 TX9 20, w ∈ wsX9_isWell := by decide +kernel
  rw [fX9_isWell] at hE
  refine lv_aload_n hx hb dX9_isWell_0 rfl (lv_at hl 0 rfl) ?_
  refine z_iconst hx hb dX9_isWell_1 ?_
  refine va_put (own := RX9) (ref := "NapkinSyntaxModel") (C := RX9) (T := TX9) (N := 20) hx hb hts hinX9 tyX9 tyX9_ok nmX9 hown hK hP hD hS 0 VG_0 rfl 16 (Nat.le_of_ble_eq_true rfl) (hts (.fieldLink RX9 36 "NapkinSyntaxModel" "thrown" "I") (by decide +kernel)) (fun _ h => h) rfl (ty := .int) (v := .int (iI (0))) (by decide +kernel) rfl rfl (Nat.le_of_ble_eq_true rfl) dX9_isWell_2 (fun H locs hP hD hS => ?_)
  rw [VGf_26] at hP hD
  refine z_iconst hx hb dX9_isWell_5 ?_
  obtain ⟨e1, e2⟩ := Prod.mk.inj hE
  subst e2
  exact ci_i hx hb hr hlocks e1 nr_b1 hS hP dX9_isWell_6

theorem fr_fX9_isWell {M : Mem} {r : Nat} (h26 : Nat.beq r 26 = false) : (fX9_isWell M).2 r = M r := by
  unfold fX9_isWell
  (repeat' with_reducible refine frite_w (fun _ => ?_) (fun _ => ?_)) <;> first | with_reducible rfl | simp only [mst_o, msf_o, mcp_o, h26]

def fX9_type (M : Mem) (character : Int) : Int × Mem := if ((M 17 0) = (60)) then ((fX9_fails M (1)).1, (fX9_fails M (1)).2) else ((fX9_done (msf (mst M 4 (M 17 0) character) 17 ((M 17 0) + (1))) ((M 17 0) + (1))).1, (fX9_done (msf (mst M 4 (M 17 0) character) 17 ((M 17 0) + (1))) ((M 17 0) + (1))).2)
set_option maxRecDepth 100000 in
set_option maxHeartbeats 4000000 in
theorem kX9_type (l : Launch) (D : va_G) (E : Nat → Nat) (cI cC : ClassId) (Z : State → Prop) (hZo : ∀ M : Mem, ZOk (VG E cI cC M) Z) (hZb : ZBl Z) (M : Mem) (character : Int) (h1 : 0 ≤ character ∧ character < 65536) (hR : RI M) (r : Int) (M' : Mem) (hE : fX9_type M character = (r, M')) : Ci l yX9_type wsX9_type 1 21 [.ref (E 0), .int (iI character)] D (TY cI cC) (VG E cI cC) Z M r M' := by
  refine Ci.of (cc := cX9_type) (maxL := 2) (ret := (some .int)) (by decide +kernel) rfl (Nat.le_of_ble_eq_true rfl) ?_
  intro p e s m args below meth c ls hx hb hml hr hown hts hlocks hP hK hD hZ hS hl
  have hl : lv_has ls 2 [(0, .ref (E 0)), (1, .int (iI character))] := hl
  have S0 : CallFix p m c cX9_type 2 s args wsX9_type RX9 := ⟨hx, hb, hml, hown, hts⟩
  have hinX9 : ∀ w ∈ u_ws RX9 TX9 20, w ∈ wsX9_type := by decide +kernel
  rw [fX9_type] at hE
  refine lv_aload_n hx hb dX9_type_0 rfl (lv_at hl 0 rfl) ?_
  refine va_get (own := RX9) (ref := "NapkinSyntaxModel") (C := RX9) (T := TX9) (N := 20) hx hb hts hinX9 hown hK hP 0 VG_0 rfl 7 (Nat.le_of_ble_eq_true rfl) (hts (.fieldLink RX9 196 "NapkinSyntaxModel" "typed" "I") (by decide +kernel)) (fun _ h => h) (v := .int (iI (M 17 0))) rfl dX9_type_1 ?_
  have q1 := RI_17 hR
  refine z_bipush hx hb dX9_type_4 (by decide +kernel) ?_
  refine z_icmp_ne hx hb dX9_type_6 (tgt := 15) rfl (by omega) (by omega) (fun b2 => ?_) (fun b2 => ?_)
  · rw [if_neg b2] at hE
    refine lv_aload_n hx hb dX9_type_15 rfl (lv_at hl 0 rfl) ?_
    refine va_get (own := RX9) (ref := "NapkinSyntaxModel") (C := RX9) (T := TX9) (N := 20) hx hb hts hinX9 hown hK hP 0 VG_0 rfl 6 (Nat.le_of_ble_eq_true rfl) (hts (.fieldLink RX9 22 "NapkinSyntaxModel" "input" "[C") (by decide +kernel)) (fun _ h => h) (v := .ref (E 5)) rfl dX9_type_16 ?_
    refine lv_aload_n hx hb dX9_type_19 rfl (lv_at hl 0 rfl) ?_
    refine va_get (own := RX9) (ref := "NapkinSyntaxModel") (C := RX9) (T := TX9) (N := 20) hx hb hts hinX9 hown hK hP 0 VG_0 rfl 7 (Nat.le_of_ble_eq_true rfl) (hts (.fieldLink RX9 196 "NapkinSyntaxModel" "typed" "I") (by decide +kernel)) (fun _ h => h) (v := .int (iI (M 17 0))) rfl dX9_type_20 ?_
    have q3 := RI_17 hR
    refine lv_iload_n hx hb dX9_type_23 rfl (lv_at hl 1 rfl) ?_
    refine z_cast hx hb hK hP hD hS 5 1 VG_5 rfl (by omega) (by omega) (by decide) (by omega) (by omega) dX9_type_24 VGw_4 (fun H locs hP hD hS => ?_)
    refine lv_aload_n hx hb dX9_type_25 rfl (lv_at hl 0 rfl) ?_
    refine lv_dup hx hb dX9_type_26 rfl ?_
    refine va_get (own := RX9) (ref := "NapkinSyntaxModel") (C := RX9) (T := TX9) (N := 20) hx hb hts hinX9 hown hK hP 0 VG_0 rfl 7 (Nat.le_of_ble_eq_true rfl) (hts (.fieldLink RX9 196 "NapkinSyntaxModel" "typed" "I") (by decide +kernel)) (fun _ h => h) (v := .int (iI (M 17 0))) rfl dX9_type_27 ?_
    refine z_iconst hx hb dX9_type_30 ?_
    refine z_iadd hx hb dX9_type_31 ?_
    refine va_put (own := RX9) (ref := "NapkinSyntaxModel") (C := RX9) (T := TX9) (N := 20) hx hb hts hinX9 tyX9 tyX9_ok nmX9 hown hK hP hD hS 0 VG_0 rfl 7 (Nat.le_of_ble_eq_true rfl) (hts (.fieldLink RX9 196 "NapkinSyntaxModel" "typed" "I") (by decide +kernel)) (fun _ h => h) rfl (ty := .int) (v := .int (iI ((M 17 0) + (1)))) (by decide +kernel) rfl rfl (Nat.le_of_ble_eq_true rfl) dX9_type_32 (fun H locs hP hD hS => ?_)
    rw [VGf_17] at hP hD
    refine lv_aload_n hx hb dX9_type_35 rfl (lv_at hl 0 rfl) ?_
    refine lv_aload_n hx hb dX9_type_36 rfl (lv_at hl 0 rfl) ?_
    refine va_get (own := RX9) (ref := "NapkinSyntaxModel") (C := RX9) (T := TX9) (N := 20) hx hb hts hinX9 hown hK hP 0 VG_0 rfl 7 (Nat.le_of_ble_eq_true rfl) (hts (.fieldLink RX9 196 "NapkinSyntaxModel" "typed" "I") (by decide +kernel)) (fun _ h => h) (v := .int (iI ((M 17 0) + (1)))) rfl dX9_type_37 ?_
    refine ct_Vi (VG_fix E cI cC) hZo hZb hZ S0 (kX9_done l D E cI cC Z hZo hZb (msf (mst M 4 (M 17 0) character) 17 ((M 17 0) + (1))) ((M 17 0) + (1))  (fX9_done (msf (mst M 4 (M 17 0) character) 17 ((M 17 0) + (1))) ((M 17 0) + (1))).1 (fX9_done (msf (mst M 4 (M 17 0) character) 17 ((M 17 0) + (1))) ((M 17 0) + (1))).2 (Prod.ext rfl rfl)) (cwV 1 hts gX9_type_X9_done rfl rfl rfl (by decide +kernel) ⟨(Nat.le_of_ble_eq_true rfl), (Nat.le_of_ble_eq_true rfl)⟩) hK hP hD hS rfl rfl VG_0 rfl hl.1 rfl (Nat.le_of_ble_eq_true rfl) dX9_type_40 ⟨Nat.zero_le _, Nat.zero_le _⟩ (fun H locs hP hD hS => ?_)
    obtain ⟨e1, e2⟩ := Prod.mk.inj hE
    subst e2
    exact ci_i hx hb hr hlocks e1 rfl hS hP dX9_type_43
  · rw [if_pos b2] at hE
    refine lv_aload_n hx hb dX9_type_9 rfl (lv_at hl 0 rfl) ?_
    refine z_iconst hx hb dX9_type_10 ?_
    refine ct_Vi (VG_fix E cI cC) hZo hZb hZ S0 (kX9_fails l D E cI cC Z hZo hZb M (1)  (fX9_fails M (1)).1 (fX9_fails M (1)).2 (Prod.ext rfl rfl)) (cwV 1 hts gX9_type_X9_fails rfl rfl rfl (by decide +kernel) ⟨(Nat.le_of_ble_eq_true rfl), (Nat.le_of_ble_eq_true rfl)⟩) hK hP hD hS rfl rfl VG_0 rfl hl.1 rfl (Nat.le_of_ble_eq_true rfl) dX9_type_11 ⟨Nat.zero_le _, Nat.zero_le _⟩ (fun H locs hP hD hS => ?_)
    obtain ⟨e1, e2⟩ := Prod.mk.inj hE
    subst e2
    exact ci_i hx hb hr hlocks e1 rfl hS hP dX9_type_14

theorem fr_fX9_type {M : Mem} (character : Int) {r : Nat} (h4 : Nat.beq r 4 = false) (h17 : Nat.beq r 17 = false) (h23 : Nat.beq r 23 = false) (h26 : Nat.beq r 26 = false) : (fX9_type M character).2 r = M r := by
  unfold fX9_type
  (repeat' with_reducible refine frite_w (fun _ => ?_) (fun _ => ?_)) <;> first | with_reducible rfl | simp only [mst_o, msf_o, mcp_o, fr_fX9_done, fr_fX9_fails, h4, h17, h23, h26]

def fX9_errorPosition (M : Mem) : Int × Mem := if ((M 18 0) = (-1)) then ((fX9_fails M (1)).1, (fX9_fails M (1)).2) else ((fX9_done M (M 18 0)).1, (fX9_done M (M 18 0)).2)
set_option maxRecDepth 100000 in
set_option maxHeartbeats 4000000 in
theorem kX9_errorPosition (l : Launch) (D : va_G) (E : Nat → Nat) (cI cC : ClassId) (Z : State → Prop) (hZo : ∀ M : Mem, ZOk (VG E cI cC M) Z) (hZb : ZBl Z) (M : Mem) (h1 : -1 ≤ M 18 0 ∧ M 18 0 ≤ 1000) (r : Int) (M' : Mem) (hE : fX9_errorPosition M = (r, M')) : Ci l yX9_errorPosition wsX9_errorPosition 1 21 [.ref (E 0)] D (TY cI cC) (VG E cI cC) Z M r M' := by
  refine Ci.of (cc := cX9_errorPosition) (maxL := 1) (ret := (some .int)) (by decide +kernel) rfl (Nat.le_of_ble_eq_true rfl) ?_
  intro p e s m args below meth c ls hx hb hml hr hown hts hlocks hP hK hD hZ hS hl
  have hl : lv_has ls 1 [(0, .ref (E 0))] := hl
  have S0 : CallFix p m c cX9_errorPosition 1 s args wsX9_errorPosition RX9 := ⟨hx, hb, hml, hown, hts⟩
  have hinX9 : ∀ w ∈ u_ws RX9 TX9 20, w ∈ wsX9_errorPosition := by decide +kernel
  rw [fX9_errorPosition] at hE
  refine lv_aload_n hx hb dX9_errorPosition_0 rfl (lv_at hl 0 rfl) ?_
  refine va_get (own := RX9) (ref := "NapkinSyntaxModel") (C := RX9) (T := TX9) (N := 20) hx hb hts hinX9 hown hK hP 0 VG_0 rfl 8 (Nat.le_of_ble_eq_true rfl) (hts (.fieldLink RX9 26 "NapkinSyntaxModel" "errorAt" "I") (by decide +kernel)) (fun _ h => h) (v := .int (iI (M 18 0))) rfl dX9_errorPosition_1 ?_
  refine z_iconst hx hb dX9_errorPosition_4 ?_
  refine z_icmp_ne hx hb dX9_errorPosition_5 (tgt := 16) rfl (by omega) (by omega) (fun b1 => ?_) (fun b1 => ?_)
  · rw [if_neg b1] at hE
    refine lv_aload_n hx hb dX9_errorPosition_16 rfl (lv_at hl 0 rfl) ?_
    refine lv_aload_n hx hb dX9_errorPosition_17 rfl (lv_at hl 0 rfl) ?_
    refine va_get (own := RX9) (ref := "NapkinSyntaxModel") (C := RX9) (T := TX9) (N := 20) hx hb hts hinX9 hown hK hP 0 VG_0 rfl 8 (Nat.le_of_ble_eq_true rfl) (hts (.fieldLink RX9 26 "NapkinSyntaxModel" "errorAt" "I") (by decide +kernel)) (fun _ h => h) (v := .int (iI (M 18 0))) rfl dX9_errorPosition_18 ?_
    refine ct_Vi (VG_fix E cI cC) hZo hZb hZ S0 (kX9_done l D E cI cC Z hZo hZb M (M 18 0)  (fX9_done M (M 18 0)).1 (fX9_done M (M 18 0)).2 (Prod.ext rfl rfl)) (cwV 1 hts gX9_errorPosition_X9_done rfl rfl rfl (by decide +kernel) ⟨(Nat.le_of_ble_eq_true rfl), (Nat.le_of_ble_eq_true rfl)⟩) hK hP hD hS rfl rfl VG_0 rfl hl.1 rfl (Nat.le_of_ble_eq_true rfl) dX9_errorPosition_21 ⟨Nat.zero_le _, Nat.zero_le _⟩ (fun H locs hP hD hS => ?_)
    obtain ⟨e1, e2⟩ := Prod.mk.inj hE
    subst e2
    exact ci_i hx hb hr hlocks e1 rfl hS hP dX9_errorPosition_24
  · rw [if_pos b1] at hE
    refine lv_aload_n hx hb dX9_errorPosition_8 rfl (lv_at hl 0 rfl) ?_
    refine z_iconst hx hb dX9_errorPosition_9 ?_
    refine ct_Vi (VG_fix E cI cC) hZo hZb hZ S0 (kX9_fails l D E cI cC Z hZo hZb M (1)  (fX9_fails M (1)).1 (fX9_fails M (1)).2 (Prod.ext rfl rfl)) (cwV 1 hts gX9_errorPosition_X9_fails rfl rfl rfl (by decide +kernel) ⟨(Nat.le_of_ble_eq_true rfl), (Nat.le_of_ble_eq_true rfl)⟩) hK hP hD hS rfl rfl VG_0 rfl hl.1 rfl (Nat.le_of_ble_eq_true rfl) dX9_errorPosition_10 ⟨Nat.zero_le _, Nat.zero_le _⟩ (fun H locs hP hD hS => ?_)
    refine lv_goto hx hb dX9_errorPosition_13 (tgt := 24) rfl ?_
    obtain ⟨e1, e2⟩ := Prod.mk.inj hE
    subst e2
    exact ci_i hx hb hr hlocks e1 rfl hS hP dX9_errorPosition_24

theorem fr_fX9_errorPosition {M : Mem} {r : Nat} (h23 : Nat.beq r 23 = false) (h26 : Nat.beq r 26 = false) : (fX9_errorPosition M).2 r = M r := by
  unfold fX9_errorPosition
  (repeat' with_reducible refine frite_w (fun _ => ?_) (fun _ => ?_)) <;> first | with_reducible rfl | simp only [mst_o, msf_o, mcp_o, fr_fX9_done, fr_fX9_fails, h23, h26]

def fX9_refusal (M : Mem) (isCause isDetail : Int) : Int × Mem := if (isCause = 0) then if ((M 19 0) = 0) then ((fX9_fails M (1)).1, (fX9_fails M (1)).2) else if (isDetail = 0) then ((fX9_done M (M 19 0)).1, (fX9_done M (M 19 0)).2) else if (isCause = 0) then ((fX9_done M (M 20 0)).1, (fX9_done M (M 20 0)).2) else ((fX9_done M (M 22 0)).1, (fX9_done M (M 22 0)).2) else if ((M 21 0) = 0) then ((fX9_fails M (1)).1, (fX9_fails M (1)).2) else if (isDetail = 0) then ((fX9_done M (M 21 0)).1, (fX9_done M (M 21 0)).2) else if (isCause = 0) then ((fX9_done M (M 20 0)).1, (fX9_done M (M 20 0)).2) else ((fX9_done M (M 22 0)).1, (fX9_done M (M 22 0)).2)
set_option maxRecDepth 100000 in
set_option maxHeartbeats 4000000 in
theorem kX9_refusal (l : Launch) (D : va_G) (E : Nat → Nat) (cI cC : ClassId) (Z : State → Prop) (hZo : ∀ M : Mem, ZOk (VG E cI cC M) Z) (hZb : ZBl Z) (M : Mem) (isCause isDetail : Int) (h1 : 0 ≤ isCause ∧ isCause ≤ 1) (h2 : 0 ≤ isDetail ∧ isDetail ≤ 1) (h3 : 0 ≤ M 19 0 ∧ M 19 0 ≤ 1000) (h4 : 0 ≤ M 21 0 ∧ M 21 0 ≤ 1000) (r : Int) (M' : Mem) (hE : fX9_refusal M isCause isDetail = (r, M')) : Ci l yX9_refusal wsX9_refusal 1 21 [.ref (E 0), .int (iI isCause), .int (iI isDetail)] D (TY cI cC) (VG E cI cC) Z M r M' := by
  refine Ci.of (cc := cX9_refusal) (maxL := 4) (ret := (some .int)) (by decide +kernel) rfl (Nat.le_of_ble_eq_true rfl) ?_
  intro p e s m args below meth c ls hx hb hml hr hown hts hlocks hP hK hD hZ hS hl
  have hl : lv_has ls 4 [(0, .ref (E 0)), (1, .int (iI isCause)), (2, .int (iI isDetail))] := hl
  have S0 : CallFix p m c cX9_refusal 4 s args wsX9_refusal RX9 := ⟨hx, hb, hml, hown, hts⟩
  have hinX9 : ∀ w ∈ u_ws RX9 TX9 20, w ∈ wsX9_refusal := by decide +kernel
  rw [fX9_refusal] at hE
  refine lv_iload_n hx hb dX9_refusal_0 rfl (lv_at hl 1 rfl) ?_
  refine z_if_eq hx hb dX9_refusal_1 (tgt := 11) rfl (by omega) (fun b1 => ?_) (fun b1 => ?_)
  · rw [if_pos b1] at hE
    refine lv_aload_n hx hb dX9_refusal_11 rfl (lv_at hl 0 rfl) ?_
    refine va_get (own := RX9) (ref := "NapkinSyntaxModel") (C := RX9) (T := TX9) (N := 20) hx hb hts hinX9 hown hK hP 0 VG_0 rfl 9 (Nat.le_of_ble_eq_true rfl) (hts (.fieldLink RX9 43 "NapkinSyntaxModel" "why" "I") (by decide +kernel)) (fun _ h => h) (v := .int (iI (M 19 0))) rfl dX9_refusal_12 ?_
    refine lv_istore_n hx hb dX9_refusal_15 rfl hl (Nat.le_of_ble_eq_true rfl) (lv' := [(3, .int (iI (M 19 0))), (0, .ref (E 0)), (1, .int (iI isCause)), (2, .int (iI isDetail))]) rfl (fun ls hl => ?_)
    refine lv_iload_n hx hb dX9_refusal_16 rfl (lv_at hl 0 rfl) ?_
    refine z_if_ne hx hb dX9_refusal_17 (tgt := 26) rfl (by omega) (fun b2 => ?_) (fun b2 => ?_)
    · rw [if_neg b2] at hE
      refine lv_aload_n hx hb dX9_refusal_26 rfl (lv_at hl 1 rfl) ?_
      refine lv_iload_n hx hb dX9_refusal_27 rfl (lv_at hl 3 rfl) ?_
      refine z_if_ne hx hb dX9_refusal_28 (tgt := 35) rfl (by omega) (fun b3 => ?_) (fun b3 => ?_)
      · rw [if_neg b3] at hE
        refine lv_iload_n hx hb dX9_refusal_35 rfl (lv_at hl 2 rfl) ?_
        refine z_if_eq hx hb dX9_refusal_36 (tgt := 46) rfl (by omega) (fun b4 => ?_) (fun b4 => ?_)
        · rw [if_pos b4] at hE
          refine lv_aload_n hx hb dX9_refusal_46 rfl (lv_at hl 1 rfl) ?_
          refine va_get (own := RX9) (ref := "NapkinSyntaxModel") (C := RX9) (T := TX9) (N := 20) hx hb hts hinX9 hown hK hP 0 VG_0 rfl 10 (Nat.le_of_ble_eq_true rfl) (hts (.fieldLink RX9 46 "NapkinSyntaxModel" "whyDetail" "I") (by decide +kernel)) (fun _ h => h) (v := .int (iI (M 20 0))) rfl dX9_refusal_47 ?_
          refine ct_Vi (VG_fix E cI cC) hZo hZb hZ S0 (kX9_done l D E cI cC Z hZo hZb M (M 20 0)  (fX9_done M (M 20 0)).1 (fX9_done M (M 20 0)).2 (Prod.ext rfl rfl)) (cwV 1 hts gX9_refusal_X9_done rfl rfl rfl (by decide +kernel) ⟨(Nat.le_of_ble_eq_true rfl), (Nat.le_of_ble_eq_true rfl)⟩) hK hP hD hS rfl rfl VG_0 rfl hl.1 rfl (Nat.le_of_ble_eq_true rfl) dX9_refusal_50 ⟨Nat.zero_le _, Nat.zero_le _⟩ (fun H locs hP hD hS => ?_)
          obtain ⟨e1, e2⟩ := Prod.mk.inj hE
          subst e2
          exact ci_i hx hb hr hlocks e1 rfl hS hP dX9_refusal_53
        · rw [if_neg b4] at hE
          refine lv_aload_n hx hb dX9_refusal_39 rfl (lv_at hl 1 rfl) ?_
          refine va_get (own := RX9) (ref := "NapkinSyntaxModel") (C := RX9) (T := TX9) (N := 20) hx hb hts hinX9 hown hK hP 0 VG_0 rfl 12 (Nat.le_of_ble_eq_true rfl) (hts (.fieldLink RX9 52 "NapkinSyntaxModel" "behindDetail" "I") (by decide +kernel)) (fun _ h => h) (v := .int (iI (M 22 0))) rfl dX9_refusal_40 ?_
          refine lv_goto hx hb dX9_refusal_43 (tgt := 50) rfl ?_
          refine ct_Vi (VG_fix E cI cC) hZo hZb hZ S0 (kX9_done l D E cI cC Z hZo hZb M (M 22 0)  (fX9_done M (M 22 0)).1 (fX9_done M (M 22 0)).2 (Prod.ext rfl rfl)) (cwV 1 hts gX9_refusal_X9_done rfl rfl rfl (by decide +kernel) ⟨(Nat.le_of_ble_eq_true rfl), (Nat.le_of_ble_eq_true rfl)⟩) hK hP hD hS rfl rfl VG_0 rfl hl.1 rfl (Nat.le_of_ble_eq_true rfl) dX9_refusal_50 ⟨Nat.zero_le _, Nat.zero_le _⟩ (fun H locs hP hD hS => ?_)
          obtain ⟨e1, e2⟩ := Prod.mk.inj hE
          subst e2
          exact ci_i hx hb hr hlocks e1 rfl hS hP dX9_refusal_53
      · rw [if_pos b3] at hE
        refine lv_iload_n hx hb dX9_refusal_31 rfl (lv_at hl 0 rfl) ?_
        refine lv_goto hx hb dX9_refusal_32 (tgt := 50) rfl ?_
        refine ct_Vi (VG_fix E cI cC) hZo hZb hZ S0 (kX9_done l D E cI cC Z hZo hZb M (M 19 0)  (fX9_done M (M 19 0)).1 (fX9_done M (M 19 0)).2 (Prod.ext rfl rfl)) (cwV 1 hts gX9_refusal_X9_done rfl rfl rfl (by decide +kernel) ⟨(Nat.le_of_ble_eq_true rfl), (Nat.le_of_ble_eq_true rfl)⟩) hK hP hD hS rfl rfl VG_0 rfl hl.1 rfl (Nat.le_of_ble_eq_true rfl) dX9_refusal_50 ⟨Nat.zero_le _, Nat.zero_le _⟩ (fun H locs hP hD hS => ?_)
        obtain ⟨e1, e2⟩ := Prod.mk.inj hE
        subst e2
        exact ci_i hx hb hr hlocks e1 rfl hS hP dX9_refusal_53
    · rw [if_pos b2] at hE
      refine lv_aload_n hx hb dX9_refusal_20 rfl (lv_at hl 1 rfl) ?_
      refine z_iconst hx hb dX9_refusal_21 ?_
      refine ct_Vi (VG_fix E cI cC) hZo hZb hZ S0 (kX9_fails l D E cI cC Z hZo hZb M (1)  (fX9_fails M (1)).1 (fX9_fails M (1)).2 (Prod.ext rfl rfl)) (cwV 1 hts gX9_refusal_X9_fails rfl rfl rfl (by decide +kernel) ⟨(Nat.le_of_ble_eq_true rfl), (Nat.le_of_ble_eq_true rfl)⟩) hK hP hD hS rfl rfl VG_0 rfl hl.1 rfl (Nat.le_of_ble_eq_true rfl) dX9_refusal_22 ⟨Nat.zero_le _, Nat.zero_le _⟩ (fun H locs hP hD hS => ?_)
      obtain ⟨e1, e2⟩ := Prod.mk.inj hE
      subst e2
      exact ci_i hx hb hr hlocks e1 rfl hS hP dX9_refusal_25
  · rw [if_neg b1] at hE
    refine lv_aload_n hx hb dX9_refusal_4 rfl (lv_at hl 0 rfl) ?_
    refine va_get (own := RX9) (ref := "NapkinSyntaxModel") (C := RX9) (T := TX9) (N := 20) hx hb hts hinX9 hown hK hP 0 VG_0 rfl 11 (Nat.le_of_ble_eq_true rfl) (hts (.fieldLink RX9 49 "NapkinSyntaxModel" "behind" "I") (by decide +kernel)) (fun _ h => h) (v := .int (iI (M 21 0))) rfl dX9_refusal_5 ?_
    refine lv_goto hx hb dX9_refusal_8 (tgt := 15) rfl ?_
    refine lv_istore_n hx hb dX9_refusal_15 rfl hl (Nat.le_of_ble_eq_true rfl) (lv' := [(3, .int (iI (M 21 0))), (0, .ref (E 0)), (1, .int (iI isCause)), (2, .int (iI isDetail))]) rfl (fun ls hl => ?_)
    refine lv_iload_n hx hb dX9_refusal_16 rfl (lv_at hl 0 rfl) ?_
    refine z_if_ne hx hb dX9_refusal_17 (tgt := 26) rfl (by omega) (fun b5 => ?_) (fun b5 => ?_)
    · rw [if_neg b5] at hE
      refine lv_aload_n hx hb dX9_refusal_26 rfl (lv_at hl 1 rfl) ?_
      refine lv_iload_n hx hb dX9_refusal_27 rfl (lv_at hl 3 rfl) ?_
      refine z_if_ne hx hb dX9_refusal_28 (tgt := 35) rfl (by omega) (fun b6 => ?_) (fun b6 => ?_)
      · rw [if_neg b6] at hE
        refine lv_iload_n hx hb dX9_refusal_35 rfl (lv_at hl 2 rfl) ?_
        refine z_if_eq hx hb dX9_refusal_36 (tgt := 46) rfl (by omega) (fun b7 => ?_) (fun b7 => ?_)
        · rw [if_pos b7] at hE
          refine lv_aload_n hx hb dX9_refusal_46 rfl (lv_at hl 1 rfl) ?_
          refine va_get (own := RX9) (ref := "NapkinSyntaxModel") (C := RX9) (T := TX9) (N := 20) hx hb hts hinX9 hown hK hP 0 VG_0 rfl 10 (Nat.le_of_ble_eq_true rfl) (hts (.fieldLink RX9 46 "NapkinSyntaxModel" "whyDetail" "I") (by decide +kernel)) (fun _ h => h) (v := .int (iI (M 20 0))) rfl dX9_refusal_47 ?_
          refine ct_Vi (VG_fix E cI cC) hZo hZb hZ S0 (kX9_done l D E cI cC Z hZo hZb M (M 20 0)  (fX9_done M (M 20 0)).1 (fX9_done M (M 20 0)).2 (Prod.ext rfl rfl)) (cwV 1 hts gX9_refusal_X9_done rfl rfl rfl (by decide +kernel) ⟨(Nat.le_of_ble_eq_true rfl), (Nat.le_of_ble_eq_true rfl)⟩) hK hP hD hS rfl rfl VG_0 rfl hl.1 rfl (Nat.le_of_ble_eq_true rfl) dX9_refusal_50 ⟨Nat.zero_le _, Nat.zero_le _⟩ (fun H locs hP hD hS => ?_)
          obtain ⟨e1, e2⟩ := Prod.mk.inj hE
          subst e2
          exact ci_i hx hb hr hlocks e1 rfl hS hP dX9_refusal_53
        · rw [if_neg b7] at hE
          refine lv_aload_n hx hb dX9_refusal_39 rfl (lv_at hl 1 rfl) ?_
          refine va_get (own := RX9) (ref := "NapkinSyntaxModel") (C := RX9) (T := TX9) (N := 20) hx hb hts hinX9 hown hK hP 0 VG_0 rfl 12 (Nat.le_of_ble_eq_true rfl) (hts (.fieldLink RX9 52 "NapkinSyntaxModel" "behindDetail" "I") (by decide +kernel)) (fun _ h => h) (v := .int (iI (M 22 0))) rfl dX9_refusal_40 ?_
          refine lv_goto hx hb dX9_refusal_43 (tgt := 50) rfl ?_
          refine ct_Vi (VG_fix E cI cC) hZo hZb hZ S0 (kX9_done l D E cI cC Z hZo hZb M (M 22 0)  (fX9_done M (M 22 0)).1 (fX9_done M (M 22 0)).2 (Prod.ext rfl rfl)) (cwV 1 hts gX9_refusal_X9_done rfl rfl rfl (by decide +kernel) ⟨(Nat.le_of_ble_eq_true rfl), (Nat.le_of_ble_eq_true rfl)⟩) hK hP hD hS rfl rfl VG_0 rfl hl.1 rfl (Nat.le_of_ble_eq_true rfl) dX9_refusal_50 ⟨Nat.zero_le _, Nat.zero_le _⟩ (fun H locs hP hD hS => ?_)
          obtain ⟨e1, e2⟩ := Prod.mk.inj hE
          subst e2
          exact ci_i hx hb hr hlocks e1 rfl hS hP dX9_refusal_53
      · rw [if_pos b6] at hE
        refine lv_iload_n hx hb dX9_refusal_31 rfl (lv_at hl 0 rfl) ?_
        refine lv_goto hx hb dX9_refusal_32 (tgt := 50) rfl ?_
        refine ct_Vi (VG_fix E cI cC) hZo hZb hZ S0 (kX9_done l D E cI cC Z hZo hZb M (M 21 0)  (fX9_done M (M 21 0)).1 (fX9_done M (M 21 0)).2 (Prod.ext rfl rfl)) (cwV 1 hts gX9_refusal_X9_done rfl rfl rfl (by decide +kernel) ⟨(Nat.le_of_ble_eq_true rfl), (Nat.le_of_ble_eq_true rfl)⟩) hK hP hD hS rfl rfl VG_0 rfl hl.1 rfl (Nat.le_of_ble_eq_true rfl) dX9_refusal_50 ⟨Nat.zero_le _, Nat.zero_le _⟩ (fun H locs hP hD hS => ?_)
        obtain ⟨e1, e2⟩ := Prod.mk.inj hE
        subst e2
        exact ci_i hx hb hr hlocks e1 rfl hS hP dX9_refusal_53
    · rw [if_pos b5] at hE
      refine lv_aload_n hx hb dX9_refusal_20 rfl (lv_at hl 1 rfl) ?_
      refine z_iconst hx hb dX9_refusal_21 ?_
      refine ct_Vi (VG_fix E cI cC) hZo hZb hZ S0 (kX9_fails l D E cI cC Z hZo hZb M (1)  (fX9_fails M (1)).1 (fX9_fails M (1)).2 (Prod.ext rfl rfl)) (cwV 1 hts gX9_refusal_X9_fails rfl rfl rfl (by decide +kernel) ⟨(Nat.le_of_ble_eq_true rfl), (Nat.le_of_ble_eq_true rfl)⟩) hK hP hD hS rfl rfl VG_0 rfl hl.1 rfl (Nat.le_of_ble_eq_true rfl) dX9_refusal_22 ⟨Nat.zero_le _, Nat.zero_le _⟩ (fun H locs hP hD hS => ?_)
      obtain ⟨e1, e2⟩ := Prod.mk.inj hE
      subst e2
      exact ci_i hx hb hr hlocks e1 rfl hS hP dX9_refusal_25

theorem fr_fX9_refusal {M : Mem} (isCause isDetail : Int) {r : Nat} (h23 : Nat.beq r 23 = false) (h26 : Nat.beq r 26 = false) : (fX9_refusal M isCause isDetail).2 r = M r := by
  unfold fX9_refusal
  (repeat' with_reducible refine frite_w (fun _ => ?_) (fun _ => ?_)) <;> first | with_reducible rfl | simp only [mst_o, msf_o, mcp_o, fr_fX9_done, fr_fX9_fails, h23, h26]

def fX9_writes (M : Mem) (ch : Int) : Mem := (msf (mst M 5 (M 25 0) ch) 25 ((M 25 0) + (1)))
set_option maxRecDepth 100000 in
set_option maxHeartbeats 4000000 in
theorem kX9_writes (l : Launch) (D : va_G) (E : Nat → Nat) (cI cC : ClassId) (Z : State → Prop) (hZo : ∀ M : Mem, ZOk (VG E cI cC M) Z) (hZb : ZBl Z) (M : Mem) (ch : Int) (h1 : 0 ≤ ch ∧ ch < 65536) (h2 : 0 ≤ M 25 0 ∧ M 25 0 ≤ 59) (M' : Mem) (hE : fX9_writes M ch = M') : Cv l yX9_writes wsX9_writes 0 0 [.ref (E 0), .int (iI ch)] D (TY cI cC) (VG E cI cC) Z M M' := by
  refine Cv.of (cc := cX9_writes) (maxL := 2) (ret := none) (by decide +kernel) rfl (Nat.le_of_ble_eq_true rfl) ?_
  intro p e s m args below meth c ls hx hb hml hr hown hts hlocks hP hK hD hZ hS hl
  have hl : lv_has ls 2 [(0, .ref (E 0)), (1, .int (iI ch))] := hl
  have S0 : CallFix p m c cX9_writes 2 s args wsX9_writes RX9 := ⟨hx, hb, hml, hown, hts⟩
  have hinX9 : ∀ w ∈ u_ws RX9 TX9 20, w ∈ wsX9_writes := by decide +kernel
  rw [fX9_writes] at hE
  refine lv_aload_n hx hb dX9_writes_0 rfl (lv_at hl 0 rfl) ?_
  refine va_get (own := RX9) (ref := "NapkinSyntaxModel") (C := RX9) (T := TX9) (N := 20) hx hb hts hinX9 hown hK hP 0 VG_0 rfl 14 (Nat.le_of_ble_eq_true rfl) (hts (.fieldLink RX9 30 "NapkinSyntaxModel" "letters" "[C") (by decide +kernel)) (fun _ h => h) (v := .ref (E 6)) rfl dX9_writes_1 ?_
  refine lv_aload_n hx hb dX9_writes_4 rfl (lv_at hl 0 rfl) ?_
  refine va_get (own := RX9) (ref := "NapkinSyntaxModel") (C := RX9) (T := TX9) (N := 20) hx hb hts hinX9 hown hK hP 0 VG_0 rfl 15 (Nat.le_of_ble_eq_true rfl) (hts (.fieldLink RX9 237 "NapkinSyntaxModel" "lined" "I") (by decide +kernel)) (fun _ h => h) (v := .int (iI (M 25 0))) rfl dX9_writes_5 ?_
  refine lv_iload_n hx hb dX9_writes_8 rfl (lv_at hl 1 rfl) ?_
  refine z_i2c hx hb dX9_writes_9 (by omega) (by omega) ?_
  refine z_cast hx hb hK hP hD hS 6 1 VG_6 rfl (by omega) (by omega) (by decide) (by omega) (by omega) dX9_writes_10 VGw_5 (fun H locs hP hD hS => ?_)
  refine lv_aload_n hx hb dX9_writes_11 rfl (lv_at hl 0 rfl) ?_
  refine lv_dup hx hb dX9_writes_12 rfl ?_
  refine va_get (own := RX9) (ref := "NapkinSyntaxModel") (C := RX9) (T := TX9) (N := 20) hx hb hts hinX9 hown hK hP 0 VG_0 rfl 15 (Nat.le_of_ble_eq_true rfl) (hts (.fieldLink RX9 237 "NapkinSyntaxModel" "lined" "I") (by decide +kernel)) (fun _ h => h) (v := .int (iI (M 25 0))) rfl dX9_writes_13 ?_
  refine z_iconst hx hb dX9_writes_16 ?_
  refine z_iadd hx hb dX9_writes_17 ?_
  refine va_put (own := RX9) (ref := "NapkinSyntaxModel") (C := RX9) (T := TX9) (N := 20) hx hb hts hinX9 tyX9 tyX9_ok nmX9 hown hK hP hD hS 0 VG_0 rfl 15 (Nat.le_of_ble_eq_true rfl) (hts (.fieldLink RX9 237 "NapkinSyntaxModel" "lined" "I") (by decide +kernel)) (fun _ h => h) rfl (ty := .int) (v := .int (iI ((M 25 0) + (1)))) (by decide +kernel) rfl rfl (Nat.le_of_ble_eq_true rfl) dX9_writes_18 (fun H locs hP hD hS => ?_)
  rw [VGf_25] at hP hD
  subst hE
  exact cv_v hx hb hr hlocks hS hP dX9_writes_21

theorem fr_fX9_writes {M : Mem} (ch : Int) {r : Nat} (h5 : Nat.beq r 5 = false) (h25 : Nat.beq r 25 = false) : (fX9_writes M ch) r = M r := by
  unfold fX9_writes
  (repeat' with_reducible refine frite_v (fun _ => ?_) (fun _ => ?_)) <;> first | with_reducible rfl | simp only [mst_o, msf_o, mcp_o, h5, h25]


theorem wr_25 (M : Mem) (c : Int) : fX9_writes M c 25 0 = M 25 0 + 1 := rfl

def fX9_show_L1 (M : Mem) (table : Int) : Nat → Mem → Int → (Int × Mem)
  | 0, Mx, _ => (0, Mx)
  | k1 + 1, Mx, place => if ((Mx 0 ((55) + table)) ≤ place) then ((fX9_done Mx (Mx 25 0)).1, (fX9_done Mx (Mx 25 0)).2) else if ((Mx 0 ((15) + (fX9_at Mx table place))) = (1)) then if (((fX9_writes (fX9_writes Mx ((48) + (fX9_at Mx table place))) (115)) 0 ((35) + (fX9_at Mx table place))) ≤ 0) then fX9_show_L1 M table k1 (fX9_writes (fX9_writes Mx ((48) + (fX9_at Mx table place))) (115)) (place + 1) else fX9_show_L1 M table k1 (fX9_writes (fX9_writes (fX9_writes Mx ((48) + (fX9_at Mx table place))) (115)) (42)) (place + 1) else if ((Mx 0 ((15) + (fX9_at Mx table place))) = (2)) then if (((fX9_writes (fX9_writes Mx ((48) + (fX9_at Mx table place))) (102)) 0 ((35) + (fX9_at Mx table place))) ≤ 0) then fX9_show_L1 M table k1 (fX9_writes (fX9_writes Mx ((48) + (fX9_at Mx table place))) (102)) (place + 1) else fX9_show_L1 M table k1 (fX9_writes (fX9_writes (fX9_writes Mx ((48) + (fX9_at Mx table place))) (102)) (42)) (place + 1) else if ((Mx 0 ((15) + (fX9_at Mx table place))) = (3)) then if (((fX9_writes (fX9_writes Mx ((48) + (fX9_at Mx table place))) (98)) 0 ((35) + (fX9_at Mx table place))) ≤ 0) then fX9_show_L1 M table k1 (fX9_writes (fX9_writes Mx ((48) + (fX9_at Mx table place))) (98)) (place + 1) else fX9_show_L1 M table k1 (fX9_writes (fX9_writes (fX9_writes Mx ((48) + (fX9_at Mx table place))) (98)) (42)) (place + 1) else if ((Mx 0 ((15) + (fX9_at Mx table place))) = (4)) then if (((fX9_writes (fX9_writes Mx ((48) + (fX9_at Mx table place))) (99)) 0 ((35) + (fX9_at Mx table place))) ≤ 0) then fX9_show_L1 M table k1 (fX9_writes (fX9_writes Mx ((48) + (fX9_at Mx table place))) (99)) (place + 1) else fX9_show_L1 M table k1 (fX9_writes (fX9_writes (fX9_writes Mx ((48) + (fX9_at Mx table place))) (99)) (42)) (place + 1) else if (((fX9_writes (fX9_writes Mx ((48) + (fX9_at Mx table place))) (46)) 0 ((35) + (fX9_at Mx table place))) ≤ 0) then fX9_show_L1 M table k1 (fX9_writes (fX9_writes Mx ((48) + (fX9_at Mx table place))) (46)) (place + 1) else fX9_show_L1 M table k1 (fX9_writes (fX9_writes (fX9_writes Mx ((48) + (fX9_at Mx table place))) (46)) (42)) (place + 1)
def fX9_show (M : Mem) (table : Int) : Int × Mem := if ((fX9_isTable table) = 0) then ((fX9_fails M (1)).1, (fX9_fails M (1)).2) else fX9_show_L1 M table 7 (msf M 25 (0)) (0)
set_option maxRecDepth 100000 in
set_option maxHeartbeats 4000000 in
theorem kX9_show (l : Launch) (D : va_G) (E : Nat → Nat) (cI cC : ClassId) (Z : State → Prop) (hZo : ∀ M : Mem, ZOk (VG E cI cC M) Z) (hZb : ZBl Z) (M : Mem) (table : Int) (h1 : -2147483648 ≤ table ∧ table < 2147483648) (hG : GI M) (r : Int) (M' : Mem) (hE : fX9_show M table = (r, M')) : Ci l yX9_show wsX9_show 2 42 [.ref (E 0), .int (iI table)] D (TY cI cC) (VG E cI cC) Z M r M' := by
  refine Ci.of (cc := cX9_show) (maxL := 5) (ret := (some .int)) (by decide +kernel) rfl (Nat.le_of_ble_eq_true rfl) ?_
  intro p e s m args below meth c ls hx hb hml hr hown hts hlocks hP hK hD hZ hS hl
  have hl : lv_has ls 5 [(0, .ref (E 0)), (1, .int (iI table))] := hl
  have S0 : CallFix p m c cX9_show 5 s args wsX9_show RX9 := ⟨hx, hb, hml, hown, hts⟩
  have hinX9 : ∀ w ∈ u_ws RX9 TX9 20, w ∈ wsX9_show := by decide +kernel
  rw [fX9_show] at hE
  refine lv_iload_n hx hb dX9_show_0 rfl (lv_at hl 1 rfl) ?_
  refine ct_Si (VG_fix E cI cC) hZo hZb hZ S0 (kX9_isTable l D E cI cC Z hZo hZb M table (by omega) (fX9_isTable table) rfl) (va_cwS 1 hts gX9_show_X9_isTable rfl rfl rfl (by decide +kernel) ⟨(Nat.le_of_ble_eq_true rfl), (Nat.le_of_ble_eq_true rfl)⟩) hK hP hD hS rfl hl.1 rfl (Nat.le_of_ble_eq_true rfl) dX9_show_1 ⟨Nat.zero_le _, Nat.zero_le _⟩ (fun H locs hP hD hS => ?_)
  have q1 := dX9_isTable table
  refine z_if_ne hx hb dX9_show_4 (tgt := 13) rfl (by omega) (fun b2 => ?_) (fun b2 => ?_)
  · rw [if_neg b2] at hE
    refine lv_aload_n hx hb dX9_show_13 rfl (lv_at hl 0 rfl) ?_
    refine z_iconst hx hb dX9_show_14 ?_
    refine va_put (own := RX9) (ref := "NapkinSyntaxModel") (C := RX9) (T := TX9) (N := 20) hx hb hts hinX9 tyX9 tyX9_ok nmX9 hown hK hP hD hS 0 VG_0 rfl 15 (Nat.le_of_ble_eq_true rfl) (hts (.fieldLink RX9 237 "NapkinSyntaxModel" "lined" "I") (by decide +kernel)) (fun _ h => h) rfl (ty := .int) (v := .int (iI (0))) (by decide +kernel) rfl rfl (Nat.le_of_ble_eq_true rfl) dX9_show_15 (fun H locs hP hD hS => ?_)
    rw [VGf_25] at hP hD
    refine z_iconst hx hb dX9_show_18 ?_
    refine lv_istore_n hx hb dX9_show_19 rfl hl (Nat.le_of_ble_eq_true rfl) (lv' := [(2, .int (iI (0))), (0, .ref (E 0)), (1, .int (iI table))]) rfl (fun ls hl => ?_)
    have L1 : ∀ (k1 : Nat) (Mx : Mem) (place : Int) (ls : Array Slot) (H : Heap) (locs : List Loc), lv_has ls 5 [(0, .ref (E 0)), (1, .int (iI table)), (2, .int (iI place))] → va_P D vwCl (VG E cI cC Mx) H → va_D (wA (VG E cI cC M)) (VG E cI cC Mx) → va_S (wA (VG E cI cC M)) s.heap H locs → (0 ≤ place ∧ place ≤ 6) → (6 - place < (k1 : Int)) → (GI Mx) → (0 ≤ Mx 25 0 ∧ Mx 25 0 ≤ 3 * place) → fX9_show_L1 M table k1 Mx place = (r, M') → W p l e (zRm 2 42) s m args below meth c H locs 0 0 (MQ below (ciQ D (VG E cI cC) M r M') args s 0 0 (wA (VG E cI cC M))) (F0 m 20 ls []) := by
      intro k1
      induction k1 with
      | zero => intro Mx place ls H locs hl hP hD hS i1 i3 jG jw hE; exfalso; omega
      | succ k1 ih1 =>
        intro Mx place ls H locs hl hP hD hS i1 i3 jG jw hE
        have q98 := GI_55 jG ((55) + table) (by omega) (by omega)
        rw [fX9_show_L1] at hE
        refine lv_iload_n hx hb dX9_show_20 rfl (lv_at hl 2 rfl) ?_
        refine lv_aload_n hx hb dX9_show_21 rfl (lv_at hl 0 rfl) ?_
        refine va_get (own := RX9) (ref := "NapkinSyntaxModel") (C := RX9) (T := TX9) (N := 20) hx hb hts hinX9 hown hK hP 0 VG_0 rfl 0 (Nat.le_of_ble_eq_true rfl) (hts (.fieldLink RX9 7 "NapkinSyntaxModel" "g" "[I") (by decide +kernel)) (fun _ h => h) (v := .ref (E 1)) rfl dX9_show_22 ?_
        refine z_bipush hx hb dX9_show_25 (by decide +kernel) ?_
        refine lv_iload_n hx hb dX9_show_27 rfl (lv_at hl 1 rfl) ?_
        refine z_iadd hx hb dX9_show_28 ?_
        refine z_iald hx hb hK hP 1 0 VG_1 rfl (by omega) (by omega) (by decide) dX9_show_29 ?_
        have q3 := GI_55 jG ((55) + table) (by omega) (by omega)
        refine z_icmp_ge hx hb dX9_show_30 (tgt := 133) rfl (by omega) (by omega) (fun b4 => ?_) (fun b4 => ?_)
        · rw [if_pos b4] at hE
          refine lv_aload_n hx hb dX9_show_133 rfl (lv_at hl 0 rfl) ?_
          refine lv_aload_n hx hb dX9_show_134 rfl (lv_at hl 0 rfl) ?_
          refine va_get (own := RX9) (ref := "NapkinSyntaxModel") (C := RX9) (T := TX9) (N := 20) hx hb hts hinX9 hown hK hP 0 VG_0 rfl 15 (Nat.le_of_ble_eq_true rfl) (hts (.fieldLink RX9 237 "NapkinSyntaxModel" "lined" "I") (by decide +kernel)) (fun _ h => h) (v := .int (iI (Mx 25 0))) rfl dX9_show_135 ?_
          refine ct_Vi (VG_fix E cI cC) hZo hZb hZ S0 (kX9_done l D E cI cC Z hZo hZb Mx (Mx 25 0)  (fX9_done Mx (Mx 25 0)).1 (fX9_done Mx (Mx 25 0)).2 (Prod.ext rfl rfl)) (cwV 1 hts gX9_show_X9_done rfl rfl rfl (by decide +kernel) ⟨(Nat.le_of_ble_eq_true rfl), (Nat.le_of_ble_eq_true rfl)⟩) hK hP hD hS rfl rfl VG_0 rfl hl.1 rfl (Nat.le_of_ble_eq_true rfl) dX9_show_138 ⟨Nat.zero_le _, Nat.zero_le _⟩ (fun H locs hP hD hS => ?_)
          obtain ⟨e1, e2⟩ := Prod.mk.inj hE
          subst e2
          exact ci_i hx hb hr hlocks e1 rfl hS hP dX9_show_141
        · rw [if_neg b4] at hE
          refine lv_aload_n hx hb dX9_show_33 rfl (lv_at hl 0 rfl) ?_
          refine lv_iload_n hx hb dX9_show_34 rfl (lv_at hl 1 rfl) ?_
          refine lv_iload_n hx hb dX9_show_35 rfl (lv_at hl 2 rfl) ?_
          refine ct_Vi (VG_fix E cI cC) hZo hZb hZ S0 (kX9_at l D E cI cC Z hZo hZb Mx table place (by omega) (by omega) (fX9_at Mx table place) rfl) (cwV 2 hts gX9_show_X9_at rfl rfl rfl (by decide +kernel) ⟨(Nat.le_of_ble_eq_true rfl), (Nat.le_of_ble_eq_true rfl)⟩) hK hP hD hS rfl rfl VG_0 rfl hl.1 rfl (Nat.le_of_ble_eq_true rfl) dX9_show_36 ⟨Nat.zero_le _, Nat.zero_le _⟩ (fun H locs hP hD hS => ?_)
          have q5 := rg_X9_at jG table place (by omega) (by omega)
          refine lv_istore_n hx hb dX9_show_39 rfl hl (Nat.le_of_ble_eq_true rfl) (lv' := [(3, .int (iI (fX9_at Mx table place))), (0, .ref (E 0)), (1, .int (iI table)), (2, .int (iI place))]) rfl (fun ls hl => ?_)
          refine lv_aload_n hx hb dX9_show_40 rfl (lv_at hl 1 rfl) ?_
          refine va_get (own := RX9) (ref := "NapkinSyntaxModel") (C := RX9) (T := TX9) (N := 20) hx hb hts hinX9 hown hK hP 0 VG_0 rfl 0 (Nat.le_of_ble_eq_true rfl) (hts (.fieldLink RX9 7 "NapkinSyntaxModel" "g" "[I") (by decide +kernel)) (fun _ h => h) (v := .ref (E 1)) rfl dX9_show_41 ?_
          refine z_bipush hx hb dX9_show_44 (by decide +kernel) ?_
          refine lv_iload_n hx hb dX9_show_46 rfl (lv_at hl 0 rfl) ?_
          refine z_iadd hx hb dX9_show_47 ?_
          refine z_iald hx hb hK hP 1 0 VG_1 rfl (by omega) (by omega) (by decide) dX9_show_48 ?_
          have q6 := GI_15 jG ((15) + (fX9_at Mx table place)) (by omega) (by omega)
          refine lv_istore hx hb dX9_show_49 hl (Nat.le_of_ble_eq_true rfl) (lv' := [(4, .int (iI (Mx 0 ((15) + (fX9_at Mx table place))))), (3, .int (iI (fX9_at Mx table place))), (0, .ref (E 0)), (1, .int (iI table)), (2, .int (iI place))]) rfl (fun ls hl => ?_)
          refine lv_aload_n hx hb dX9_show_51 rfl (lv_at hl 2 rfl) ?_
          refine z_bipush hx hb dX9_show_52 (by decide +kernel) ?_
          refine lv_iload_n hx hb dX9_show_54 rfl (lv_at hl 1 rfl) ?_
          refine z_iadd hx hb dX9_show_55 ?_
          refine ct_Vv (VG_fix E cI cC) hZo hZb hZ S0 (kX9_writes l D E cI cC Z hZo hZb Mx ((48) + (fX9_at Mx table place)) (by omega) (by first | omega | (simp only [wr_25]; omega)) (fX9_writes Mx ((48) + (fX9_at Mx table place))) rfl) (cwV 1 hts gX9_show_X9_writes rfl rfl rfl (by decide +kernel) ⟨(Nat.le_of_ble_eq_true rfl), (Nat.le_of_ble_eq_true rfl)⟩) hK hP hD hS rfl rfl VG_0 rfl hl.1 rfl (Nat.le_of_ble_eq_true rfl) dX9_show_56 ⟨Nat.zero_le _, Nat.zero_le _⟩ (fun H locs hP hD hS => ?_)
          refine lv_aload_n hx hb dX9_show_59 rfl (lv_at hl 2 rfl) ?_
          refine lv_iload hx hb dX9_show_60 (lv_at hl 0 rfl) ?_
          refine z_iconst hx hb dX9_show_62 ?_
          refine z_icmp_ne hx hb dX9_show_63 (tgt := 71) rfl (by omega) (by omega) (fun b7 => ?_) (fun b7 => ?_)
          · rw [if_neg b7] at hE
            refine lv_iload hx hb dX9_show_71 (lv_at hl 0 rfl) ?_
            refine z_iconst hx hb dX9_show_73 ?_
            refine z_icmp_ne hx hb dX9_show_74 (tgt := 82) rfl (by omega) (by omega) (fun b8 => ?_) (fun b8 => ?_)
            · rw [if_neg b8] at hE
              refine lv_iload hx hb dX9_show_82 (lv_at hl 0 rfl) ?_
              refine z_iconst hx hb dX9_show_84 ?_
              refine z_icmp_ne hx hb dX9_show_85 (tgt := 93) rfl (by omega) (by omega) (fun b9 => ?_) (fun b9 => ?_)
              · rw [if_neg b9] at hE
                refine lv_iload hx hb dX9_show_93 (lv_at hl 0 rfl) ?_
                refine z_iconst hx hb dX9_show_95 ?_
                refine z_icmp_ne hx hb dX9_show_96 (tgt := 104) rfl (by omega) (by omega) (fun b10 => ?_) (fun b10 => ?_)
                · rw [if_neg b10] at hE
                  refine z_bipush hx hb dX9_show_104 (by decide +kernel) ?_
                  refine ct_Vv (VG_fix E cI cC) hZo hZb hZ S0 (kX9_writes l D E cI cC Z hZo hZb (fX9_writes Mx ((48) + (fX9_at Mx table place))) (46) (by omega) (by first | omega | (simp only [wr_25]; omega)) (fX9_writes (fX9_writes Mx ((48) + (fX9_at Mx table place))) (46)) rfl) (cwV 1 hts gX9_show_X9_writes rfl rfl rfl (by decide +kernel) ⟨(Nat.le_of_ble_eq_true rfl), (Nat.le_of_ble_eq_true rfl)⟩) hK hP hD hS rfl rfl VG_0 rfl hl.1 rfl (Nat.le_of_ble_eq_true rfl) dX9_show_106 ⟨Nat.zero_le _, Nat.zero_le _⟩ (fun H locs hP hD hS => ?_)
                  refine lv_aload_n hx hb dX9_show_109 rfl (lv_at hl 2 rfl) ?_
                  refine va_get (own := RX9) (ref := "NapkinSyntaxModel") (C := RX9) (T := TX9) (N := 20) hx hb hts hinX9 hown hK hP 0 VG_0 rfl 0 (Nat.le_of_ble_eq_true rfl) (hts (.fieldLink RX9 7 "NapkinSyntaxModel" "g" "[I") (by decide +kernel)) (fun _ h => h) (v := .ref (E 1)) rfl dX9_show_110 ?_
                  refine z_bipush hx hb dX9_show_113 (by decide +kernel) ?_
                  refine lv_iload_n hx hb dX9_show_115 rfl (lv_at hl 1 rfl) ?_
                  refine z_iadd hx hb dX9_show_116 ?_
                  refine z_iald hx hb hK hP 1 0 VG_1 rfl (by omega) (by omega) (by decide) dX9_show_117 ?_
                  have q11 := GI_35 (GI_of (fr_fX9_writes (46) rfl rfl) (GI_of (fr_fX9_writes ((48) + (fX9_at Mx table place)) rfl rfl) jG)) ((35) + (fX9_at Mx table place)) (by omega) (by omega)
                  refine z_if_le hx hb dX9_show_118 (tgt := 127) rfl (by omega) (fun b12 => ?_) (fun b12 => ?_)
                  · rw [if_pos b12] at hE
                    refine z_iinc hx hb dX9_show_127 hl (k := 4) rfl (Nat.le_of_ble_eq_true rfl) (lv' := [(2, .int (iI (place + 1))), (4, .int (iI (Mx 0 ((15) + (fX9_at Mx table place))))), (3, .int (iI (fX9_at Mx table place))), (0, .ref (E 0)), (1, .int (iI table))]) rfl (fun ls hl => ?_)
                    refine lv_goto hx hb dX9_show_130 (tgt := 20) rfl ?_
                    exact ih1 (fX9_writes (fX9_writes Mx ((48) + (fX9_at Mx table place))) (46)) (place + 1) ls _ _ (lv_sub hl [3, 4, 0] rfl) hP hD hS (by omega) (by omega) (GI_of (fr_fX9_writes (46) rfl rfl) (GI_of (fr_fX9_writes ((48) + (fX9_at Mx table place)) rfl rfl) jG)) (by simp only [wr_25]; omega) hE
                  · rw [if_neg b12] at hE
                    refine lv_aload_n hx hb dX9_show_121 rfl (lv_at hl 2 rfl) ?_
                    refine z_bipush hx hb dX9_show_122 (by decide +kernel) ?_
                    refine ct_Vv (VG_fix E cI cC) hZo hZb hZ S0 (kX9_writes l D E cI cC Z hZo hZb (fX9_writes (fX9_writes Mx ((48) + (fX9_at Mx table place))) (46)) (42) (by omega) (by first | omega | (simp only [wr_25]; omega)) (fX9_writes (fX9_writes (fX9_writes Mx ((48) + (fX9_at Mx table place))) (46)) (42)) rfl) (cwV 1 hts gX9_show_X9_writes rfl rfl rfl (by decide +kernel) ⟨(Nat.le_of_ble_eq_true rfl), (Nat.le_of_ble_eq_true rfl)⟩) hK hP hD hS rfl rfl VG_0 rfl hl.1 rfl (Nat.le_of_ble_eq_true rfl) dX9_show_124 ⟨Nat.zero_le _, Nat.zero_le _⟩ (fun H locs hP hD hS => ?_)
                    refine z_iinc hx hb dX9_show_127 hl (k := 4) rfl (Nat.le_of_ble_eq_true rfl) (lv' := [(2, .int (iI (place + 1))), (4, .int (iI (Mx 0 ((15) + (fX9_at Mx table place))))), (3, .int (iI (fX9_at Mx table place))), (0, .ref (E 0)), (1, .int (iI table))]) rfl (fun ls hl => ?_)
                    refine lv_goto hx hb dX9_show_130 (tgt := 20) rfl ?_
                    exact ih1 (fX9_writes (fX9_writes (fX9_writes Mx ((48) + (fX9_at Mx table place))) (46)) (42)) (place + 1) ls _ _ (lv_sub hl [3, 4, 0] rfl) hP hD hS (by omega) (by omega) (GI_of (fr_fX9_writes (42) rfl rfl) (GI_of (fr_fX9_writes (46) rfl rfl) (GI_of (fr_fX9_writes ((48) + (fX9_at Mx table place)) rfl rfl) jG))) (by simp only [wr_25]; omega) hE
                · rw [if_pos b10] at hE
                  refine z_bipush hx hb dX9_show_99 (by decide +kernel) ?_
                  refine lv_goto hx hb dX9_show_101 (tgt := 106) rfl ?_
                  refine ct_Vv (VG_fix E cI cC) hZo hZb hZ S0 (kX9_writes l D E cI cC Z hZo hZb (fX9_writes Mx ((48) + (fX9_at Mx table place))) (99) (by omega) (by first | omega | (simp only [wr_25]; omega)) (fX9_writes (fX9_writes Mx ((48) + (fX9_at Mx table place))) (99)) rfl) (cwV 1 hts gX9_show_X9_writes rfl rfl rfl (by decide +kernel) ⟨(Nat.le_of_ble_eq_true rfl), (Nat.le_of_ble_eq_true rfl)⟩) hK hP hD hS rfl rfl VG_0 rfl hl.1 rfl (Nat.le_of_ble_eq_true rfl) dX9_show_106 ⟨Nat.zero_le _, Nat.zero_le _⟩ (fun H locs hP hD hS => ?_)
                  refine lv_aload_n hx hb dX9_show_109 rfl (lv_at hl 2 rfl) ?_
                  refine va_get (own := RX9) (ref := "NapkinSyntaxModel") (C := RX9) (T := TX9) (N := 20) hx hb hts hinX9 hown hK hP 0 VG_0 rfl 0 (Nat.le_of_ble_eq_true rfl) (hts (.fieldLink RX9 7 "NapkinSyntaxModel" "g" "[I") (by decide +kernel)) (fun _ h => h) (v := .ref (E 1)) rfl dX9_show_110 ?_
                  refine z_bipush hx hb dX9_show_113 (by decide +kernel) ?_
                  refine lv_iload_n hx hb dX9_show_115 rfl (lv_at hl 1 rfl) ?_
                  refine z_iadd hx hb dX9_show_116 ?_
                  refine z_iald hx hb hK hP 1 0 VG_1 rfl (by omega) (by omega) (by decide) dX9_show_117 ?_
                  have q13 := GI_35 (GI_of (fr_fX9_writes (99) rfl rfl) (GI_of (fr_fX9_writes ((48) + (fX9_at Mx table place)) rfl rfl) jG)) ((35) + (fX9_at Mx table place)) (by omega) (by omega)
                  refine z_if_le hx hb dX9_show_118 (tgt := 127) rfl (by omega) (fun b14 => ?_) (fun b14 => ?_)
                  · rw [if_pos b14] at hE
                    refine z_iinc hx hb dX9_show_127 hl (k := 4) rfl (Nat.le_of_ble_eq_true rfl) (lv' := [(2, .int (iI (place + 1))), (4, .int (iI (Mx 0 ((15) + (fX9_at Mx table place))))), (3, .int (iI (fX9_at Mx table place))), (0, .ref (E 0)), (1, .int (iI table))]) rfl (fun ls hl => ?_)
                    refine lv_goto hx hb dX9_show_130 (tgt := 20) rfl ?_
                    exact ih1 (fX9_writes (fX9_writes Mx ((48) + (fX9_at Mx table place))) (99)) (place + 1) ls _ _ (lv_sub hl [3, 4, 0] rfl) hP hD hS (by omega) (by omega) (GI_of (fr_fX9_writes (99) rfl rfl) (GI_of (fr_fX9_writes ((48) + (fX9_at Mx table place)) rfl rfl) jG)) (by simp only [wr_25]; omega) hE
                  · rw [if_neg b14] at hE
                    refine lv_aload_n hx hb dX9_show_121 rfl (lv_at hl 2 rfl) ?_
                    refine z_bipush hx hb dX9_show_122 (by decide +kernel) ?_
                    refine ct_Vv (VG_fix E cI cC) hZo hZb hZ S0 (kX9_writes l D E cI cC Z hZo hZb (fX9_writes (fX9_writes Mx ((48) + (fX9_at Mx table place))) (99)) (42) (by omega) (by first | omega | (simp only [wr_25]; omega)) (fX9_writes (fX9_writes (fX9_writes Mx ((48) + (fX9_at Mx table place))) (99)) (42)) rfl) (cwV 1 hts gX9_show_X9_writes rfl rfl rfl (by decide +kernel) ⟨(Nat.le_of_ble_eq_true rfl), (Nat.le_of_ble_eq_true rfl)⟩) hK hP hD hS rfl rfl VG_0 rfl hl.1 rfl (Nat.le_of_ble_eq_true rfl) dX9_show_124 ⟨Nat.zero_le _, Nat.zero_le _⟩ (fun H locs hP hD hS => ?_)
                    refine z_iinc hx hb dX9_show_127 hl (k := 4) rfl (Nat.le_of_ble_eq_true rfl) (lv' := [(2, .int (iI (place + 1))), (4, .int (iI (Mx 0 ((15) + (fX9_at Mx table place))))), (3, .int (iI (fX9_at Mx table place))), (0, .ref (E 0)), (1, .int (iI table))]) rfl (fun ls hl => ?_)
                    refine lv_goto hx hb dX9_show_130 (tgt := 20) rfl ?_
                    exact ih1 (fX9_writes (fX9_writes (fX9_writes Mx ((48) + (fX9_at Mx table place))) (99)) (42)) (place + 1) ls _ _ (lv_sub hl [3, 4, 0] rfl) hP hD hS (by omega) (by omega) (GI_of (fr_fX9_writes (42) rfl rfl) (GI_of (fr_fX9_writes (99) rfl rfl) (GI_of (fr_fX9_writes ((48) + (fX9_at Mx table place)) rfl rfl) jG))) (by simp only [wr_25]; omega) hE
              · rw [if_pos b9] at hE
                refine z_bipush hx hb dX9_show_88 (by decide +kernel) ?_
                refine lv_goto hx hb dX9_show_90 (tgt := 106) rfl ?_
                refine ct_Vv (VG_fix E cI cC) hZo hZb hZ S0 (kX9_writes l D E cI cC Z hZo hZb (fX9_writes Mx ((48) + (fX9_at Mx table place))) (98) (by omega) (by first | omega | (simp only [wr_25]; omega)) (fX9_writes (fX9_writes Mx ((48) + (fX9_at Mx table place))) (98)) rfl) (cwV 1 hts gX9_show_X9_writes rfl rfl rfl (by decide +kernel) ⟨(Nat.le_of_ble_eq_true rfl), (Nat.le_of_ble_eq_true rfl)⟩) hK hP hD hS rfl rfl VG_0 rfl hl.1 rfl (Nat.le_of_ble_eq_true rfl) dX9_show_106 ⟨Nat.zero_le _, Nat.zero_le _⟩ (fun H locs hP hD hS => ?_)
                refine lv_aload_n hx hb dX9_show_109 rfl (lv_at hl 2 rfl) ?_
                refine va_get (own := RX9) (ref := "NapkinSyntaxModel") (C := RX9) (T := TX9) (N := 20) hx hb hts hinX9 hown hK hP 0 VG_0 rfl 0 (Nat.le_of_ble_eq_true rfl) (hts (.fieldLink RX9 7 "NapkinSyntaxModel" "g" "[I") (by decide +kernel)) (fun _ h => h) (v := .ref (E 1)) rfl dX9_show_110 ?_
                refine z_bipush hx hb dX9_show_113 (by decide +kernel) ?_
                refine lv_iload_n hx hb dX9_show_115 rfl (lv_at hl 1 rfl) ?_
                refine z_iadd hx hb dX9_show_116 ?_
                refine z_iald hx hb hK hP 1 0 VG_1 rfl (by omega) (by omega) (by decide) dX9_show_117 ?_
                have q15 := GI_35 (GI_of (fr_fX9_writes (98) rfl rfl) (GI_of (fr_fX9_writes ((48) + (fX9_at Mx table place)) rfl rfl) jG)) ((35) + (fX9_at Mx table place)) (by omega) (by omega)
                refine z_if_le hx hb dX9_show_118 (tgt := 127) rfl (by omega) (fun b16 => ?_) (fun b16 => ?_)
                · rw [if_pos b16] at hE
                  refine z_iinc hx hb dX9_show_127 hl (k := 4) rfl (Nat.le_of_ble_eq_true rfl) (lv' := [(2, .int (iI (place + 1))), (4, .int (iI (Mx 0 ((15) + (fX9_at Mx table place))))), (3, .int (iI (fX9_at Mx table place))), (0, .ref (E 0)), (1, .int (iI table))]) rfl (fun ls hl => ?_)
                  refine lv_goto hx hb dX9_show_130 (tgt := 20) rfl ?_
                  exact ih1 (fX9_writes (fX9_writes Mx ((48) + (fX9_at Mx table place))) (98)) (place + 1) ls _ _ (lv_sub hl [3, 4, 0] rfl) hP hD hS (by omega) (by omega) (GI_of (fr_fX9_writes (98) rfl rfl) (GI_of (fr_fX9_writes ((48) + (fX9_at Mx table place)) rfl rfl) jG)) (by simp only [wr_25]; omega) hE
                · rw [if_neg b16] at hE
                  refine lv_aload_n hx hb dX9_show_121 rfl (lv_at hl 2 rfl) ?_
                  refine z_bipush hx hb dX9_show_122 (by decide +kernel) ?_
                  refine ct_Vv (VG_fix E cI cC) hZo hZb hZ S0 (kX9_writes l D E cI cC Z hZo hZb (fX9_writes (fX9_writes Mx ((48) + (fX9_at Mx table place))) (98)) (42) (by omega) (by first | omega | (simp only [wr_25]; omega)) (fX9_writes (fX9_writes (fX9_writes Mx ((48) + (fX9_at Mx table place))) (98)) (42)) rfl) (cwV 1 hts gX9_show_X9_writes rfl rfl rfl (by decide +kernel) ⟨(Nat.le_of_ble_eq_true rfl), (Nat.le_of_ble_eq_true rfl)⟩) hK hP hD hS rfl rfl VG_0 rfl hl.1 rfl (Nat.le_of_ble_eq_true rfl) dX9_show_124 ⟨Nat.zero_le _, Nat.zero_le _⟩ (fun H locs hP hD hS => ?_)
                  refine z_iinc hx hb dX9_show_127 hl (k := 4) rfl (Nat.le_of_ble_eq_true rfl) (lv' := [(2, .int (iI (place + 1))), (4, .int (iI (Mx 0 ((15) + (fX9_at Mx table place))))), (3, .int (iI (fX9_at Mx table place))), (0, .ref (E 0)), (1, .int (iI table))]) rfl (fun ls hl => ?_)
                  refine lv_goto hx hb dX9_show_130 (tgt := 20) rfl ?_
                  exact ih1 (fX9_writes (fX9_writes (fX9_writes Mx ((48) + (fX9_at Mx table place))) (98)) (42)) (place + 1) ls _ _ (lv_sub hl [3, 4, 0] rfl) hP hD hS (by omega) (by omega) (GI_of (fr_fX9_writes (42) rfl rfl) (GI_of (fr_fX9_writes (98) rfl rfl) (GI_of (fr_fX9_writes ((48) + (fX9_at Mx table place)) rfl rfl) jG))) (by simp only [wr_25]; omega) hE
            · rw [if_pos b8] at hE
              refine z_bipush hx hb dX9_show_77 (by decide +kernel) ?_
              refine lv_goto hx hb dX9_show_79 (tgt := 106) rfl ?_
              refine ct_Vv (VG_fix E cI cC) hZo hZb hZ S0 (kX9_writes l D E cI cC Z hZo hZb (fX9_writes Mx ((48) + (fX9_at Mx table place))) (102) (by omega) (by first | omega | (simp only [wr_25]; omega)) (fX9_writes (fX9_writes Mx ((48) + (fX9_at Mx table place))) (102)) rfl) (cwV 1 hts gX9_show_X9_writes rfl rfl rfl (by decide +kernel) ⟨(Nat.le_of_ble_eq_true rfl), (Nat.le_of_ble_eq_true rfl)⟩) hK hP hD hS rfl rfl VG_0 rfl hl.1 rfl (Nat.le_of_ble_eq_true rfl) dX9_show_106 ⟨Nat.zero_le _, Nat.zero_le _⟩ (fun H locs hP hD hS => ?_)
              refine lv_aload_n hx hb dX9_show_109 rfl (lv_at hl 2 rfl) ?_
              refine va_get (own := RX9) (ref := "NapkinSyntaxModel") (C := RX9) (T := TX9) (N := 20) hx hb hts hinX9 hown hK hP 0 VG_0 rfl 0 (Nat.le_of_ble_eq_true rfl) (hts (.fieldLink RX9 7 "NapkinSyntaxModel" "g" "[I") (by decide +kernel)) (fun _ h => h) (v := .ref (E 1)) rfl dX9_show_110 ?_
              refine z_bipush hx hb dX9_show_113 (by decide +kernel) ?_
              refine lv_iload_n hx hb dX9_show_115 rfl (lv_at hl 1 rfl) ?_
              refine z_iadd hx hb dX9_show_116 ?_
              refine z_iald hx hb hK hP 1 0 VG_1 rfl (by omega) (by omega) (by decide) dX9_show_117 ?_
              have q17 := GI_35 (GI_of (fr_fX9_writes (102) rfl rfl) (GI_of (fr_fX9_writes ((48) + (fX9_at Mx table place)) rfl rfl) jG)) ((35) + (fX9_at Mx table place)) (by omega) (by omega)
              refine z_if_le hx hb dX9_show_118 (tgt := 127) rfl (by omega) (fun b18 => ?_) (fun b18 => ?_)
              · rw [if_pos b18] at hE
                refine z_iinc hx hb dX9_show_127 hl (k := 4) rfl (Nat.le_of_ble_eq_true rfl) (lv' := [(2, .int (iI (place + 1))), (4, .int (iI (Mx 0 ((15) + (fX9_at Mx table place))))), (3, .int (iI (fX9_at Mx table place))), (0, .ref (E 0)), (1, .int (iI table))]) rfl (fun ls hl => ?_)
                refine lv_goto hx hb dX9_show_130 (tgt := 20) rfl ?_
                exact ih1 (fX9_writes (fX9_writes Mx ((48) + (fX9_at Mx table place))) (102)) (place + 1) ls _ _ (lv_sub hl [3, 4, 0] rfl) hP hD hS (by omega) (by omega) (GI_of (fr_fX9_writes (102) rfl rfl) (GI_of (fr_fX9_writes ((48) + (fX9_at Mx table place)) rfl rfl) jG)) (by simp only [wr_25]; omega) hE
              · rw [if_neg b18] at hE
                refine lv_aload_n hx hb dX9_show_121 rfl (lv_at hl 2 rfl) ?_
                refine z_bipush hx hb dX9_show_122 (by decide +kernel) ?_
                refine ct_Vv (VG_fix E cI cC) hZo hZb hZ S0 (kX9_writes l D E cI cC Z hZo hZb (fX9_writes (fX9_writes Mx ((48) + (fX9_at Mx table place))) (102)) (42) (by omega) (by first | omega | (simp only [wr_25]; omega)) (fX9_writes (fX9_writes (fX9_writes Mx ((48) + (fX9_at Mx table place))) (102)) (42)) rfl) (cwV 1 hts gX9_show_X9_writes rfl rfl rfl (by decide +kernel) ⟨(Nat.le_of_ble_eq_true rfl), (Nat.le_of_ble_eq_true rfl)⟩) hK hP hD hS rfl rfl VG_0 rfl hl.1 rfl (Nat.le_of_ble_eq_true rfl) dX9_show_124 ⟨Nat.zero_le _, Nat.zero_le _⟩ (fun H locs hP hD hS => ?_)
                refine z_iinc hx hb dX9_show_127 hl (k := 4) rfl (Nat.le_of_ble_eq_true rfl) (lv' := [(2, .int (iI (place + 1))), (4, .int (iI (Mx 0 ((15) + (fX9_at Mx table place))))), (3, .int (iI (fX9_at Mx table place))), (0, .ref (E 0)), (1, .int (iI table))]) rfl (fun ls hl => ?_)
                refine lv_goto hx hb dX9_show_130 (tgt := 20) rfl ?_
                exact ih1 (fX9_writes (fX9_writes (fX9_writes Mx ((48) + (fX9_at Mx table place))) (102)) (42)) (place + 1) ls _ _ (lv_sub hl [3, 4, 0] rfl) hP hD hS (by omega) (by omega) (GI_of (fr_fX9_writes (42) rfl rfl) (GI_of (fr_fX9_writes (102) rfl rfl) (GI_of (fr_fX9_writes ((48) + (fX9_at Mx table place)) rfl rfl) jG))) (by simp only [wr_25]; omega) hE
          · rw [if_pos b7] at hE
            refine z_bipush hx hb dX9_show_66 (by decide +kernel) ?_
            refine lv_goto hx hb dX9_show_68 (tgt := 106) rfl ?_
            refine ct_Vv (VG_fix E cI cC) hZo hZb hZ S0 (kX9_writes l D E cI cC Z hZo hZb (fX9_writes Mx ((48) + (fX9_at Mx table place))) (115) (by omega) (by first | omega | (simp only [wr_25]; omega)) (fX9_writes (fX9_writes Mx ((48) + (fX9_at Mx table place))) (115)) rfl) (cwV 1 hts gX9_show_X9_writes rfl rfl rfl (by decide +kernel) ⟨(Nat.le_of_ble_eq_true rfl), (Nat.le_of_ble_eq_true rfl)⟩) hK hP hD hS rfl rfl VG_0 rfl hl.1 rfl (Nat.le_of_ble_eq_true rfl) dX9_show_106 ⟨Nat.zero_le _, Nat.zero_le _⟩ (fun H locs hP hD hS => ?_)
            refine lv_aload_n hx hb dX9_show_109 rfl (lv_at hl 2 rfl) ?_
            refine va_get (own := RX9) (ref := "NapkinSyntaxModel") (C := RX9) (T := TX9) (N := 20) hx hb hts hinX9 hown hK hP 0 VG_0 rfl 0 (Nat.le_of_ble_eq_true rfl) (hts (.fieldLink RX9 7 "NapkinSyntaxModel" "g" "[I") (by decide +kernel)) (fun _ h => h) (v := .ref (E 1)) rfl dX9_show_110 ?_
            refine z_bipush hx hb dX9_show_113 (by decide +kernel) ?_
            refine lv_iload_n hx hb dX9_show_115 rfl (lv_at hl 1 rfl) ?_
            refine z_iadd hx hb dX9_show_116 ?_
            refine z_iald hx hb hK hP 1 0 VG_1 rfl (by omega) (by omega) (by decide) dX9_show_117 ?_
            have q19 := GI_35 (GI_of (fr_fX9_writes (115) rfl rfl) (GI_of (fr_fX9_writes ((48) + (fX9_at Mx table place)) rfl rfl) jG)) ((35) + (fX9_at Mx table place)) (by omega) (by omega)
            refine z_if_le hx hb dX9_show_118 (tgt := 127) rfl (by omega) (fun b20 => ?_) (fun b20 => ?_)
            · rw [if_pos b20] at hE
              refine z_iinc hx hb dX9_show_127 hl (k := 4) rfl (Nat.le_of_ble_eq_true rfl) (lv' := [(2, .int (iI (place + 1))), (4, .int (iI (Mx 0 ((15) + (fX9_at Mx table place))))), (3, .int (iI (fX9_at Mx table place))), (0, .ref (E 0)), (1, .int (iI table))]) rfl (fun ls hl => ?_)
              refine lv_goto hx hb dX9_show_130 (tgt := 20) rfl ?_
              exact ih1 (fX9_writes (fX9_writes Mx ((48) + (fX9_at Mx table place))) (115)) (place + 1) ls _ _ (lv_sub hl [3, 4, 0] rfl) hP hD hS (by omega) (by omega) (GI_of (fr_fX9_writes (115) rfl rfl) (GI_of (fr_fX9_writes ((48) + (fX9_at Mx table place)) rfl rfl) jG)) (by simp only [wr_25]; omega) hE
            · rw [if_neg b20] at hE
              refine lv_aload_n hx hb dX9_show_121 rfl (lv_at hl 2 rfl) ?_
              refine z_bipush hx hb dX9_show_122 (by decide +kernel) ?_
              refine ct_Vv (VG_fix E cI cC) hZo hZb hZ S0 (kX9_writes l D E cI cC Z hZo hZb (fX9_writes (fX9_writes Mx ((48) + (fX9_at Mx table place))) (115)) (42) (by omega) (by first | omega | (simp only [wr_25]; omega)) (fX9_writes (fX9_writes (fX9_writes Mx ((48) + (fX9_at Mx table place))) (115)) (42)) rfl) (cwV 1 hts gX9_show_X9_writes rfl rfl rfl (by decide +kernel) ⟨(Nat.le_of_ble_eq_true rfl), (Nat.le_of_ble_eq_true rfl)⟩) hK hP hD hS rfl rfl VG_0 rfl hl.1 rfl (Nat.le_of_ble_eq_true rfl) dX9_show_124 ⟨Nat.zero_le _, Nat.zero_le _⟩ (fun H locs hP hD hS => ?_)
              refine z_iinc hx hb dX9_show_127 hl (k := 4) rfl (Nat.le_of_ble_eq_true rfl) (lv' := [(2, .int (iI (place + 1))), (4, .int (iI (Mx 0 ((15) + (fX9_at Mx table place))))), (3, .int (iI (fX9_at Mx table place))), (0, .ref (E 0)), (1, .int (iI table))]) rfl (fun ls hl => ?_)
              refine lv_goto hx hb dX9_show_130 (tgt := 20) rfl ?_
              exact ih1 (fX9_writes (fX9_writes (fX9_writes Mx ((48) + (fX9_at Mx table place))) (115)) (42)) (place + 1) ls _ _ (lv_sub hl [3, 4, 0] rfl) hP hD hS (by omega) (by omega) (GI_of (fr_fX9_writes (42) rfl rfl) (GI_of (fr_fX9_writes (115) rfl rfl) (GI_of (fr_fX9_writes ((48) + (fX9_at Mx table place)) rfl rfl) jG))) (by simp only [wr_25]; omega) hE
    exact L1 7 (msf M 25 (0)) (0) ls _ _ (lv_sub hl [1, 2, 0] rfl) hP hD hS (by omega) (by omega) hG ⟨(by decide : (0 : Int) ≤ 0), (by decide : (0 : Int) ≤ 3 * 0)⟩ hE
  · rw [if_pos b2] at hE
    refine lv_aload_n hx hb dX9_show_7 rfl (lv_at hl 0 rfl) ?_
    refine z_iconst hx hb dX9_show_8 ?_
    refine ct_Vi (VG_fix E cI cC) hZo hZb hZ S0 (kX9_fails l D E cI cC Z hZo hZb M (1)  (fX9_fails M (1)).1 (fX9_fails M (1)).2 (Prod.ext rfl rfl)) (cwV 1 hts gX9_show_X9_fails rfl rfl rfl (by decide +kernel) ⟨(Nat.le_of_ble_eq_true rfl), (Nat.le_of_ble_eq_true rfl)⟩) hK hP hD hS rfl rfl VG_0 rfl hl.1 rfl (Nat.le_of_ble_eq_true rfl) dX9_show_9 ⟨Nat.zero_le _, Nat.zero_le _⟩ (fun H locs hP hD hS => ?_)
    obtain ⟨e1, e2⟩ := Prod.mk.inj hE
    subst e2
    exact ci_i hx hb hr hlocks e1 rfl hS hP dX9_show_12

theorem fr_fX9_show_L1 (M : Mem) (table : Int) {r : Nat} (h5 : Nat.beq r 5 = false) (h23 : Nat.beq r 23 = false) (h25 : Nat.beq r 25 = false) (h26 : Nat.beq r 26 = false) : ∀ (k : Nat) (Mx : Mem) (place : Int), (fX9_show_L1 M table k Mx place).2 r = Mx r := by
  intro k
  induction k with
  | zero => intros; rfl
  | succ k ih =>
    intro Mx place
    rw [fX9_show_L1]
    (repeat' with_reducible refine frite_w (fun _ => ?_) (fun _ => ?_)) <;> first | with_reducible rfl | simp only [ih, mst_o, msf_o, mcp_o, fr_fX9_done, fr_fX9_fails, fr_fX9_writes, h5, h23, h25, h26]
theorem fr_fX9_show {M : Mem} (table : Int) {r : Nat} (h5 : Nat.beq r 5 = false) (h23 : Nat.beq r 23 = false) (h25 : Nat.beq r 25 = false) (h26 : Nat.beq r 26 = false) : (fX9_show M table).2 r = M r := by
  unfold fX9_show
  (repeat' with_reducible refine frite_w (fun _ => ?_) (fun _ => ?_)) <;> first | with_reducible rfl | simp only [mst_o, msf_o, mcp_o, fr_fX9_done, fr_fX9_fails, fr_fX9_writes, h5, h23, h25, h26, fr_fX9_show_L1]

def fX9_tellsOne (M : Mem) (napkin : Int) : Mem := if ((M 0 ((15) + napkin)) = (4)) then if (((fX9_writes M (43)) 0 ((35) + napkin)) ≤ 0) then (fX9_writes M (43)) else (fX9_writes (fX9_writes M (43)) (63)) else if ((M 0 ((15) + napkin)) = (1)) then if (((fX9_writes (fX9_writes M (83)) ((48) + ((fX9_writes M (83)) 0 ((5) + napkin)))) 0 ((35) + napkin)) ≤ 0) then (fX9_writes (fX9_writes M (83)) ((48) + ((fX9_writes M (83)) 0 ((5) + napkin)))) else (fX9_writes (fX9_writes (fX9_writes M (83)) ((48) + ((fX9_writes M (83)) 0 ((5) + napkin)))) (63)) else if ((M 0 ((15) + napkin)) = (2)) then if (((fX9_writes (fX9_writes M (70)) ((48) + ((fX9_writes M (70)) 0 ((5) + napkin)))) 0 ((35) + napkin)) ≤ 0) then (fX9_writes (fX9_writes M (70)) ((48) + ((fX9_writes M (70)) 0 ((5) + napkin)))) else (fX9_writes (fX9_writes (fX9_writes M (70)) ((48) + ((fX9_writes M (70)) 0 ((5) + napkin)))) (63)) else if (((fX9_writes (fX9_writes M (66)) ((48) + ((fX9_writes M (66)) 0 ((5) + napkin)))) 0 ((35) + napkin)) ≤ 0) then (fX9_writes (fX9_writes M (66)) ((48) + ((fX9_writes M (66)) 0 ((5) + napkin)))) else (fX9_writes (fX9_writes (fX9_writes M (66)) ((48) + ((fX9_writes M (66)) 0 ((5) + napkin)))) (63))
set_option maxRecDepth 100000 in
set_option maxHeartbeats 4000000 in
theorem kX9_tellsOne (l : Launch) (D : va_G) (E : Nat → Nat) (cI cC : ClassId) (Z : State → Prop) (hZo : ∀ M : Mem, ZOk (VG E cI cC M) Z) (hZb : ZBl Z) (M : Mem) (napkin : Int) (h1 : 0 ≤ napkin ∧ napkin ≤ 9) (h2 : 0 ≤ M 25 0 ∧ M 25 0 ≤ 50) (hG : GI M) (M' : Mem) (hE : fX9_tellsOne M napkin = M') : Cv l yX9_tellsOne wsX9_tellsOne 1 21 [.ref (E 0), .int (iI napkin)] D (TY cI cC) (VG E cI cC) Z M M' := by
  refine Cv.of (cc := cX9_tellsOne) (maxL := 3) (ret := none) (by decide +kernel) rfl (Nat.le_of_ble_eq_true rfl) ?_
  intro p e s m args below meth c ls hx hb hml hr hown hts hlocks hP hK hD hZ hS hl
  have hl : lv_has ls 3 [(0, .ref (E 0)), (1, .int (iI napkin))] := hl
  have S0 : CallFix p m c cX9_tellsOne 3 s args wsX9_tellsOne RX9 := ⟨hx, hb, hml, hown, hts⟩
  have hinX9 : ∀ w ∈ u_ws RX9 TX9 20, w ∈ wsX9_tellsOne := by decide +kernel
  rw [fX9_tellsOne] at hE
  refine lv_aload_n hx hb dX9_tellsOne_0 rfl (lv_at hl 0 rfl) ?_
  refine va_get (own := RX9) (ref := "NapkinSyntaxModel") (C := RX9) (T := TX9) (N := 20) hx hb hts hinX9 hown hK hP 0 VG_0 rfl 0 (Nat.le_of_ble_eq_true rfl) (hts (.fieldLink RX9 7 "NapkinSyntaxModel" "g" "[I") (by decide +kernel)) (fun _ h => h) (v := .ref (E 1)) rfl dX9_tellsOne_1 ?_
  refine z_bipush hx hb dX9_tellsOne_4 (by decide +kernel) ?_
  refine lv_iload_n hx hb dX9_tellsOne_6 rfl (lv_at hl 1 rfl) ?_
  refine z_iadd hx hb dX9_tellsOne_7 ?_
  refine z_iald hx hb hK hP 1 0 VG_1 rfl (by omega) (by omega) (by decide) dX9_tellsOne_8 ?_
  have q1 := GI_15 hG ((15) + napkin) (by omega) (by omega)
  refine lv_istore_n hx hb dX9_tellsOne_9 rfl hl (Nat.le_of_ble_eq_true rfl) (lv' := [(2, .int (iI (M 0 ((15) + napkin)))), (0, .ref (E 0)), (1, .int (iI napkin))]) rfl (fun ls hl => ?_)
  refine lv_iload_n hx hb dX9_tellsOne_10 rfl (lv_at hl 0 rfl) ?_
  refine z_iconst hx hb dX9_tellsOne_11 ?_
  refine z_icmp_ne hx hb dX9_tellsOne_12 (tgt := 24) rfl (by omega) (by omega) (fun b2 => ?_) (fun b2 => ?_)
  · rw [if_neg b2] at hE
    refine lv_aload_n hx hb dX9_tellsOne_24 rfl (lv_at hl 1 rfl) ?_
    refine lv_iload_n hx hb dX9_tellsOne_25 rfl (lv_at hl 0 rfl) ?_
    refine z_iconst hx hb dX9_tellsOne_26 ?_
    refine z_icmp_ne hx hb dX9_tellsOne_27 (tgt := 35) rfl (by omega) (by omega) (fun b3 => ?_) (fun b3 => ?_)
    · rw [if_neg b3] at hE
      refine lv_iload_n hx hb dX9_tellsOne_35 rfl (lv_at hl 0 rfl) ?_
      refine z_iconst hx hb dX9_tellsOne_36 ?_
      refine z_icmp_ne hx hb dX9_tellsOne_37 (tgt := 45) rfl (by omega) (by omega) (fun b4 => ?_) (fun b4 => ?_)
      · rw [if_neg b4] at hE
        refine z_bipush hx hb dX9_tellsOne_45 (by decide +kernel) ?_
        refine ct_Vv (VG_fix E cI cC) hZo hZb hZ S0 (kX9_writes l D E cI cC Z hZo hZb M (66) (by omega) (by first | omega | (simp only [wr_25]; omega)) (fX9_writes M (66)) rfl) (cwV 1 hts gX9_tellsOne_X9_writes rfl rfl rfl (by decide +kernel) ⟨(Nat.le_of_ble_eq_true rfl), (Nat.le_of_ble_eq_true rfl)⟩) hK hP hD hS rfl rfl VG_0 rfl hl.1 rfl (Nat.le_of_ble_eq_true rfl) dX9_tellsOne_47 ⟨Nat.zero_le _, Nat.zero_le _⟩ (fun H locs hP hD hS => ?_)
        refine lv_aload_n hx hb dX9_tellsOne_50 rfl (lv_at hl 1 rfl) ?_
        refine z_bipush hx hb dX9_tellsOne_51 (by decide +kernel) ?_
        refine lv_aload_n hx hb dX9_tellsOne_53 rfl (lv_at hl 1 rfl) ?_
        refine va_get (own := RX9) (ref := "NapkinSyntaxModel") (C := RX9) (T := TX9) (N := 20) hx hb hts hinX9 hown hK hP 0 VG_0 rfl 0 (Nat.le_of_ble_eq_true rfl) (hts (.fieldLink RX9 7 "NapkinSyntaxModel" "g" "[I") (by decide +kernel)) (fun _ h => h) (v := .ref (E 1)) rfl dX9_tellsOne_54 ?_
        refine z_iconst hx hb dX9_tellsOne_57 ?_
        refine lv_iload_n hx hb dX9_tellsOne_58 rfl (lv_at hl 2 rfl) ?_
        refine z_iadd hx hb dX9_tellsOne_59 ?_
        refine z_iald hx hb hK hP 1 0 VG_1 rfl (by omega) (by omega) (by decide) dX9_tellsOne_60 ?_
        have q5 := GI_5 (GI_of (fr_fX9_writes (66) rfl rfl) hG) ((5) + napkin) (by omega) (by omega)
        refine z_iadd hx hb dX9_tellsOne_61 ?_
        refine ct_Vv (VG_fix E cI cC) hZo hZb hZ S0 (kX9_writes l D E cI cC Z hZo hZb (fX9_writes M (66)) ((48) + ((fX9_writes M (66)) 0 ((5) + napkin))) (by omega) (by first | omega | (simp only [wr_25]; omega)) (fX9_writes (fX9_writes M (66)) ((48) + ((fX9_writes M (66)) 0 ((5) + napkin)))) rfl) (cwV 1 hts gX9_tellsOne_X9_writes rfl rfl rfl (by decide +kernel) ⟨(Nat.le_of_ble_eq_true rfl), (Nat.le_of_ble_eq_true rfl)⟩) hK hP hD hS rfl rfl VG_0 rfl hl.1 rfl (Nat.le_of_ble_eq_true rfl) dX9_tellsOne_62 ⟨Nat.zero_le _, Nat.zero_le _⟩ (fun H locs hP hD hS => ?_)
        refine lv_aload_n hx hb dX9_tellsOne_65 rfl (lv_at hl 1 rfl) ?_
        refine va_get (own := RX9) (ref := "NapkinSyntaxModel") (C := RX9) (T := TX9) (N := 20) hx hb hts hinX9 hown hK hP 0 VG_0 rfl 0 (Nat.le_of_ble_eq_true rfl) (hts (.fieldLink RX9 7 "NapkinSyntaxModel" "g" "[I") (by decide +kernel)) (fun _ h => h) (v := .ref (E 1)) rfl dX9_tellsOne_66 ?_
        refine z_bipush hx hb dX9_tellsOne_69 (by decide +kernel) ?_
        refine lv_iload_n hx hb dX9_tellsOne_71 rfl (lv_at hl 2 rfl) ?_
        refine z_iadd hx hb dX9_tellsOne_72 ?_
        refine z_iald hx hb hK hP 1 0 VG_1 rfl (by omega) (by omega) (by decide) dX9_tellsOne_73 ?_
        have q6 := GI_35 (GI_of (fr_fX9_writes ((48) + ((fX9_writes M (66)) 0 ((5) + napkin))) rfl rfl) (GI_of (fr_fX9_writes (66) rfl rfl) hG)) ((35) + napkin) (by omega) (by omega)
        refine z_if_le hx hb dX9_tellsOne_74 (tgt := 83) rfl (by omega) (fun b7 => ?_) (fun b7 => ?_)
        · rw [if_pos b7] at hE
          subst hE
          exact cv_v hx hb hr hlocks hS hP dX9_tellsOne_83
        · rw [if_neg b7] at hE
          refine lv_aload_n hx hb dX9_tellsOne_77 rfl (lv_at hl 1 rfl) ?_
          refine z_bipush hx hb dX9_tellsOne_78 (by decide +kernel) ?_
          refine ct_Vv (VG_fix E cI cC) hZo hZb hZ S0 (kX9_writes l D E cI cC Z hZo hZb (fX9_writes (fX9_writes M (66)) ((48) + ((fX9_writes M (66)) 0 ((5) + napkin)))) (63) (by omega) (by first | omega | (simp only [wr_25]; omega)) (fX9_writes (fX9_writes (fX9_writes M (66)) ((48) + ((fX9_writes M (66)) 0 ((5) + napkin)))) (63)) rfl) (cwV 1 hts gX9_tellsOne_X9_writes rfl rfl rfl (by decide +kernel) ⟨(Nat.le_of_ble_eq_true rfl), (Nat.le_of_ble_eq_true rfl)⟩) hK hP hD hS rfl rfl VG_0 rfl hl.1 rfl (Nat.le_of_ble_eq_true rfl) dX9_tellsOne_80 ⟨Nat.zero_le _, Nat.zero_le _⟩ (fun H locs hP hD hS => ?_)
          subst hE
          exact cv_v hx hb hr hlocks hS hP dX9_tellsOne_83
      · rw [if_pos b4] at hE
        refine z_bipush hx hb dX9_tellsOne_40 (by decide +kernel) ?_
        refine lv_goto hx hb dX9_tellsOne_42 (tgt := 47) rfl ?_
        refine ct_Vv (VG_fix E cI cC) hZo hZb hZ S0 (kX9_writes l D E cI cC Z hZo hZb M (70) (by omega) (by first | omega | (simp only [wr_25]; omega)) (fX9_writes M (70)) rfl) (cwV 1 hts gX9_tellsOne_X9_writes rfl rfl rfl (by decide +kernel) ⟨(Nat.le_of_ble_eq_true rfl), (Nat.le_of_ble_eq_true rfl)⟩) hK hP hD hS rfl rfl VG_0 rfl hl.1 rfl (Nat.le_of_ble_eq_true rfl) dX9_tellsOne_47 ⟨Nat.zero_le _, Nat.zero_le _⟩ (fun H locs hP hD hS => ?_)
        refine lv_aload_n hx hb dX9_tellsOne_50 rfl (lv_at hl 1 rfl) ?_
        refine z_bipush hx hb dX9_tellsOne_51 (by decide +kernel) ?_
        refine lv_aload_n hx hb dX9_tellsOne_53 rfl (lv_at hl 1 rfl) ?_
        refine va_get (own := RX9) (ref := "NapkinSyntaxModel") (C := RX9) (T := TX9) (N := 20) hx hb hts hinX9 hown hK hP 0 VG_0 rfl 0 (Nat.le_of_ble_eq_true rfl) (hts (.fieldLink RX9 7 "NapkinSyntaxModel" "g" "[I") (by decide +kernel)) (fun _ h => h) (v := .ref (E 1)) rfl dX9_tellsOne_54 ?_
        refine z_iconst hx hb dX9_tellsOne_57 ?_
        refine lv_iload_n hx hb dX9_tellsOne_58 rfl (lv_at hl 2 rfl) ?_
        refine z_iadd hx hb dX9_tellsOne_59 ?_
        refine z_iald hx hb hK hP 1 0 VG_1 rfl (by omega) (by omega) (by decide) dX9_tellsOne_60 ?_
        have q8 := GI_5 (GI_of (fr_fX9_writes (70) rfl rfl) hG) ((5) + napkin) (by omega) (by omega)
        refine z_iadd hx hb dX9_tellsOne_61 ?_
        refine ct_Vv (VG_fix E cI cC) hZo hZb hZ S0 (kX9_writes l D E cI cC Z hZo hZb (fX9_writes M (70)) ((48) + ((fX9_writes M (70)) 0 ((5) + napkin))) (by omega) (by first | omega | (simp only [wr_25]; omega)) (fX9_writes (fX9_writes M (70)) ((48) + ((fX9_writes M (70)) 0 ((5) + napkin)))) rfl) (cwV 1 hts gX9_tellsOne_X9_writes rfl rfl rfl (by decide +kernel) ⟨(Nat.le_of_ble_eq_true rfl), (Nat.le_of_ble_eq_true rfl)⟩) hK hP hD hS rfl rfl VG_0 rfl hl.1 rfl (Nat.le_of_ble_eq_true rfl) dX9_tellsOne_62 ⟨Nat.zero_le _, Nat.zero_le _⟩ (fun H locs hP hD hS => ?_)
        refine lv_aload_n hx hb dX9_tellsOne_65 rfl (lv_at hl 1 rfl) ?_
        refine va_get (own := RX9) (ref := "NapkinSyntaxModel") (C := RX9) (T := TX9) (N := 20) hx hb hts hinX9 hown hK hP 0 VG_0 rfl 0 (Nat.le_of_ble_eq_true rfl) (hts (.fieldLink RX9 7 "NapkinSyntaxModel" "g" "[I") (by decide +kernel)) (fun _ h => h) (v := .ref (E 1)) rfl dX9_tellsOne_66 ?_
        refine z_bipush hx hb dX9_tellsOne_69 (by decide +kernel) ?_
        refine lv_iload_n hx hb dX9_tellsOne_71 rfl (lv_at hl 2 rfl) ?_
        refine z_iadd hx hb dX9_tellsOne_72 ?_
        refine z_iald hx hb hK hP 1 0 VG_1 rfl (by omega) (by omega) (by decide) dX9_tellsOne_73 ?_
        have q9 := GI_35 (GI_of (fr_fX9_writes ((48) + ((fX9_writes M (70)) 0 ((5) + napkin))) rfl rfl) (GI_of (fr_fX9_writes (70) rfl rfl) hG)) ((35) + napkin) (by omega) (by omega)
        refine z_if_le hx hb dX9_tellsOne_74 (tgt := 83) rfl (by omega) (fun b10 => ?_) (fun b10 => ?_)
        · rw [if_pos b10] at hE
          subst hE
          exact cv_v hx hb hr hlocks hS hP dX9_tellsOne_83
        · rw [if_neg b10] at hE
          refine lv_aload_n hx hb dX9_tellsOne_77 rfl (lv_at hl 1 rfl) ?_
          refine z_bipush hx hb dX9_tellsOne_78 (by decide +kernel) ?_
          refine ct_Vv (VG_fix E cI cC) hZo hZb hZ S0 (kX9_writes l D E cI cC Z hZo hZb (fX9_writes (fX9_writes M (70)) ((48) + ((fX9_writes M (70)) 0 ((5) + napkin)))) (63) (by omega) (by first | omega | (simp only [wr_25]; omega)) (fX9_writes (fX9_writes (fX9_writes M (70)) ((48) + ((fX9_writes M (70)) 0 ((5) + napkin)))) (63)) rfl) (cwV 1 hts gX9_tellsOne_X9_writes rfl rfl rfl (by decide +kernel) ⟨(Nat.le_of_ble_eq_true rfl), (Nat.le_of_ble_eq_true rfl)⟩) hK hP hD hS rfl rfl VG_0 rfl hl.1 rfl (Nat.le_of_ble_eq_true rfl) dX9_tellsOne_80 ⟨Nat.zero_le _, Nat.zero_le _⟩ (fun H locs hP hD hS => ?_)
          subst hE
          exact cv_v hx hb hr hlocks hS hP dX9_tellsOne_83
    · rw [if_pos b3] at hE
      refine z_bipush hx hb dX9_tellsOne_30 (by decide +kernel) ?_
      refine lv_goto hx hb dX9_tellsOne_32 (tgt := 47) rfl ?_
      refine ct_Vv (VG_fix E cI cC) hZo hZb hZ S0 (kX9_writes l D E cI cC Z hZo hZb M (83) (by omega) (by first | omega | (simp only [wr_25]; omega)) (fX9_writes M (83)) rfl) (cwV 1 hts gX9_tellsOne_X9_writes rfl rfl rfl (by decide +kernel) ⟨(Nat.le_of_ble_eq_true rfl), (Nat.le_of_ble_eq_true rfl)⟩) hK hP hD hS rfl rfl VG_0 rfl hl.1 rfl (Nat.le_of_ble_eq_true rfl) dX9_tellsOne_47 ⟨Nat.zero_le _, Nat.zero_le _⟩ (fun H locs hP hD hS => ?_)
      refine lv_aload_n hx hb dX9_tellsOne_50 rfl (lv_at hl 1 rfl) ?_
      refine z_bipush hx hb dX9_tellsOne_51 (by decide +kernel) ?_
      refine lv_aload_n hx hb dX9_tellsOne_53 rfl (lv_at hl 1 rfl) ?_
      refine va_get (own := RX9) (ref := "NapkinSyntaxModel") (C := RX9) (T := TX9) (N := 20) hx hb hts hinX9 hown hK hP 0 VG_0 rfl 0 (Nat.le_of_ble_eq_true rfl) (hts (.fieldLink RX9 7 "NapkinSyntaxModel" "g" "[I") (by decide +kernel)) (fun _ h => h) (v := .ref (E 1)) rfl dX9_tellsOne_54 ?_
      refine z_iconst hx hb dX9_tellsOne_57 ?_
      refine lv_iload_n hx hb dX9_tellsOne_58 rfl (lv_at hl 2 rfl) ?_
      refine z_iadd hx hb dX9_tellsOne_59 ?_
      refine z_iald hx hb hK hP 1 0 VG_1 rfl (by omega) (by omega) (by decide) dX9_tellsOne_60 ?_
      have q11 := GI_5 (GI_of (fr_fX9_writes (83) rfl rfl) hG) ((5) + napkin) (by omega) (by omega)
      refine z_iadd hx hb dX9_tellsOne_61 ?_
      refine ct_Vv (VG_fix E cI cC) hZo hZb hZ S0 (kX9_writes l D E cI cC Z hZo hZb (fX9_writes M (83)) ((48) + ((fX9_writes M (83)) 0 ((5) + napkin))) (by omega) (by first | omega | (simp only [wr_25]; omega)) (fX9_writes (fX9_writes M (83)) ((48) + ((fX9_writes M (83)) 0 ((5) + napkin)))) rfl) (cwV 1 hts gX9_tellsOne_X9_writes rfl rfl rfl (by decide +kernel) ⟨(Nat.le_of_ble_eq_true rfl), (Nat.le_of_ble_eq_true rfl)⟩) hK hP hD hS rfl rfl VG_0 rfl hl.1 rfl (Nat.le_of_ble_eq_true rfl) dX9_tellsOne_62 ⟨Nat.zero_le _, Nat.zero_le _⟩ (fun H locs hP hD hS => ?_)
      refine lv_aload_n hx hb dX9_tellsOne_65 rfl (lv_at hl 1 rfl) ?_
      refine va_get (own := RX9) (ref := "NapkinSyntaxModel") (C := RX9) (T := TX9) (N := 20) hx hb hts hinX9 hown hK hP 0 VG_0 rfl 0 (Nat.le_of_ble_eq_true rfl) (hts (.fieldLink RX9 7 "NapkinSyntaxModel" "g" "[I") (by decide +kernel)) (fun _ h => h) (v := .ref (E 1)) rfl dX9_tellsOne_66 ?_
      refine z_bipush hx hb dX9_tellsOne_69 (by decide +kernel) ?_
      refine lv_iload_n hx hb dX9_tellsOne_71 rfl (lv_at hl 2 rfl) ?_
      refine z_iadd hx hb dX9_tellsOne_72 ?_
      refine z_iald hx hb hK hP 1 0 VG_1 rfl (by omega) (by omega) (by decide) dX9_tellsOne_73 ?_
      have q12 := GI_35 (GI_of (fr_fX9_writes ((48) + ((fX9_writes M (83)) 0 ((5) + napkin))) rfl rfl) (GI_of (fr_fX9_writes (83) rfl rfl) hG)) ((35) + napkin) (by omega) (by omega)
      refine z_if_le hx hb dX9_tellsOne_74 (tgt := 83) rfl (by omega) (fun b13 => ?_) (fun b13 => ?_)
      · rw [if_pos b13] at hE
        subst hE
        exact cv_v hx hb hr hlocks hS hP dX9_tellsOne_83
      · rw [if_neg b13] at hE
        refine lv_aload_n hx hb dX9_tellsOne_77 rfl (lv_at hl 1 rfl) ?_
        refine z_bipush hx hb dX9_tellsOne_78 (by decide +kernel) ?_
        refine ct_Vv (VG_fix E cI cC) hZo hZb hZ S0 (kX9_writes l D E cI cC Z hZo hZb (fX9_writes (fX9_writes M (83)) ((48) + ((fX9_writes M (83)) 0 ((5) + napkin)))) (63) (by omega) (by first | omega | (simp only [wr_25]; omega)) (fX9_writes (fX9_writes (fX9_writes M (83)) ((48) + ((fX9_writes M (83)) 0 ((5) + napkin)))) (63)) rfl) (cwV 1 hts gX9_tellsOne_X9_writes rfl rfl rfl (by decide +kernel) ⟨(Nat.le_of_ble_eq_true rfl), (Nat.le_of_ble_eq_true rfl)⟩) hK hP hD hS rfl rfl VG_0 rfl hl.1 rfl (Nat.le_of_ble_eq_true rfl) dX9_tellsOne_80 ⟨Nat.zero_le _, Nat.zero_le _⟩ (fun H locs hP hD hS => ?_)
        subst hE
        exact cv_v hx hb hr hlocks hS hP dX9_tellsOne_83
  · rw [if_pos b2] at hE
    refine lv_aload_n hx hb dX9_tellsOne_15 rfl (lv_at hl 1 rfl) ?_
    refine z_bipush hx hb dX9_tellsOne_16 (by decide +kernel) ?_
    refine ct_Vv (VG_fix E cI cC) hZo hZb hZ S0 (kX9_writes l D E cI cC Z hZo hZb M (43) (by omega) (by first | omega | (simp only [wr_25]; omega)) (fX9_writes M (43)) rfl) (cwV 1 hts gX9_tellsOne_X9_writes rfl rfl rfl (by decide +kernel) ⟨(Nat.le_of_ble_eq_true rfl), (Nat.le_of_ble_eq_true rfl)⟩) hK hP hD hS rfl rfl VG_0 rfl hl.1 rfl (Nat.le_of_ble_eq_true rfl) dX9_tellsOne_18 ⟨Nat.zero_le _, Nat.zero_le _⟩ (fun H locs hP hD hS => ?_)
    refine lv_goto hx hb dX9_tellsOne_21 (tgt := 65) rfl ?_
    refine lv_aload_n hx hb dX9_tellsOne_65 rfl (lv_at hl 1 rfl) ?_
    refine va_get (own := RX9) (ref := "NapkinSyntaxModel") (C := RX9) (T := TX9) (N := 20) hx hb hts hinX9 hown hK hP 0 VG_0 rfl 0 (Nat.le_of_ble_eq_true rfl) (hts (.fieldLink RX9 7 "NapkinSyntaxModel" "g" "[I") (by decide +kernel)) (fun _ h => h) (v := .ref (E 1)) rfl dX9_tellsOne_66 ?_
    refine z_bipush hx hb dX9_tellsOne_69 (by decide +kernel) ?_
    refine lv_iload_n hx hb dX9_tellsOne_71 rfl (lv_at hl 2 rfl) ?_
    refine z_iadd hx hb dX9_tellsOne_72 ?_
    refine z_iald hx hb hK hP 1 0 VG_1 rfl (by omega) (by omega) (by decide) dX9_tellsOne_73 ?_
    have q14 := GI_35 (GI_of (fr_fX9_writes (43) rfl rfl) hG) ((35) + napkin) (by omega) (by omega)
    refine z_if_le hx hb dX9_tellsOne_74 (tgt := 83) rfl (by omega) (fun b15 => ?_) (fun b15 => ?_)
    · rw [if_pos b15] at hE
      subst hE
      exact cv_v hx hb hr hlocks hS hP dX9_tellsOne_83
    · rw [if_neg b15] at hE
      refine lv_aload_n hx hb dX9_tellsOne_77 rfl (lv_at hl 1 rfl) ?_
      refine z_bipush hx hb dX9_tellsOne_78 (by decide +kernel) ?_
      refine ct_Vv (VG_fix E cI cC) hZo hZb hZ S0 (kX9_writes l D E cI cC Z hZo hZb (fX9_writes M (43)) (63) (by omega) (by first | omega | (simp only [wr_25]; omega)) (fX9_writes (fX9_writes M (43)) (63)) rfl) (cwV 1 hts gX9_tellsOne_X9_writes rfl rfl rfl (by decide +kernel) ⟨(Nat.le_of_ble_eq_true rfl), (Nat.le_of_ble_eq_true rfl)⟩) hK hP hD hS rfl rfl VG_0 rfl hl.1 rfl (Nat.le_of_ble_eq_true rfl) dX9_tellsOne_80 ⟨Nat.zero_le _, Nat.zero_le _⟩ (fun H locs hP hD hS => ?_)
      subst hE
      exact cv_v hx hb hr hlocks hS hP dX9_tellsOne_83

theorem fr_fX9_tellsOne {M : Mem} (napkin : Int) {r : Nat} (h5 : Nat.beq r 5 = false) (h25 : Nat.beq r 25 = false) : (fX9_tellsOne M napkin) r = M r := by
  unfold fX9_tellsOne
  (repeat' with_reducible refine frite_v (fun _ => ?_) (fun _ => ?_)) <;> first | with_reducible rfl | simp only [mst_o, msf_o, mcp_o, fr_fX9_writes, h5, h25]


theorem tl_25 (M : Mem) (n : Int) : M 25 0 + 1 ≤ fX9_tellsOne M n 25 0 ∧ fX9_tellsOne M n 25 0 ≤ M 25 0 + 3 := by
  unfold fX9_tellsOne
  (repeat' split) <;> simp only [wr_25] <;> omega

def fX9_written (M : Mem) (index : Int) : Int × Mem := if ((fX9_in index (0) ((M 25 0) - (1))) = 0) then ((0), (msf M 26 (1))) else ((M 5 index), (msf M 26 (0)))
set_option maxRecDepth 100000 in
set_option maxHeartbeats 4000000 in
theorem kX9_written (l : Launch) (D : va_G) (E : Nat → Nat) (cI cC : ClassId) (Z : State → Prop) (hZo : ∀ M : Mem, ZOk (VG E cI cC M) Z) (hZb : ZBl Z) (M : Mem) (index : Int) (h1 : -2147483648 ≤ index ∧ index < 2147483648) (hW : WI M) (r : Int) (M' : Mem) (hE : fX9_written M index = (r, M')) : Ci l yX9_written wsX9_written 1 22 [.ref (E 0), .int (iI index)] D (TY cI cC) (VG E cI cC) Z M r M' := by
  refine Ci.of (cc := cX9_written) (maxL := 2) (ret := (some .char)) (by decide +kernel) rfl (Nat.le_of_ble_eq_true rfl) ?_
  intro p e s m args below meth c ls hx hb hml hr hown hts hlocks hP hK hD hZ hS hl
  have hl : lv_has ls 2 [(0, .ref (E 0)), (1, .int (iI index))] := hl
  have S0 : CallFix p m c cX9_written 2 s args wsX9_written RX9 := ⟨hx, hb, hml, hown, hts⟩
  have hinX9 : ∀ w ∈ u_ws RX9 TX9 20, w ∈ wsX9_written := by decide +kernel
  rw [fX9_written] at hE
  refine lv_aload_n hx hb dX9_written_0 rfl (lv_at hl 0 rfl) ?_
  refine lv_iload_n hx hb dX9_written_1 rfl (lv_at hl 1 rfl) ?_
  refine z_iconst hx hb dX9_written_2 ?_
  refine lv_aload_n hx hb dX9_written_3 rfl (lv_at hl 0 rfl) ?_
  refine va_get (own := RX9) (ref := "NapkinSyntaxModel") (C := RX9) (T := TX9) (N := 20) hx hb hts hinX9 hown hK hP 0 VG_0 rfl 15 (Nat.le_of_ble_eq_true rfl) (hts (.fieldLink RX9 237 "NapkinSyntaxModel" "lined" "I") (by decide +kernel)) (fun _ h => h) (v := .int (iI (M 25 0))) rfl dX9_written_4 ?_
  have q1 := hW.1
  refine z_iconst hx hb dX9_written_7 ?_
  refine z_isub hx hb dX9_written_8 ?_
  refine ct_Si (VG_fix E cI cC) hZo hZb hZ S0 (kX9_in l D E cI cC Z hZo hZb M index (0) ((M 25 0) - (1)) (by omega) (by omega) (by omega) (fX9_in index (0) ((M 25 0) - (1))) rfl) (va_cwS 3 hts gX9_written_X9_in rfl rfl rfl (by decide +kernel) ⟨(Nat.le_of_ble_eq_true rfl), (Nat.le_of_ble_eq_true rfl)⟩) hK hP hD hS rfl hl.1 rfl (Nat.le_of_ble_eq_true rfl) dX9_written_9 ⟨Nat.zero_le _, Nat.zero_le _⟩ (fun H locs hP hD hS => ?_)
  have q2 := dX9_in index (0) ((M 25 0) - (1))
  refine z_if_eq hx hb dX9_written_12 (tgt := 19) rfl (by omega) (fun b3 => ?_) (fun b3 => ?_)
  · rw [if_pos b3] at hE
    refine z_iconst hx hb dX9_written_19 ?_
    refine va_put (own := RX9) (ref := "NapkinSyntaxModel") (C := RX9) (T := TX9) (N := 20) hx hb hts hinX9 tyX9 tyX9_ok nmX9 hown hK hP hD hS 0 VG_0 rfl 16 (Nat.le_of_ble_eq_true rfl) (hts (.fieldLink RX9 36 "NapkinSyntaxModel" "thrown" "I") (by decide +kernel)) (fun _ h => h) rfl (ty := .int) (v := .int (iI (1))) (by decide +kernel) rfl rfl (Nat.le_of_ble_eq_true rfl) dX9_written_20 (fun H locs hP hD hS => ?_)
    rw [VGf_26] at hP hD
    refine lv_aload_n hx hb dX9_written_23 rfl (lv_at hl 0 rfl) ?_
    refine va_get (own := RX9) (ref := "NapkinSyntaxModel") (C := RX9) (T := TX9) (N := 20) hx hb hts hinX9 hown hK hP 0 VG_0 rfl 16 (Nat.le_of_ble_eq_true rfl) (hts (.fieldLink RX9 36 "NapkinSyntaxModel" "thrown" "I") (by decide +kernel)) (fun _ h => h) (v := .int (iI (1))) rfl dX9_written_24 ?_
    refine z_if_ne hx hb dX9_written_27 (tgt := 39) rfl (by omega) (fun h => ?_) (fun h => absurd h (by decide))
    refine z_iconst hx hb dX9_written_39 ?_
    obtain ⟨e1, e2⟩ := Prod.mk.inj hE
    subst e2
    exact ci_i hx hb hr hlocks e1 (nr_c (by omega) (by omega)) hS hP dX9_written_40
  · rw [if_neg b3] at hE
    refine z_iconst hx hb dX9_written_15 ?_
    refine lv_goto hx hb dX9_written_16 (tgt := 20) rfl ?_
    refine va_put (own := RX9) (ref := "NapkinSyntaxModel") (C := RX9) (T := TX9) (N := 20) hx hb hts hinX9 tyX9 tyX9_ok nmX9 hown hK hP hD hS 0 VG_0 rfl 16 (Nat.le_of_ble_eq_true rfl) (hts (.fieldLink RX9 36 "NapkinSyntaxModel" "thrown" "I") (by decide +kernel)) (fun _ h => h) rfl (ty := .int) (v := .int (iI (0))) (by decide +kernel) rfl rfl (Nat.le_of_ble_eq_true rfl) dX9_written_20 (fun H locs hP hD hS => ?_)
    rw [VGf_26] at hP hD
    refine lv_aload_n hx hb dX9_written_23 rfl (lv_at hl 0 rfl) ?_
    refine va_get (own := RX9) (ref := "NapkinSyntaxModel") (C := RX9) (T := TX9) (N := 20) hx hb hts hinX9 hown hK hP 0 VG_0 rfl 16 (Nat.le_of_ble_eq_true rfl) (hts (.fieldLink RX9 36 "NapkinSyntaxModel" "thrown" "I") (by decide +kernel)) (fun _ h => h) (v := .int (iI (0))) rfl dX9_written_24 ?_
    refine z_if_ne hx hb dX9_written_27 (tgt := 39) rfl (by omega) (fun h => absurd h (by decide)) (fun h => ?_)
    refine lv_aload_n hx hb dX9_written_30 rfl (lv_at hl 0 rfl) ?_
    refine va_get (own := RX9) (ref := "NapkinSyntaxModel") (C := RX9) (T := TX9) (N := 20) hx hb hts hinX9 hown hK hP 0 VG_0 rfl 14 (Nat.le_of_ble_eq_true rfl) (hts (.fieldLink RX9 30 "NapkinSyntaxModel" "letters" "[C") (by decide +kernel)) (fun _ h => h) (v := .ref (E 6)) rfl dX9_written_31 ?_
    refine lv_iload_n hx hb dX9_written_34 rfl (lv_at hl 1 rfl) ?_
    refine z_cald hx hb hK hP 6 1 (σ := (M 5)) VG_6 rfl (by omega) (by omega) (by decide) dX9_written_35 ?_
    have q4 := hW.2 index (by omega) (by omega)
    refine lv_goto hx hb dX9_written_36 (tgt := 40) rfl ?_
    obtain ⟨e1, e2⟩ := Prod.mk.inj hE
    subst e2
    exact ci_i hx hb hr hlocks e1 (nr_c (by omega) (by omega)) hS hP dX9_written_40

theorem fr_fX9_written {M : Mem} (index : Int) {r : Nat} (h26 : Nat.beq r 26 = false) : (fX9_written M index).2 r = M r := by
  unfold fX9_written
  (repeat' with_reducible refine frite_w (fun _ => ?_) (fun _ => ?_)) <;> first | with_reducible rfl | simp only [mst_o, msf_o, mcp_o, h26]
