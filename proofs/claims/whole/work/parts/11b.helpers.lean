/-! The law's helpers, one by one (written by gen11b.py). -/
theorem vp0 : vp_in (0 : Int32) 1 := by
  unfold vp_in
  decide
theorem cl_napkin_13 : Cond.classLink RL 13 "java/lang/IllegalArgumentException" ∈ wsL_napkin := by decide +kernel
theorem cl_napkin_15 : Cond.classLink RL 15 "java/lang/UnsupportedOperationException" ∈ wsL_napkin := by decide +kernel
set_option maxHeartbeats 4000000 in
set_option maxRecDepth 100000 in
theorem hX_napkin (l : Launch) (hst : l.stackTraces = false) (D : va_G) (E : Nat → Nat) (cI cC cJ cDD : ClassId) (T : Nat → Nat) (o : Nat) (M : Mem) (colour : Int) (h1 : -2147483648 ≤ colour ∧ colour < 2147483648) (hC : CI M) (hQ : SI M) (hH : HN M) (kx r : Int) (M' : Mem) (hE : fX8_napkin M colour = (kx, r, M')) (w : Int) (hw : AnsL kx [2, 3] w) : Hl l yL_napkin wsL_napkin 8 163 1 [.ref (E 0), .int (iI colour), .ref o] D cI cC cJ cDD E o T M kx (iI r).toInt64 M' w := by
  intro f
  refine Hx.of (cc := cL_napkin) (maxL := 4) (ret := some .int) (hh := [(0, 9, 12, 13), (0, 9, 15, 15)]) (by decide +kernel) rfl (Nat.le_of_ble_eq_true rfl) ?_
  intro p e s m args below meth c ls hx hb hml hr hown hts hlocks hP hK hD hZ hS htab hl
  have hl : lv_has ls 4 [(0, .ref (E 0)), (1, .int (iI colour)), (2, .ref o)] := hl
  refine lv_aload_n hx hb dL_napkin_0 rfl (lv_at hl 2 rfl) ?_
  refine lv_iconst (v := 0) hx hb dL_napkin_1 (by decide) ?_
  refine lv_aload_n hx hb dL_napkin_2 rfl (lv_at hl 0 rfl) ?_
  refine lv_iload_n hx hb dL_napkin_3 rfl (lv_at hl 1 rfl) ?_
  refine hx_call (rest := [.int 0, .ref o]) (As := [.int (iI colour)]) (o := o) ⟨hx, hb, hml, hown, hts⟩ (kX8_napkin l hst D E cI cC T M colour h1 hC hQ hH kx r M' hE) (cwV 1 hts gL_napkin_X8_napkin rfl rfl rfl (by decide +kernel) ⟨Nat.le_of_ble_eq_true rfl, Nat.le_of_ble_eq_true rfl⟩) hK hP hD hS rfl hZ rfl hl.1 rfl (Nat.le_of_ble_eq_true rfl) dL_napkin_4 ⟨by decide, by decide⟩ (fun hk H locs hP hD hS => ?_) (fun hk H locs q ce hP hD hS hce hcv hcl => ?_)
  · refine lv_i2l hx hb dL_napkin_7 rfl ?_
    refine va_last hx hb hK hP hD hS 19 2 (n := 1) rfl rfl vp0 dL_napkin_8 (fun H locs hP hD hS => ?_)
    have hP : va_P D vwCl (VHl E cI cC cJ o M' (vp_updL f (0 : Int32).toNatClampNeg (iI r).toInt64)) H := hP
    refine lv_goto (tgt := 18) hx hb dL_napkin_9 (by decide) ?_
    refine lv_iconst (v := 0) hx hb dL_napkin_18 (by decide) ?_
    exact hl_end hx hb hr hlocks (by rw [AnsL_0 hw (by decide) hk]; exact iI_0) (fun _ => by simp [vp_updL]) hS hP (by decide) (by decide) dL_napkin_19
  · rcases hw with ⟨h, _⟩ | ⟨i, hi, hk2, hw2⟩
    · exact absurd h hk
    · rcases (show i = 0 ∨ i = 1 from by have h9 : i < 2 := hi; omega) with rfl | rfl
      · have hk3 : kx = 2 := hk2
        rw [hk3, exN_2] at hcl
        refine vx_catch (own := RL) (name := "java/lang/IllegalArgumentException") (E := "java/lang/IllegalArgumentException") hown [] ⟨0, 9, 12, 13⟩ [⟨0, 9, 15, 15⟩] htab (fun z hz => by cases hz) (by decide) (by decide) (hts (.classLink RL 13 "java/lang/IllegalArgumentException") cl_napkin_13) (va_Nw.use rfl (ZC_x2 (ZH_C (cI := cI) (cC := cC) hZ))) hce hcv hcl ?_
        refine lv_astore_n (lv' := [(3, .ref q), (0, .ref (E 0)), (1, .int (iI colour)), (2, .ref o)]) hx hb dL_napkin_12 rfl hl (by decide) rfl (fun ls hl => ?_)
        refine lv_iconst (v := 1) hx hb dL_napkin_13 (by decide) ?_
        exact hl_end hx hb hr hlocks (by rw [hw2]; exact iI_1) (fun h => absurd h hk) hS hP (by decide) (by decide) dL_napkin_14
      · have hk3 : kx = 3 := hk2
        rw [hk3, exN_3] at hcl
        refine vx_catch (own := RL) (name := "java/lang/UnsupportedOperationException") (E := "java/lang/UnsupportedOperationException") hown [⟨0, 9, 12, 13⟩] ⟨0, 9, 15, 15⟩ [] htab (fun z hz => by rcases List.mem_singleton.mp hz with rfl; exact Or.inr ⟨by decide, _, hts (.classLink RL 13 "java/lang/IllegalArgumentException") cl_napkin_13, hZ.2.2.2.1⟩) (by decide) (by decide) (hts (.classLink RL 15 "java/lang/UnsupportedOperationException") cl_napkin_15) (va_Nw.use rfl (ZC_x3 (ZH_C (cI := cI) (cC := cC) hZ))) hce hcv hcl ?_
        refine lv_astore_n (lv' := [(3, .ref q), (0, .ref (E 0)), (1, .int (iI colour)), (2, .ref o)]) hx hb dL_napkin_15 rfl hl (by decide) rfl (fun ls hl => ?_)
        refine lv_iconst (v := 2) hx hb dL_napkin_16 (by decide) ?_
        exact hl_end hx hb hr hlocks (by rw [hw2]; exact iI_2) (fun h => absurd h hk) hS hP (by decide) (by decide) dL_napkin_17
theorem cl_fold_21 : Cond.classLink RL 21 "java/lang/IndexOutOfBoundsException" ∈ wsL_fold := by decide +kernel
theorem cl_fold_13 : Cond.classLink RL 13 "java/lang/IllegalArgumentException" ∈ wsL_fold := by decide +kernel
theorem cl_fold_15 : Cond.classLink RL 15 "java/lang/UnsupportedOperationException" ∈ wsL_fold := by decide +kernel
set_option maxHeartbeats 4000000 in
set_option maxRecDepth 100000 in
theorem hX_fold (l : Launch) (hst : l.stackTraces = false) (D : va_G) (E : Nat → Nat) (cI cC cJ cDD : ClassId) (T : Nat → Nat) (o : Nat) (M : Mem) (napkin fold : Int) (h1 : -2147483648 ≤ napkin ∧ napkin < 2147483648) (h2 : -2147483648 ≤ fold ∧ fold < 2147483648) (hC : CI M) (hQ : SI M) (hH : HN M) (kx r : Int) (M' : Mem) (hE : fX8_fold M napkin fold = (kx, r, M')) (w : Int) (hw : AnsL kx [1, 2, 3] w) : Hl l yL_fold wsL_fold 8 164 1 [.ref (E 0), .int (iI napkin), .int (iI fold), .ref o] D cI cC cJ cDD E o T M kx (iI r).toInt64 M' w := by
  intro f
  refine Hx.of (cc := cL_fold) (maxL := 5) (ret := some .int) (hh := [(0, 10, 13, 21), (0, 10, 17, 13), (0, 10, 21, 15)]) (by decide +kernel) rfl (Nat.le_of_ble_eq_true rfl) ?_
  intro p e s m args below meth c ls hx hb hml hr hown hts hlocks hP hK hD hZ hS htab hl
  have hl : lv_has ls 5 [(0, .ref (E 0)), (1, .int (iI napkin)), (2, .int (iI fold)), (3, .ref o)] := hl
  refine lv_aload_n hx hb dL_fold_0 rfl (lv_at hl 3 rfl) ?_
  refine lv_iconst (v := 0) hx hb dL_fold_1 (by decide) ?_
  refine lv_aload_n hx hb dL_fold_2 rfl (lv_at hl 0 rfl) ?_
  refine lv_iload_n hx hb dL_fold_3 rfl (lv_at hl 1 rfl) ?_
  refine lv_iload_n hx hb dL_fold_4 rfl (lv_at hl 2 rfl) ?_
  refine hx_call (rest := [.int 0, .ref o]) (As := [.int (iI napkin), .int (iI fold)]) (o := o) ⟨hx, hb, hml, hown, hts⟩ (kX8_fold l hst D E cI cC T M napkin fold h1 h2 hC hQ hH kx r M' hE) (cwV 2 hts gL_fold_X8_fold rfl rfl rfl (by decide +kernel) ⟨Nat.le_of_ble_eq_true rfl, Nat.le_of_ble_eq_true rfl⟩) hK hP hD hS rfl hZ rfl hl.1 rfl (Nat.le_of_ble_eq_true rfl) dL_fold_5 ⟨by decide, by decide⟩ (fun hk H locs hP hD hS => ?_) (fun hk H locs q ce hP hD hS hce hcv hcl => ?_)
  · refine lv_i2l hx hb dL_fold_8 rfl ?_
    refine va_last hx hb hK hP hD hS 19 2 (n := 1) rfl rfl vp0 dL_fold_9 (fun H locs hP hD hS => ?_)
    have hP : va_P D vwCl (VHl E cI cC cJ o M' (vp_updL f (0 : Int32).toNatClampNeg (iI r).toInt64)) H := hP
    refine lv_goto (tgt := 25) hx hb dL_fold_10 (by decide) ?_
    refine lv_iconst (v := 0) hx hb dL_fold_25 (by decide) ?_
    exact hl_end hx hb hr hlocks (by rw [AnsL_0 hw (by decide) hk]; exact iI_0) (fun _ => by simp [vp_updL]) hS hP (by decide) (by decide) dL_fold_26
  · rcases hw with ⟨h, _⟩ | ⟨i, hi, hk2, hw2⟩
    · exact absurd h hk
    · rcases (show i = 0 ∨ i = 1 ∨ i = 2 from by have h9 : i < 3 := hi; omega) with rfl | rfl | rfl
      · have hk3 : kx = 1 := hk2
        rw [hk3, exN_1] at hcl
        refine vx_catch (own := RL) (name := "java/lang/IndexOutOfBoundsException") (E := "java/lang/IndexOutOfBoundsException") hown [] ⟨0, 10, 13, 21⟩ [⟨0, 10, 17, 13⟩, ⟨0, 10, 21, 15⟩] htab (fun z hz => by cases hz) (by decide) (by decide) (hts (.classLink RL 21 "java/lang/IndexOutOfBoundsException") cl_fold_21) (va_Nw.use rfl (ZC_x1 (ZH_C (cI := cI) (cC := cC) hZ))) hce hcv hcl ?_
        refine lv_astore (lv' := [(4, .ref q), (0, .ref (E 0)), (1, .int (iI napkin)), (2, .int (iI fold)), (3, .ref o)]) hx hb dL_fold_13 hl (by decide) rfl (fun ls hl => ?_)
        refine lv_iconst (v := 1) hx hb dL_fold_15 (by decide) ?_
        exact hl_end hx hb hr hlocks (by rw [hw2]; exact iI_1) (fun h => absurd h hk) hS hP (by decide) (by decide) dL_fold_16
      · have hk3 : kx = 2 := hk2
        rw [hk3, exN_2] at hcl
        refine vx_catch (own := RL) (name := "java/lang/IllegalArgumentException") (E := "java/lang/IllegalArgumentException") hown [⟨0, 10, 13, 21⟩] ⟨0, 10, 17, 13⟩ [⟨0, 10, 21, 15⟩] htab (fun z hz => by rcases List.mem_singleton.mp hz with rfl; exact Or.inr ⟨by decide, _, hts (.classLink RL 21 "java/lang/IndexOutOfBoundsException") cl_fold_21, hZ.2.1⟩) (by decide) (by decide) (hts (.classLink RL 13 "java/lang/IllegalArgumentException") cl_fold_13) (va_Nw.use rfl (ZC_x2 (ZH_C (cI := cI) (cC := cC) hZ))) hce hcv hcl ?_
        refine lv_astore (lv' := [(4, .ref q), (0, .ref (E 0)), (1, .int (iI napkin)), (2, .int (iI fold)), (3, .ref o)]) hx hb dL_fold_17 hl (by decide) rfl (fun ls hl => ?_)
        refine lv_iconst (v := 2) hx hb dL_fold_19 (by decide) ?_
        exact hl_end hx hb hr hlocks (by rw [hw2]; exact iI_2) (fun h => absurd h hk) hS hP (by decide) (by decide) dL_fold_20
      · have hk3 : kx = 3 := hk2
        rw [hk3, exN_3] at hcl
        refine vx_catch (own := RL) (name := "java/lang/UnsupportedOperationException") (E := "java/lang/UnsupportedOperationException") hown [⟨0, 10, 13, 21⟩, ⟨0, 10, 17, 13⟩] ⟨0, 10, 21, 15⟩ [] htab (fun z hz => (List.mem_cons.mp hz).elim (fun h => by subst h; exact Or.inr ⟨by decide, _, hts (.classLink RL 21 "java/lang/IndexOutOfBoundsException") cl_fold_21, hZ.2.2.1⟩) (fun h => by have h := List.mem_singleton.mp h; subst h; exact Or.inr ⟨by decide, _, hts (.classLink RL 13 "java/lang/IllegalArgumentException") cl_fold_13, hZ.2.2.2.1⟩)) (by decide) (by decide) (hts (.classLink RL 15 "java/lang/UnsupportedOperationException") cl_fold_15) (va_Nw.use rfl (ZC_x3 (ZH_C (cI := cI) (cC := cC) hZ))) hce hcv hcl ?_
        refine lv_astore (lv' := [(4, .ref q), (0, .ref (E 0)), (1, .int (iI napkin)), (2, .int (iI fold)), (3, .ref o)]) hx hb dL_fold_21 hl (by decide) rfl (fun ls hl => ?_)
        refine lv_iconst (v := 3) hx hb dL_fold_23 (by decide) ?_
        exact hl_end hx hb hr hlocks (by rw [hw2]; exact iI_3) (fun h => absurd h hk) hS hP (by decide) (by decide) dL_fold_24
theorem cl_unfold_21 : Cond.classLink RL 21 "java/lang/IndexOutOfBoundsException" ∈ wsL_unfold := by decide +kernel
theorem cl_unfold_15 : Cond.classLink RL 15 "java/lang/UnsupportedOperationException" ∈ wsL_unfold := by decide +kernel
set_option maxHeartbeats 4000000 in
set_option maxRecDepth 100000 in
theorem hX_unfold (l : Launch) (hst : l.stackTraces = false) (D : va_G) (E : Nat → Nat) (cI cC cJ cDD : ClassId) (T : Nat → Nat) (o : Nat) (M : Mem) (napkin : Int) (h1 : -2147483648 ≤ napkin ∧ napkin < 2147483648) (hC : CI M) (hQ : SI M) (hH : HN M) (kx r : Int) (M' : Mem) (hE : fX8_unfold M napkin = (kx, r, M')) (w : Int) (hw : AnsL kx [1, 3] w) : Hl l yL_unfold wsL_unfold 8 163 1 [.ref (E 0), .int (iI napkin), .ref o] D cI cC cJ cDD E o T M kx (iI r).toInt64 M' w := by
  intro f
  refine Hx.of (cc := cL_unfold) (maxL := 4) (ret := some .int) (hh := [(0, 9, 12, 21), (0, 9, 15, 15)]) (by decide +kernel) rfl (Nat.le_of_ble_eq_true rfl) ?_
  intro p e s m args below meth c ls hx hb hml hr hown hts hlocks hP hK hD hZ hS htab hl
  have hl : lv_has ls 4 [(0, .ref (E 0)), (1, .int (iI napkin)), (2, .ref o)] := hl
  refine lv_aload_n hx hb dL_unfold_0 rfl (lv_at hl 2 rfl) ?_
  refine lv_iconst (v := 0) hx hb dL_unfold_1 (by decide) ?_
  refine lv_aload_n hx hb dL_unfold_2 rfl (lv_at hl 0 rfl) ?_
  refine lv_iload_n hx hb dL_unfold_3 rfl (lv_at hl 1 rfl) ?_
  refine hx_call (rest := [.int 0, .ref o]) (As := [.int (iI napkin)]) (o := o) ⟨hx, hb, hml, hown, hts⟩ (kX8_unfold l hst D E cI cC T M napkin h1 hC hQ hH kx r M' hE) (cwV 1 hts gL_unfold_X8_unfold rfl rfl rfl (by decide +kernel) ⟨Nat.le_of_ble_eq_true rfl, Nat.le_of_ble_eq_true rfl⟩) hK hP hD hS rfl hZ rfl hl.1 rfl (Nat.le_of_ble_eq_true rfl) dL_unfold_4 ⟨by decide, by decide⟩ (fun hk H locs hP hD hS => ?_) (fun hk H locs q ce hP hD hS hce hcv hcl => ?_)
  · refine lv_i2l hx hb dL_unfold_7 rfl ?_
    refine va_last hx hb hK hP hD hS 19 2 (n := 1) rfl rfl vp0 dL_unfold_8 (fun H locs hP hD hS => ?_)
    have hP : va_P D vwCl (VHl E cI cC cJ o M' (vp_updL f (0 : Int32).toNatClampNeg (iI r).toInt64)) H := hP
    refine lv_goto (tgt := 18) hx hb dL_unfold_9 (by decide) ?_
    refine lv_iconst (v := 0) hx hb dL_unfold_18 (by decide) ?_
    exact hl_end hx hb hr hlocks (by rw [AnsL_0 hw (by decide) hk]; exact iI_0) (fun _ => by simp [vp_updL]) hS hP (by decide) (by decide) dL_unfold_19
  · rcases hw with ⟨h, _⟩ | ⟨i, hi, hk2, hw2⟩
    · exact absurd h hk
    · rcases (show i = 0 ∨ i = 1 from by have h9 : i < 2 := hi; omega) with rfl | rfl
      · have hk3 : kx = 1 := hk2
        rw [hk3, exN_1] at hcl
        refine vx_catch (own := RL) (name := "java/lang/IndexOutOfBoundsException") (E := "java/lang/IndexOutOfBoundsException") hown [] ⟨0, 9, 12, 21⟩ [⟨0, 9, 15, 15⟩] htab (fun z hz => by cases hz) (by decide) (by decide) (hts (.classLink RL 21 "java/lang/IndexOutOfBoundsException") cl_unfold_21) (va_Nw.use rfl (ZC_x1 (ZH_C (cI := cI) (cC := cC) hZ))) hce hcv hcl ?_
        refine lv_astore_n (lv' := [(3, .ref q), (0, .ref (E 0)), (1, .int (iI napkin)), (2, .ref o)]) hx hb dL_unfold_12 rfl hl (by decide) rfl (fun ls hl => ?_)
        refine lv_iconst (v := 1) hx hb dL_unfold_13 (by decide) ?_
        exact hl_end hx hb hr hlocks (by rw [hw2]; exact iI_1) (fun h => absurd h hk) hS hP (by decide) (by decide) dL_unfold_14
      · have hk3 : kx = 3 := hk2
        rw [hk3, exN_3] at hcl
        refine vx_catch (own := RL) (name := "java/lang/UnsupportedOperationException") (E := "java/lang/UnsupportedOperationException") hown [⟨0, 9, 12, 21⟩] ⟨0, 9, 15, 15⟩ [] htab (fun z hz => by rcases List.mem_singleton.mp hz with rfl; exact Or.inr ⟨by decide, _, hts (.classLink RL 21 "java/lang/IndexOutOfBoundsException") cl_unfold_21, hZ.2.2.1⟩) (by decide) (by decide) (hts (.classLink RL 15 "java/lang/UnsupportedOperationException") cl_unfold_15) (va_Nw.use rfl (ZC_x3 (ZH_C (cI := cI) (cC := cC) hZ))) hce hcv hcl ?_
        refine lv_astore_n (lv' := [(3, .ref q), (0, .ref (E 0)), (1, .int (iI napkin)), (2, .ref o)]) hx hb dL_unfold_15 rfl hl (by decide) rfl (fun ls hl => ?_)
        refine lv_iconst (v := 2) hx hb dL_unfold_16 (by decide) ?_
        exact hl_end hx hb hr hlocks (by rw [hw2]; exact iI_2) (fun h => absurd h hk) hS hP (by decide) (by decide) dL_unfold_17
theorem cl_lay_21 : Cond.classLink RL 21 "java/lang/IndexOutOfBoundsException" ∈ wsL_lay := by decide +kernel
theorem cl_lay_15 : Cond.classLink RL 15 "java/lang/UnsupportedOperationException" ∈ wsL_lay := by decide +kernel
set_option maxHeartbeats 4000000 in
set_option maxRecDepth 100000 in
theorem hX_lay (l : Launch) (hst : l.stackTraces = false) (D : va_G) (E : Nat → Nat) (cI cC cJ cDD : ClassId) (T : Nat → Nat) (o : Nat) (M : Mem) (napkin table : Int) (h1 : -2147483648 ≤ napkin ∧ napkin < 2147483648) (h2 : -2147483648 ≤ table ∧ table < 2147483648) (hC : CI M) (hQ : SI M) (hH : HN M) (kx r : Int) (M' : Mem) (hE : fX8_lay M napkin table = (kx, r, M')) (w : Int) (hw : AnsL kx [1, 3] w) : Hl l yL_lay wsL_lay 8 164 1 [.ref (E 0), .int (iI napkin), .int (iI table), .ref o] D cI cC cJ cDD E o T M kx (iI r).toInt64 M' w := by
  intro f
  refine Hx.of (cc := cL_lay) (maxL := 5) (ret := some .int) (hh := [(0, 10, 13, 21), (0, 10, 17, 15)]) (by decide +kernel) rfl (Nat.le_of_ble_eq_true rfl) ?_
  intro p e s m args below meth c ls hx hb hml hr hown hts hlocks hP hK hD hZ hS htab hl
  have hl : lv_has ls 5 [(0, .ref (E 0)), (1, .int (iI napkin)), (2, .int (iI table)), (3, .ref o)] := hl
  refine lv_aload_n hx hb dL_lay_0 rfl (lv_at hl 3 rfl) ?_
  refine lv_iconst (v := 0) hx hb dL_lay_1 (by decide) ?_
  refine lv_aload_n hx hb dL_lay_2 rfl (lv_at hl 0 rfl) ?_
  refine lv_iload_n hx hb dL_lay_3 rfl (lv_at hl 1 rfl) ?_
  refine lv_iload_n hx hb dL_lay_4 rfl (lv_at hl 2 rfl) ?_
  refine hx_call (rest := [.int 0, .ref o]) (As := [.int (iI napkin), .int (iI table)]) (o := o) ⟨hx, hb, hml, hown, hts⟩ (kX8_lay l hst D E cI cC T M napkin table h1 h2 hC hQ hH kx r M' hE) (cwV 2 hts gL_lay_X8_lay rfl rfl rfl (by decide +kernel) ⟨Nat.le_of_ble_eq_true rfl, Nat.le_of_ble_eq_true rfl⟩) hK hP hD hS rfl hZ rfl hl.1 rfl (Nat.le_of_ble_eq_true rfl) dL_lay_5 ⟨by decide, by decide⟩ (fun hk H locs hP hD hS => ?_) (fun hk H locs q ce hP hD hS hce hcv hcl => ?_)
  · refine lv_i2l hx hb dL_lay_8 rfl ?_
    refine va_last hx hb hK hP hD hS 19 2 (n := 1) rfl rfl vp0 dL_lay_9 (fun H locs hP hD hS => ?_)
    have hP : va_P D vwCl (VHl E cI cC cJ o M' (vp_updL f (0 : Int32).toNatClampNeg (iI r).toInt64)) H := hP
    refine lv_goto (tgt := 21) hx hb dL_lay_10 (by decide) ?_
    refine lv_iconst (v := 0) hx hb dL_lay_21 (by decide) ?_
    exact hl_end hx hb hr hlocks (by rw [AnsL_0 hw (by decide) hk]; exact iI_0) (fun _ => by simp [vp_updL]) hS hP (by decide) (by decide) dL_lay_22
  · rcases hw with ⟨h, _⟩ | ⟨i, hi, hk2, hw2⟩
    · exact absurd h hk
    · rcases (show i = 0 ∨ i = 1 from by have h9 : i < 2 := hi; omega) with rfl | rfl
      · have hk3 : kx = 1 := hk2
        rw [hk3, exN_1] at hcl
        refine vx_catch (own := RL) (name := "java/lang/IndexOutOfBoundsException") (E := "java/lang/IndexOutOfBoundsException") hown [] ⟨0, 10, 13, 21⟩ [⟨0, 10, 17, 15⟩] htab (fun z hz => by cases hz) (by decide) (by decide) (hts (.classLink RL 21 "java/lang/IndexOutOfBoundsException") cl_lay_21) (va_Nw.use rfl (ZC_x1 (ZH_C (cI := cI) (cC := cC) hZ))) hce hcv hcl ?_
        refine lv_astore (lv' := [(4, .ref q), (0, .ref (E 0)), (1, .int (iI napkin)), (2, .int (iI table)), (3, .ref o)]) hx hb dL_lay_13 hl (by decide) rfl (fun ls hl => ?_)
        refine lv_iconst (v := 1) hx hb dL_lay_15 (by decide) ?_
        exact hl_end hx hb hr hlocks (by rw [hw2]; exact iI_1) (fun h => absurd h hk) hS hP (by decide) (by decide) dL_lay_16
      · have hk3 : kx = 3 := hk2
        rw [hk3, exN_3] at hcl
        refine vx_catch (own := RL) (name := "java/lang/UnsupportedOperationException") (E := "java/lang/UnsupportedOperationException") hown [⟨0, 10, 13, 21⟩] ⟨0, 10, 17, 15⟩ [] htab (fun z hz => by rcases List.mem_singleton.mp hz with rfl; exact Or.inr ⟨by decide, _, hts (.classLink RL 21 "java/lang/IndexOutOfBoundsException") cl_lay_21, hZ.2.2.1⟩) (by decide) (by decide) (hts (.classLink RL 15 "java/lang/UnsupportedOperationException") cl_lay_15) (va_Nw.use rfl (ZC_x3 (ZH_C (cI := cI) (cC := cC) hZ))) hce hcv hcl ?_
        refine lv_astore (lv' := [(4, .ref q), (0, .ref (E 0)), (1, .int (iI napkin)), (2, .int (iI table)), (3, .ref o)]) hx hb dL_lay_17 hl (by decide) rfl (fun ls hl => ?_)
        refine lv_iconst (v := 2) hx hb dL_lay_19 (by decide) ?_
        exact hl_end hx hb hr hlocks (by rw [hw2]; exact iI_2) (fun h => absurd h hk) hS hP (by decide) (by decide) dL_lay_20
theorem cl_take_21 : Cond.classLink RL 21 "java/lang/IndexOutOfBoundsException" ∈ wsL_take := by decide +kernel
theorem cl_take_15 : Cond.classLink RL 15 "java/lang/UnsupportedOperationException" ∈ wsL_take := by decide +kernel
set_option maxHeartbeats 4000000 in
set_option maxRecDepth 100000 in
theorem hX_take (l : Launch) (hst : l.stackTraces = false) (D : va_G) (E : Nat → Nat) (cI cC cJ cDD : ClassId) (T : Nat → Nat) (o : Nat) (M : Mem) (napkin : Int) (h1 : -2147483648 ≤ napkin ∧ napkin < 2147483648) (hC : CI M) (hQ : SI M) (hH : HN M) (kx r : Int) (M' : Mem) (hE : fX8_take M napkin = (kx, r, M')) (w : Int) (hw : AnsL kx [1, 3] w) : Hl l yL_take wsL_take 8 163 1 [.ref (E 0), .int (iI napkin), .ref o] D cI cC cJ cDD E o T M kx (iI r).toInt64 M' w := by
  intro f
  refine Hx.of (cc := cL_take) (maxL := 4) (ret := some .int) (hh := [(0, 9, 12, 21), (0, 9, 15, 15)]) (by decide +kernel) rfl (Nat.le_of_ble_eq_true rfl) ?_
  intro p e s m args below meth c ls hx hb hml hr hown hts hlocks hP hK hD hZ hS htab hl
  have hl : lv_has ls 4 [(0, .ref (E 0)), (1, .int (iI napkin)), (2, .ref o)] := hl
  refine lv_aload_n hx hb dL_take_0 rfl (lv_at hl 2 rfl) ?_
  refine lv_iconst (v := 0) hx hb dL_take_1 (by decide) ?_
  refine lv_aload_n hx hb dL_take_2 rfl (lv_at hl 0 rfl) ?_
  refine lv_iload_n hx hb dL_take_3 rfl (lv_at hl 1 rfl) ?_
  refine hx_call (rest := [.int 0, .ref o]) (As := [.int (iI napkin)]) (o := o) ⟨hx, hb, hml, hown, hts⟩ (kX8_take l hst D E cI cC T M napkin h1 hC hQ hH kx r M' hE) (cwV 1 hts gL_take_X8_take rfl rfl rfl (by decide +kernel) ⟨Nat.le_of_ble_eq_true rfl, Nat.le_of_ble_eq_true rfl⟩) hK hP hD hS rfl hZ rfl hl.1 rfl (Nat.le_of_ble_eq_true rfl) dL_take_4 ⟨by decide, by decide⟩ (fun hk H locs hP hD hS => ?_) (fun hk H locs q ce hP hD hS hce hcv hcl => ?_)
  · refine lv_i2l hx hb dL_take_7 rfl ?_
    refine va_last hx hb hK hP hD hS 19 2 (n := 1) rfl rfl vp0 dL_take_8 (fun H locs hP hD hS => ?_)
    have hP : va_P D vwCl (VHl E cI cC cJ o M' (vp_updL f (0 : Int32).toNatClampNeg (iI r).toInt64)) H := hP
    refine lv_goto (tgt := 18) hx hb dL_take_9 (by decide) ?_
    refine lv_iconst (v := 0) hx hb dL_take_18 (by decide) ?_
    exact hl_end hx hb hr hlocks (by rw [AnsL_0 hw (by decide) hk]; exact iI_0) (fun _ => by simp [vp_updL]) hS hP (by decide) (by decide) dL_take_19
  · rcases hw with ⟨h, _⟩ | ⟨i, hi, hk2, hw2⟩
    · exact absurd h hk
    · rcases (show i = 0 ∨ i = 1 from by have h9 : i < 2 := hi; omega) with rfl | rfl
      · have hk3 : kx = 1 := hk2
        rw [hk3, exN_1] at hcl
        refine vx_catch (own := RL) (name := "java/lang/IndexOutOfBoundsException") (E := "java/lang/IndexOutOfBoundsException") hown [] ⟨0, 9, 12, 21⟩ [⟨0, 9, 15, 15⟩] htab (fun z hz => by cases hz) (by decide) (by decide) (hts (.classLink RL 21 "java/lang/IndexOutOfBoundsException") cl_take_21) (va_Nw.use rfl (ZC_x1 (ZH_C (cI := cI) (cC := cC) hZ))) hce hcv hcl ?_
        refine lv_astore_n (lv' := [(3, .ref q), (0, .ref (E 0)), (1, .int (iI napkin)), (2, .ref o)]) hx hb dL_take_12 rfl hl (by decide) rfl (fun ls hl => ?_)
        refine lv_iconst (v := 1) hx hb dL_take_13 (by decide) ?_
        exact hl_end hx hb hr hlocks (by rw [hw2]; exact iI_1) (fun h => absurd h hk) hS hP (by decide) (by decide) dL_take_14
      · have hk3 : kx = 3 := hk2
        rw [hk3, exN_3] at hcl
        refine vx_catch (own := RL) (name := "java/lang/UnsupportedOperationException") (E := "java/lang/UnsupportedOperationException") hown [⟨0, 9, 12, 21⟩] ⟨0, 9, 15, 15⟩ [] htab (fun z hz => by rcases List.mem_singleton.mp hz with rfl; exact Or.inr ⟨by decide, _, hts (.classLink RL 21 "java/lang/IndexOutOfBoundsException") cl_take_21, hZ.2.2.1⟩) (by decide) (by decide) (hts (.classLink RL 15 "java/lang/UnsupportedOperationException") cl_take_15) (va_Nw.use rfl (ZC_x3 (ZH_C (cI := cI) (cC := cC) hZ))) hce hcv hcl ?_
        refine lv_astore_n (lv' := [(3, .ref q), (0, .ref (E 0)), (1, .int (iI napkin)), (2, .ref o)]) hx hb dL_take_15 rfl hl (by decide) rfl (fun ls hl => ?_)
        refine lv_iconst (v := 2) hx hb dL_take_16 (by decide) ?_
        exact hl_end hx hb hr hlocks (by rw [hw2]; exact iI_2) (fun h => absurd h hk) hS hP (by decide) (by decide) dL_take_17
theorem cl_move_21 : Cond.classLink RL 21 "java/lang/IndexOutOfBoundsException" ∈ wsL_move := by decide +kernel
theorem cl_move_15 : Cond.classLink RL 15 "java/lang/UnsupportedOperationException" ∈ wsL_move := by decide +kernel
set_option maxHeartbeats 4000000 in
set_option maxRecDepth 100000 in
theorem hX_move (l : Launch) (hst : l.stackTraces = false) (D : va_G) (E : Nat → Nat) (cI cC cJ cDD : ClassId) (T : Nat → Nat) (o : Nat) (M : Mem) (table fro to : Int) (h1 : -2147483648 ≤ table ∧ table < 2147483648) (h2 : -2147483648 ≤ fro ∧ fro < 2147483648) (h3 : -2147483648 ≤ to ∧ to < 2147483648) (hC : CI M) (hQ : SI M) (hH : HN M) (kx r : Int) (M' : Mem) (hE : fX8_move M table fro to = (kx, r, M')) (w : Int) (hw : AnsL kx [1, 3] w) : Hl l yL_move wsL_move 8 165 1 [.ref (E 0), .int (iI table), .int (iI fro), .int (iI to), .ref o] D cI cC cJ cDD E o T M kx (iI r).toInt64 M' w := by
  intro f
  refine Hx.of (cc := cL_move) (maxL := 6) (ret := some .int) (hh := [(0, 12, 15, 21), (0, 12, 19, 15)]) (by decide +kernel) rfl (Nat.le_of_ble_eq_true rfl) ?_
  intro p e s m args below meth c ls hx hb hml hr hown hts hlocks hP hK hD hZ hS htab hl
  have hl : lv_has ls 6 [(0, .ref (E 0)), (1, .int (iI table)), (2, .int (iI fro)), (3, .int (iI to)), (4, .ref o)] := hl
  refine lv_aload hx hb dL_move_0 (lv_at hl 4 rfl) ?_
  refine lv_iconst (v := 0) hx hb dL_move_2 (by decide) ?_
  refine lv_aload_n hx hb dL_move_3 rfl (lv_at hl 0 rfl) ?_
  refine lv_iload_n hx hb dL_move_4 rfl (lv_at hl 1 rfl) ?_
  refine lv_iload_n hx hb dL_move_5 rfl (lv_at hl 2 rfl) ?_
  refine lv_iload_n hx hb dL_move_6 rfl (lv_at hl 3 rfl) ?_
  refine hx_call (rest := [.int 0, .ref o]) (As := [.int (iI table), .int (iI fro), .int (iI to)]) (o := o) ⟨hx, hb, hml, hown, hts⟩ (kX8_move l hst D E cI cC T M table fro to h1 h2 h3 hC hQ hH kx r M' hE) (cwV 3 hts gL_move_X8_move rfl rfl rfl (by decide +kernel) ⟨Nat.le_of_ble_eq_true rfl, Nat.le_of_ble_eq_true rfl⟩) hK hP hD hS rfl hZ rfl hl.1 rfl (Nat.le_of_ble_eq_true rfl) dL_move_7 ⟨by decide, by decide⟩ (fun hk H locs hP hD hS => ?_) (fun hk H locs q ce hP hD hS hce hcv hcl => ?_)
  · refine lv_i2l hx hb dL_move_10 rfl ?_
    refine va_last hx hb hK hP hD hS 19 2 (n := 1) rfl rfl vp0 dL_move_11 (fun H locs hP hD hS => ?_)
    have hP : va_P D vwCl (VHl E cI cC cJ o M' (vp_updL f (0 : Int32).toNatClampNeg (iI r).toInt64)) H := hP
    refine lv_goto (tgt := 23) hx hb dL_move_12 (by decide) ?_
    refine lv_iconst (v := 0) hx hb dL_move_23 (by decide) ?_
    exact hl_end hx hb hr hlocks (by rw [AnsL_0 hw (by decide) hk]; exact iI_0) (fun _ => by simp [vp_updL]) hS hP (by decide) (by decide) dL_move_24
  · rcases hw with ⟨h, _⟩ | ⟨i, hi, hk2, hw2⟩
    · exact absurd h hk
    · rcases (show i = 0 ∨ i = 1 from by have h9 : i < 2 := hi; omega) with rfl | rfl
      · have hk3 : kx = 1 := hk2
        rw [hk3, exN_1] at hcl
        refine vx_catch (own := RL) (name := "java/lang/IndexOutOfBoundsException") (E := "java/lang/IndexOutOfBoundsException") hown [] ⟨0, 12, 15, 21⟩ [⟨0, 12, 19, 15⟩] htab (fun z hz => by cases hz) (by decide) (by decide) (hts (.classLink RL 21 "java/lang/IndexOutOfBoundsException") cl_move_21) (va_Nw.use rfl (ZC_x1 (ZH_C (cI := cI) (cC := cC) hZ))) hce hcv hcl ?_
        refine lv_astore (lv' := [(5, .ref q), (0, .ref (E 0)), (1, .int (iI table)), (2, .int (iI fro)), (3, .int (iI to)), (4, .ref o)]) hx hb dL_move_15 hl (by decide) rfl (fun ls hl => ?_)
        refine lv_iconst (v := 1) hx hb dL_move_17 (by decide) ?_
        exact hl_end hx hb hr hlocks (by rw [hw2]; exact iI_1) (fun h => absurd h hk) hS hP (by decide) (by decide) dL_move_18
      · have hk3 : kx = 3 := hk2
        rw [hk3, exN_3] at hcl
        refine vx_catch (own := RL) (name := "java/lang/UnsupportedOperationException") (E := "java/lang/UnsupportedOperationException") hown [⟨0, 12, 15, 21⟩] ⟨0, 12, 19, 15⟩ [] htab (fun z hz => by rcases List.mem_singleton.mp hz with rfl; exact Or.inr ⟨by decide, _, hts (.classLink RL 21 "java/lang/IndexOutOfBoundsException") cl_move_21, hZ.2.2.1⟩) (by decide) (by decide) (hts (.classLink RL 15 "java/lang/UnsupportedOperationException") cl_move_15) (va_Nw.use rfl (ZC_x3 (ZH_C (cI := cI) (cC := cC) hZ))) hce hcv hcl ?_
        refine lv_astore (lv' := [(5, .ref q), (0, .ref (E 0)), (1, .int (iI table)), (2, .int (iI fro)), (3, .int (iI to)), (4, .ref o)]) hx hb dL_move_19 hl (by decide) rfl (fun ls hl => ?_)
        refine lv_iconst (v := 2) hx hb dL_move_21 (by decide) ?_
        exact hl_end hx hb hr hlocks (by rw [hw2]; exact iI_2) (fun h => absurd h hk) hS hP (by decide) (by decide) dL_move_22
theorem cl_stain_21 : Cond.classLink RL 21 "java/lang/IndexOutOfBoundsException" ∈ wsL_stain := by decide +kernel
theorem cl_stain_13 : Cond.classLink RL 13 "java/lang/IllegalArgumentException" ∈ wsL_stain := by decide +kernel
theorem cl_stain_15 : Cond.classLink RL 15 "java/lang/UnsupportedOperationException" ∈ wsL_stain := by decide +kernel
set_option maxHeartbeats 4000000 in
set_option maxRecDepth 100000 in
theorem hX_stain (l : Launch) (hst : l.stackTraces = false) (D : va_G) (E : Nat → Nat) (cI cC cJ cDD : ClassId) (T : Nat → Nat) (o : Nat) (M : Mem) (napkin much : Int) (h1 : -2147483648 ≤ napkin ∧ napkin < 2147483648) (h2 : -2147483648 ≤ much ∧ much < 2147483648) (hC : CI M) (hQ : SI M) (hH : HN M) (kx r : Int) (M' : Mem) (hE : fX8_stain M napkin much = (kx, r, M')) (w : Int) (hw : AnsL kx [1, 2, 3] w) : Hl l yL_stain wsL_stain 8 164 1 [.ref (E 0), .int (iI napkin), .int (iI much), .ref o] D cI cC cJ cDD E o T M kx (iI r).toInt64 M' w := by
  intro f
  refine Hx.of (cc := cL_stain) (maxL := 5) (ret := some .int) (hh := [(0, 10, 13, 21), (0, 10, 17, 13), (0, 10, 21, 15)]) (by decide +kernel) rfl (Nat.le_of_ble_eq_true rfl) ?_
  intro p e s m args below meth c ls hx hb hml hr hown hts hlocks hP hK hD hZ hS htab hl
  have hl : lv_has ls 5 [(0, .ref (E 0)), (1, .int (iI napkin)), (2, .int (iI much)), (3, .ref o)] := hl
  refine lv_aload_n hx hb dL_stain_0 rfl (lv_at hl 3 rfl) ?_
  refine lv_iconst (v := 0) hx hb dL_stain_1 (by decide) ?_
  refine lv_aload_n hx hb dL_stain_2 rfl (lv_at hl 0 rfl) ?_
  refine lv_iload_n hx hb dL_stain_3 rfl (lv_at hl 1 rfl) ?_
  refine lv_iload_n hx hb dL_stain_4 rfl (lv_at hl 2 rfl) ?_
  refine hx_call (rest := [.int 0, .ref o]) (As := [.int (iI napkin), .int (iI much)]) (o := o) ⟨hx, hb, hml, hown, hts⟩ (kX8_stain l hst D E cI cC T M napkin much h1 h2 hC hQ hH kx r M' hE) (cwV 2 hts gL_stain_X8_stain rfl rfl rfl (by decide +kernel) ⟨Nat.le_of_ble_eq_true rfl, Nat.le_of_ble_eq_true rfl⟩) hK hP hD hS rfl hZ rfl hl.1 rfl (Nat.le_of_ble_eq_true rfl) dL_stain_5 ⟨by decide, by decide⟩ (fun hk H locs hP hD hS => ?_) (fun hk H locs q ce hP hD hS hce hcv hcl => ?_)
  · refine lv_i2l hx hb dL_stain_8 rfl ?_
    refine va_last hx hb hK hP hD hS 19 2 (n := 1) rfl rfl vp0 dL_stain_9 (fun H locs hP hD hS => ?_)
    have hP : va_P D vwCl (VHl E cI cC cJ o M' (vp_updL f (0 : Int32).toNatClampNeg (iI r).toInt64)) H := hP
    refine lv_goto (tgt := 25) hx hb dL_stain_10 (by decide) ?_
    refine lv_iconst (v := 0) hx hb dL_stain_25 (by decide) ?_
    exact hl_end hx hb hr hlocks (by rw [AnsL_0 hw (by decide) hk]; exact iI_0) (fun _ => by simp [vp_updL]) hS hP (by decide) (by decide) dL_stain_26
  · rcases hw with ⟨h, _⟩ | ⟨i, hi, hk2, hw2⟩
    · exact absurd h hk
    · rcases (show i = 0 ∨ i = 1 ∨ i = 2 from by have h9 : i < 3 := hi; omega) with rfl | rfl | rfl
      · have hk3 : kx = 1 := hk2
        rw [hk3, exN_1] at hcl
        refine vx_catch (own := RL) (name := "java/lang/IndexOutOfBoundsException") (E := "java/lang/IndexOutOfBoundsException") hown [] ⟨0, 10, 13, 21⟩ [⟨0, 10, 17, 13⟩, ⟨0, 10, 21, 15⟩] htab (fun z hz => by cases hz) (by decide) (by decide) (hts (.classLink RL 21 "java/lang/IndexOutOfBoundsException") cl_stain_21) (va_Nw.use rfl (ZC_x1 (ZH_C (cI := cI) (cC := cC) hZ))) hce hcv hcl ?_
        refine lv_astore (lv' := [(4, .ref q), (0, .ref (E 0)), (1, .int (iI napkin)), (2, .int (iI much)), (3, .ref o)]) hx hb dL_stain_13 hl (by decide) rfl (fun ls hl => ?_)
        refine lv_iconst (v := 1) hx hb dL_stain_15 (by decide) ?_
        exact hl_end hx hb hr hlocks (by rw [hw2]; exact iI_1) (fun h => absurd h hk) hS hP (by decide) (by decide) dL_stain_16
      · have hk3 : kx = 2 := hk2
        rw [hk3, exN_2] at hcl
        refine vx_catch (own := RL) (name := "java/lang/IllegalArgumentException") (E := "java/lang/IllegalArgumentException") hown [⟨0, 10, 13, 21⟩] ⟨0, 10, 17, 13⟩ [⟨0, 10, 21, 15⟩] htab (fun z hz => by rcases List.mem_singleton.mp hz with rfl; exact Or.inr ⟨by decide, _, hts (.classLink RL 21 "java/lang/IndexOutOfBoundsException") cl_stain_21, hZ.2.1⟩) (by decide) (by decide) (hts (.classLink RL 13 "java/lang/IllegalArgumentException") cl_stain_13) (va_Nw.use rfl (ZC_x2 (ZH_C (cI := cI) (cC := cC) hZ))) hce hcv hcl ?_
        refine lv_astore (lv' := [(4, .ref q), (0, .ref (E 0)), (1, .int (iI napkin)), (2, .int (iI much)), (3, .ref o)]) hx hb dL_stain_17 hl (by decide) rfl (fun ls hl => ?_)
        refine lv_iconst (v := 2) hx hb dL_stain_19 (by decide) ?_
        exact hl_end hx hb hr hlocks (by rw [hw2]; exact iI_2) (fun h => absurd h hk) hS hP (by decide) (by decide) dL_stain_20
      · have hk3 : kx = 3 := hk2
        rw [hk3, exN_3] at hcl
        refine vx_catch (own := RL) (name := "java/lang/UnsupportedOperationException") (E := "java/lang/UnsupportedOperationException") hown [⟨0, 10, 13, 21⟩, ⟨0, 10, 17, 13⟩] ⟨0, 10, 21, 15⟩ [] htab (fun z hz => (List.mem_cons.mp hz).elim (fun h => by subst h; exact Or.inr ⟨by decide, _, hts (.classLink RL 21 "java/lang/IndexOutOfBoundsException") cl_stain_21, hZ.2.2.1⟩) (fun h => by have h := List.mem_singleton.mp h; subst h; exact Or.inr ⟨by decide, _, hts (.classLink RL 13 "java/lang/IllegalArgumentException") cl_stain_13, hZ.2.2.2.1⟩)) (by decide) (by decide) (hts (.classLink RL 15 "java/lang/UnsupportedOperationException") cl_stain_15) (va_Nw.use rfl (ZC_x3 (ZH_C (cI := cI) (cC := cC) hZ))) hce hcv hcl ?_
        refine lv_astore (lv' := [(4, .ref q), (0, .ref (E 0)), (1, .int (iI napkin)), (2, .int (iI much)), (3, .ref o)]) hx hb dL_stain_21 hl (by decide) rfl (fun ls hl => ?_)
        refine lv_iconst (v := 3) hx hb dL_stain_23 (by decide) ?_
        exact hl_end hx hb hr hlocks (by rw [hw2]; exact iI_3) (fun h => absurd h hk) hS hP (by decide) (by decide) dL_stain_24
theorem cl_wash_21 : Cond.classLink RL 21 "java/lang/IndexOutOfBoundsException" ∈ wsL_wash := by decide +kernel
theorem cl_wash_15 : Cond.classLink RL 15 "java/lang/UnsupportedOperationException" ∈ wsL_wash := by decide +kernel
set_option maxHeartbeats 4000000 in
set_option maxRecDepth 100000 in
theorem hX_wash (l : Launch) (hst : l.stackTraces = false) (D : va_G) (E : Nat → Nat) (cI cC cJ cDD : ClassId) (T : Nat → Nat) (o : Nat) (M : Mem) (napkin : Int) (h1 : -2147483648 ≤ napkin ∧ napkin < 2147483648) (hC : CI M) (hQ : SI M) (hH : HN M) (kx r : Int) (M' : Mem) (hE : fX8_wash M napkin = (kx, r, M')) (w : Int) (hw : AnsL kx [1, 3] w) : Hl l yL_wash wsL_wash 8 163 1 [.ref (E 0), .int (iI napkin), .ref o] D cI cC cJ cDD E o T M kx (iI r).toInt64 M' w := by
  intro f
  refine Hx.of (cc := cL_wash) (maxL := 4) (ret := some .int) (hh := [(0, 9, 12, 21), (0, 9, 15, 15)]) (by decide +kernel) rfl (Nat.le_of_ble_eq_true rfl) ?_
  intro p e s m args below meth c ls hx hb hml hr hown hts hlocks hP hK hD hZ hS htab hl
  have hl : lv_has ls 4 [(0, .ref (E 0)), (1, .int (iI napkin)), (2, .ref o)] := hl
  refine lv_aload_n hx hb dL_wash_0 rfl (lv_at hl 2 rfl) ?_
  refine lv_iconst (v := 0) hx hb dL_wash_1 (by decide) ?_
  refine lv_aload_n hx hb dL_wash_2 rfl (lv_at hl 0 rfl) ?_
  refine lv_iload_n hx hb dL_wash_3 rfl (lv_at hl 1 rfl) ?_
  refine hx_call (rest := [.int 0, .ref o]) (As := [.int (iI napkin)]) (o := o) ⟨hx, hb, hml, hown, hts⟩ (kX8_wash l hst D E cI cC T M napkin h1 hC hQ hH kx r M' hE) (cwV 1 hts gL_wash_X8_wash rfl rfl rfl (by decide +kernel) ⟨Nat.le_of_ble_eq_true rfl, Nat.le_of_ble_eq_true rfl⟩) hK hP hD hS rfl hZ rfl hl.1 rfl (Nat.le_of_ble_eq_true rfl) dL_wash_4 ⟨by decide, by decide⟩ (fun hk H locs hP hD hS => ?_) (fun hk H locs q ce hP hD hS hce hcv hcl => ?_)
  · refine lv_i2l hx hb dL_wash_7 rfl ?_
    refine va_last hx hb hK hP hD hS 19 2 (n := 1) rfl rfl vp0 dL_wash_8 (fun H locs hP hD hS => ?_)
    have hP : va_P D vwCl (VHl E cI cC cJ o M' (vp_updL f (0 : Int32).toNatClampNeg (iI r).toInt64)) H := hP
    refine lv_goto (tgt := 18) hx hb dL_wash_9 (by decide) ?_
    refine lv_iconst (v := 0) hx hb dL_wash_18 (by decide) ?_
    exact hl_end hx hb hr hlocks (by rw [AnsL_0 hw (by decide) hk]; exact iI_0) (fun _ => by simp [vp_updL]) hS hP (by decide) (by decide) dL_wash_19
  · rcases hw with ⟨h, _⟩ | ⟨i, hi, hk2, hw2⟩
    · exact absurd h hk
    · rcases (show i = 0 ∨ i = 1 from by have h9 : i < 2 := hi; omega) with rfl | rfl
      · have hk3 : kx = 1 := hk2
        rw [hk3, exN_1] at hcl
        refine vx_catch (own := RL) (name := "java/lang/IndexOutOfBoundsException") (E := "java/lang/IndexOutOfBoundsException") hown [] ⟨0, 9, 12, 21⟩ [⟨0, 9, 15, 15⟩] htab (fun z hz => by cases hz) (by decide) (by decide) (hts (.classLink RL 21 "java/lang/IndexOutOfBoundsException") cl_wash_21) (va_Nw.use rfl (ZC_x1 (ZH_C (cI := cI) (cC := cC) hZ))) hce hcv hcl ?_
        refine lv_astore_n (lv' := [(3, .ref q), (0, .ref (E 0)), (1, .int (iI napkin)), (2, .ref o)]) hx hb dL_wash_12 rfl hl (by decide) rfl (fun ls hl => ?_)
        refine lv_iconst (v := 1) hx hb dL_wash_13 (by decide) ?_
        exact hl_end hx hb hr hlocks (by rw [hw2]; exact iI_1) (fun h => absurd h hk) hS hP (by decide) (by decide) dL_wash_14
      · have hk3 : kx = 3 := hk2
        rw [hk3, exN_3] at hcl
        refine vx_catch (own := RL) (name := "java/lang/UnsupportedOperationException") (E := "java/lang/UnsupportedOperationException") hown [⟨0, 9, 12, 21⟩] ⟨0, 9, 15, 15⟩ [] htab (fun z hz => by rcases List.mem_singleton.mp hz with rfl; exact Or.inr ⟨by decide, _, hts (.classLink RL 21 "java/lang/IndexOutOfBoundsException") cl_wash_21, hZ.2.2.1⟩) (by decide) (by decide) (hts (.classLink RL 15 "java/lang/UnsupportedOperationException") cl_wash_15) (va_Nw.use rfl (ZC_x3 (ZH_C (cI := cI) (cC := cC) hZ))) hce hcv hcl ?_
        refine lv_astore_n (lv' := [(3, .ref q), (0, .ref (E 0)), (1, .int (iI napkin)), (2, .ref o)]) hx hb dL_wash_15 rfl hl (by decide) rfl (fun ls hl => ?_)
        refine lv_iconst (v := 2) hx hb dL_wash_16 (by decide) ?_
        exact hl_end hx hb hr hlocks (by rw [hw2]; exact iI_2) (fun h => absurd h hk) hS hP (by decide) (by decide) dL_wash_17
theorem cl_host_21 : Cond.classLink RL 21 "java/lang/IndexOutOfBoundsException" ∈ wsL_host := by decide +kernel
theorem cl_host_15 : Cond.classLink RL 15 "java/lang/UnsupportedOperationException" ∈ wsL_host := by decide +kernel
set_option maxHeartbeats 4000000 in
set_option maxRecDepth 100000 in
theorem hX_host (l : Launch) (hst : l.stackTraces = false) (D : va_G) (E : Nat → Nat) (cI cC cJ cDD : ClassId) (T : Nat → Nat) (o : Nat) (M : Mem) (table : Int) (h1 : -2147483648 ≤ table ∧ table < 2147483648) (hC : CI M) (hQ : SI M) (hH : HN M) (kx r : Int) (M' : Mem) (hE : fX8_host M table = (kx, r, M')) (w : Int) (hw : AnsL kx [1, 3] w) : Hl l yL_host wsL_host 8 163 1 [.ref (E 0), .int (iI table), .ref o] D cI cC cJ cDD E o T M kx (iI r).toInt64 M' w := by
  intro f
  refine Hx.of (cc := cL_host) (maxL := 4) (ret := some .int) (hh := [(0, 9, 12, 21), (0, 9, 15, 15)]) (by decide +kernel) rfl (Nat.le_of_ble_eq_true rfl) ?_
  intro p e s m args below meth c ls hx hb hml hr hown hts hlocks hP hK hD hZ hS htab hl
  have hl : lv_has ls 4 [(0, .ref (E 0)), (1, .int (iI table)), (2, .ref o)] := hl
  refine lv_aload_n hx hb dL_host_0 rfl (lv_at hl 2 rfl) ?_
  refine lv_iconst (v := 0) hx hb dL_host_1 (by decide) ?_
  refine lv_aload_n hx hb dL_host_2 rfl (lv_at hl 0 rfl) ?_
  refine lv_iload_n hx hb dL_host_3 rfl (lv_at hl 1 rfl) ?_
  refine hx_call (rest := [.int 0, .ref o]) (As := [.int (iI table)]) (o := o) ⟨hx, hb, hml, hown, hts⟩ (kX8_host l hst D E cI cC T M table h1 hC hQ hH kx r M' hE) (cwV 1 hts gL_host_X8_host rfl rfl rfl (by decide +kernel) ⟨Nat.le_of_ble_eq_true rfl, Nat.le_of_ble_eq_true rfl⟩) hK hP hD hS rfl hZ rfl hl.1 rfl (Nat.le_of_ble_eq_true rfl) dL_host_4 ⟨by decide, by decide⟩ (fun hk H locs hP hD hS => ?_) (fun hk H locs q ce hP hD hS hce hcv hcl => ?_)
  · refine lv_i2l hx hb dL_host_7 rfl ?_
    refine va_last hx hb hK hP hD hS 19 2 (n := 1) rfl rfl vp0 dL_host_8 (fun H locs hP hD hS => ?_)
    have hP : va_P D vwCl (VHl E cI cC cJ o M' (vp_updL f (0 : Int32).toNatClampNeg (iI r).toInt64)) H := hP
    refine lv_goto (tgt := 18) hx hb dL_host_9 (by decide) ?_
    refine lv_iconst (v := 0) hx hb dL_host_18 (by decide) ?_
    exact hl_end hx hb hr hlocks (by rw [AnsL_0 hw (by decide) hk]; exact iI_0) (fun _ => by simp [vp_updL]) hS hP (by decide) (by decide) dL_host_19
  · rcases hw with ⟨h, _⟩ | ⟨i, hi, hk2, hw2⟩
    · exact absurd h hk
    · rcases (show i = 0 ∨ i = 1 from by have h9 : i < 2 := hi; omega) with rfl | rfl
      · have hk3 : kx = 1 := hk2
        rw [hk3, exN_1] at hcl
        refine vx_catch (own := RL) (name := "java/lang/IndexOutOfBoundsException") (E := "java/lang/IndexOutOfBoundsException") hown [] ⟨0, 9, 12, 21⟩ [⟨0, 9, 15, 15⟩] htab (fun z hz => by cases hz) (by decide) (by decide) (hts (.classLink RL 21 "java/lang/IndexOutOfBoundsException") cl_host_21) (va_Nw.use rfl (ZC_x1 (ZH_C (cI := cI) (cC := cC) hZ))) hce hcv hcl ?_
        refine lv_astore_n (lv' := [(3, .ref q), (0, .ref (E 0)), (1, .int (iI table)), (2, .ref o)]) hx hb dL_host_12 rfl hl (by decide) rfl (fun ls hl => ?_)
        refine lv_iconst (v := 1) hx hb dL_host_13 (by decide) ?_
        exact hl_end hx hb hr hlocks (by rw [hw2]; exact iI_1) (fun h => absurd h hk) hS hP (by decide) (by decide) dL_host_14
      · have hk3 : kx = 3 := hk2
        rw [hk3, exN_3] at hcl
        refine vx_catch (own := RL) (name := "java/lang/UnsupportedOperationException") (E := "java/lang/UnsupportedOperationException") hown [⟨0, 9, 12, 21⟩] ⟨0, 9, 15, 15⟩ [] htab (fun z hz => by rcases List.mem_singleton.mp hz with rfl; exact Or.inr ⟨by decide, _, hts (.classLink RL 21 "java/lang/IndexOutOfBoundsException") cl_host_21, hZ.2.2.1⟩) (by decide) (by decide) (hts (.classLink RL 15 "java/lang/UnsupportedOperationException") cl_host_15) (va_Nw.use rfl (ZC_x3 (ZH_C (cI := cI) (cC := cC) hZ))) hce hcv hcl ?_
        refine lv_astore_n (lv' := [(3, .ref q), (0, .ref (E 0)), (1, .int (iI table)), (2, .ref o)]) hx hb dL_host_15 rfl hl (by decide) rfl (fun ls hl => ?_)
        refine lv_iconst (v := 2) hx hb dL_host_16 (by decide) ?_
        exact hl_end hx hb hr hlocks (by rw [hw2]; exact iI_2) (fun h => absurd h hk) hS hP (by decide) (by decide) dL_host_17
theorem cl_napkinOf_21 : Cond.classLink RL 21 "java/lang/IndexOutOfBoundsException" ∈ wsL_napkinOf := by decide +kernel
theorem cl_napkinOf_13 : Cond.classLink RL 13 "java/lang/IllegalArgumentException" ∈ wsL_napkinOf := by decide +kernel
set_option maxHeartbeats 4000000 in
set_option maxRecDepth 100000 in
theorem hX_napkinOf (l : Launch) (hst : l.stackTraces = false) (D : va_G) (E : Nat → Nat) (cI cC cJ cDD : ClassId) (T : Nat → Nat) (o : Nat) (M : Mem) (napkin what : Int) (h1 : -2147483648 ≤ napkin ∧ napkin < 2147483648) (h2 : -2147483648 ≤ what ∧ what < 2147483648) (hC : CI M) (kx r : Int) (hE : fX8_napkinOf M napkin what = (kx, r)) (w : Int) (hw : AnsL kx [1, 2] w) : Hl l yL_napkinOf wsL_napkinOf 7 104 1 [.ref (E 0), .int (iI napkin), .int (iI what), .ref o] D cI cC cJ cDD E o T M kx (iI r).toInt64 M w := by
  intro f
  refine Hx.of (cc := cL_napkinOf) (maxL := 5) (ret := some .int) (hh := [(0, 10, 13, 21), (0, 10, 17, 13)]) (by decide +kernel) rfl (Nat.le_of_ble_eq_true rfl) ?_
  intro p e s m args below meth c ls hx hb hml hr hown hts hlocks hP hK hD hZ hS htab hl
  have hl : lv_has ls 5 [(0, .ref (E 0)), (1, .int (iI napkin)), (2, .int (iI what)), (3, .ref o)] := hl
  refine lv_aload_n hx hb dL_napkinOf_0 rfl (lv_at hl 3 rfl) ?_
  refine lv_iconst (v := 0) hx hb dL_napkinOf_1 (by decide) ?_
  refine lv_aload_n hx hb dL_napkinOf_2 rfl (lv_at hl 0 rfl) ?_
  refine lv_iload_n hx hb dL_napkinOf_3 rfl (lv_at hl 1 rfl) ?_
  refine lv_iload_n hx hb dL_napkinOf_4 rfl (lv_at hl 2 rfl) ?_
  refine hx_call (rest := [.int 0, .ref o]) (As := [.int (iI napkin), .int (iI what)]) (o := o) ⟨hx, hb, hml, hown, hts⟩ (kX8_napkinOf l hst D E cI cC T M napkin what h1 h2 hC kx r hE) (cwV 2 hts gL_napkinOf_X8_napkinOf rfl rfl rfl (by decide +kernel) ⟨Nat.le_of_ble_eq_true rfl, Nat.le_of_ble_eq_true rfl⟩) hK hP hD hS rfl hZ rfl hl.1 rfl (Nat.le_of_ble_eq_true rfl) dL_napkinOf_5 ⟨by decide, by decide⟩ (fun hk H locs hP hD hS => ?_) (fun hk H locs q ce hP hD hS hce hcv hcl => ?_)
  · refine lv_i2l hx hb dL_napkinOf_8 rfl ?_
    refine va_last hx hb hK hP hD hS 19 2 (n := 1) rfl rfl vp0 dL_napkinOf_9 (fun H locs hP hD hS => ?_)
    have hP : va_P D vwCl (VHl E cI cC cJ o M (vp_updL f (0 : Int32).toNatClampNeg (iI r).toInt64)) H := hP
    refine lv_goto (tgt := 21) hx hb dL_napkinOf_10 (by decide) ?_
    refine lv_iconst (v := 0) hx hb dL_napkinOf_21 (by decide) ?_
    exact hl_end hx hb hr hlocks (by rw [AnsL_0 hw (by decide) hk]; exact iI_0) (fun _ => by simp [vp_updL]) hS hP (by decide) (by decide) dL_napkinOf_22
  · rcases hw with ⟨h, _⟩ | ⟨i, hi, hk2, hw2⟩
    · exact absurd h hk
    · rcases (show i = 0 ∨ i = 1 from by have h9 : i < 2 := hi; omega) with rfl | rfl
      · have hk3 : kx = 1 := hk2
        rw [hk3, exN_1] at hcl
        refine vx_catch (own := RL) (name := "java/lang/IndexOutOfBoundsException") (E := "java/lang/IndexOutOfBoundsException") hown [] ⟨0, 10, 13, 21⟩ [⟨0, 10, 17, 13⟩] htab (fun z hz => by cases hz) (by decide) (by decide) (hts (.classLink RL 21 "java/lang/IndexOutOfBoundsException") cl_napkinOf_21) (va_Nw.use rfl (ZC_x1 (ZH_C (cI := cI) (cC := cC) hZ))) hce hcv hcl ?_
        refine lv_astore (lv' := [(4, .ref q), (0, .ref (E 0)), (1, .int (iI napkin)), (2, .int (iI what)), (3, .ref o)]) hx hb dL_napkinOf_13 hl (by decide) rfl (fun ls hl => ?_)
        refine lv_iconst (v := 1) hx hb dL_napkinOf_15 (by decide) ?_
        exact hl_end hx hb hr hlocks (by rw [hw2]; exact iI_1) (fun h => absurd h hk) hS hP (by decide) (by decide) dL_napkinOf_16
      · have hk3 : kx = 2 := hk2
        rw [hk3, exN_2] at hcl
        refine vx_catch (own := RL) (name := "java/lang/IllegalArgumentException") (E := "java/lang/IllegalArgumentException") hown [⟨0, 10, 13, 21⟩] ⟨0, 10, 17, 13⟩ [] htab (fun z hz => by rcases List.mem_singleton.mp hz with rfl; exact Or.inr ⟨by decide, _, hts (.classLink RL 21 "java/lang/IndexOutOfBoundsException") cl_napkinOf_21, hZ.2.1⟩) (by decide) (by decide) (hts (.classLink RL 13 "java/lang/IllegalArgumentException") cl_napkinOf_13) (va_Nw.use rfl (ZC_x2 (ZH_C (cI := cI) (cC := cC) hZ))) hce hcv hcl ?_
        refine lv_astore (lv' := [(4, .ref q), (0, .ref (E 0)), (1, .int (iI napkin)), (2, .int (iI what)), (3, .ref o)]) hx hb dL_napkinOf_17 hl (by decide) rfl (fun ls hl => ?_)
        refine lv_iconst (v := 2) hx hb dL_napkinOf_19 (by decide) ?_
        exact hl_end hx hb hr hlocks (by rw [hw2]; exact iI_2) (fun h => absurd h hk) hS hP (by decide) (by decide) dL_napkinOf_20
theorem cl_tableOf_21 : Cond.classLink RL 21 "java/lang/IndexOutOfBoundsException" ∈ wsL_tableOf := by decide +kernel
theorem cl_tableOf_13 : Cond.classLink RL 13 "java/lang/IllegalArgumentException" ∈ wsL_tableOf := by decide +kernel
set_option maxHeartbeats 4000000 in
set_option maxRecDepth 100000 in
theorem hX_tableOf (l : Launch) (hst : l.stackTraces = false) (D : va_G) (E : Nat → Nat) (cI cC cJ cDD : ClassId) (T : Nat → Nat) (o : Nat) (M : Mem) (table what : Int) (h1 : -2147483648 ≤ table ∧ table < 2147483648) (h2 : -2147483648 ≤ what ∧ what < 2147483648) (hC : CI M) (hQ : SI M) (kx r : Int) (M' : Mem) (hE : fX8_tableOf M table what = (kx, r, M')) (w : Int) (hw : AnsL kx [1, 2] w) : Hl l yL_tableOf wsL_tableOf 8 125 2 [.ref (E 0), .int (iI table), .int (iI what), .ref o] D cI cC cJ cDD E o T M kx (iI r).toInt64 M' w := by
  intro f
  refine Hx.of (cc := cL_tableOf) (maxL := 5) (ret := some .int) (hh := [(0, 10, 13, 21), (0, 10, 17, 13)]) (by decide +kernel) rfl (Nat.le_of_ble_eq_true rfl) ?_
  intro p e s m args below meth c ls hx hb hml hr hown hts hlocks hP hK hD hZ hS htab hl
  have hl : lv_has ls 5 [(0, .ref (E 0)), (1, .int (iI table)), (2, .int (iI what)), (3, .ref o)] := hl
  refine lv_aload_n hx hb dL_tableOf_0 rfl (lv_at hl 3 rfl) ?_
  refine lv_iconst (v := 0) hx hb dL_tableOf_1 (by decide) ?_
  refine lv_aload_n hx hb dL_tableOf_2 rfl (lv_at hl 0 rfl) ?_
  refine lv_iload_n hx hb dL_tableOf_3 rfl (lv_at hl 1 rfl) ?_
  refine lv_iload_n hx hb dL_tableOf_4 rfl (lv_at hl 2 rfl) ?_
  refine hx_call (rest := [.int 0, .ref o]) (As := [.int (iI table), .int (iI what)]) (o := o) ⟨hx, hb, hml, hown, hts⟩ (kX8_tableOf l hst D E cI cC T M table what h1 h2 hC hQ kx r M' hE) (cwV 2 hts gL_tableOf_X8_tableOf rfl rfl rfl (by decide +kernel) ⟨Nat.le_of_ble_eq_true rfl, Nat.le_of_ble_eq_true rfl⟩) hK hP hD hS rfl hZ rfl hl.1 rfl (Nat.le_of_ble_eq_true rfl) dL_tableOf_5 ⟨by decide, by decide⟩ (fun hk H locs hP hD hS => ?_) (fun hk H locs q ce hP hD hS hce hcv hcl => ?_)
  · refine lv_i2l hx hb dL_tableOf_8 rfl ?_
    refine va_last hx hb hK hP hD hS 19 2 (n := 1) rfl rfl vp0 dL_tableOf_9 (fun H locs hP hD hS => ?_)
    have hP : va_P D vwCl (VHl E cI cC cJ o M' (vp_updL f (0 : Int32).toNatClampNeg (iI r).toInt64)) H := hP
    refine lv_goto (tgt := 21) hx hb dL_tableOf_10 (by decide) ?_
    refine lv_iconst (v := 0) hx hb dL_tableOf_21 (by decide) ?_
    exact hl_end hx hb hr hlocks (by rw [AnsL_0 hw (by decide) hk]; exact iI_0) (fun _ => by simp [vp_updL]) hS hP (by decide) (by decide) dL_tableOf_22
  · rcases hw with ⟨h, _⟩ | ⟨i, hi, hk2, hw2⟩
    · exact absurd h hk
    · rcases (show i = 0 ∨ i = 1 from by have h9 : i < 2 := hi; omega) with rfl | rfl
      · have hk3 : kx = 1 := hk2
        rw [hk3, exN_1] at hcl
        refine vx_catch (own := RL) (name := "java/lang/IndexOutOfBoundsException") (E := "java/lang/IndexOutOfBoundsException") hown [] ⟨0, 10, 13, 21⟩ [⟨0, 10, 17, 13⟩] htab (fun z hz => by cases hz) (by decide) (by decide) (hts (.classLink RL 21 "java/lang/IndexOutOfBoundsException") cl_tableOf_21) (va_Nw.use rfl (ZC_x1 (ZH_C (cI := cI) (cC := cC) hZ))) hce hcv hcl ?_
        refine lv_astore (lv' := [(4, .ref q), (0, .ref (E 0)), (1, .int (iI table)), (2, .int (iI what)), (3, .ref o)]) hx hb dL_tableOf_13 hl (by decide) rfl (fun ls hl => ?_)
        refine lv_iconst (v := 1) hx hb dL_tableOf_15 (by decide) ?_
        exact hl_end hx hb hr hlocks (by rw [hw2]; exact iI_1) (fun h => absurd h hk) hS hP (by decide) (by decide) dL_tableOf_16
      · have hk3 : kx = 2 := hk2
        rw [hk3, exN_2] at hcl
        refine vx_catch (own := RL) (name := "java/lang/IllegalArgumentException") (E := "java/lang/IllegalArgumentException") hown [⟨0, 10, 13, 21⟩] ⟨0, 10, 17, 13⟩ [] htab (fun z hz => by rcases List.mem_singleton.mp hz with rfl; exact Or.inr ⟨by decide, _, hts (.classLink RL 21 "java/lang/IndexOutOfBoundsException") cl_tableOf_21, hZ.2.1⟩) (by decide) (by decide) (hts (.classLink RL 13 "java/lang/IllegalArgumentException") cl_tableOf_13) (va_Nw.use rfl (ZC_x2 (ZH_C (cI := cI) (cC := cC) hZ))) hce hcv hcl ?_
        refine lv_astore (lv' := [(4, .ref q), (0, .ref (E 0)), (1, .int (iI table)), (2, .int (iI what)), (3, .ref o)]) hx hb dL_tableOf_17 hl (by decide) rfl (fun ls hl => ?_)
        refine lv_iconst (v := 2) hx hb dL_tableOf_19 (by decide) ?_
        exact hl_end hx hb hr hlocks (by rw [hw2]; exact iI_2) (fun h => absurd h hk) hS hP (by decide) (by decide) dL_tableOf_20
theorem cl_seat_21 : Cond.classLink RL 21 "java/lang/IndexOutOfBoundsException" ∈ wsL_seat := by decide +kernel
theorem cl_seat_54 : Cond.classLink RL 54 "java/util/NoSuchElementException" ∈ wsL_seat := by decide +kernel
set_option maxHeartbeats 4000000 in
set_option maxRecDepth 100000 in
theorem hX_seat (l : Launch) (hst : l.stackTraces = false) (D : va_G) (E : Nat → Nat) (cI cC cJ cDD : ClassId) (T : Nat → Nat) (o : Nat) (M : Mem) (table place : Int) (h1 : -2147483648 ≤ table ∧ table < 2147483648) (h2 : -2147483648 ≤ place ∧ place < 2147483648) (hC : CI M) (kx r : Int) (hE : fX8_seat M table place = (kx, r)) (w : Int) (hw : AnsL kx [1, 4] w) : Hl l yL_seat wsL_seat 8 125 2 [.ref (E 0), .int (iI table), .int (iI place), .ref o] D cI cC cJ cDD E o T M kx (iI r).toInt64 M w := by
  intro f
  refine Hx.of (cc := cL_seat) (maxL := 5) (ret := some .int) (hh := [(0, 10, 13, 21), (0, 10, 17, 54)]) (by decide +kernel) rfl (Nat.le_of_ble_eq_true rfl) ?_
  intro p e s m args below meth c ls hx hb hml hr hown hts hlocks hP hK hD hZ hS htab hl
  have hl : lv_has ls 5 [(0, .ref (E 0)), (1, .int (iI table)), (2, .int (iI place)), (3, .ref o)] := hl
  refine lv_aload_n hx hb dL_seat_0 rfl (lv_at hl 3 rfl) ?_
  refine lv_iconst (v := 0) hx hb dL_seat_1 (by decide) ?_
  refine lv_aload_n hx hb dL_seat_2 rfl (lv_at hl 0 rfl) ?_
  refine lv_iload_n hx hb dL_seat_3 rfl (lv_at hl 1 rfl) ?_
  refine lv_iload_n hx hb dL_seat_4 rfl (lv_at hl 2 rfl) ?_
  refine hx_call (rest := [.int 0, .ref o]) (As := [.int (iI table), .int (iI place)]) (o := o) ⟨hx, hb, hml, hown, hts⟩ (kX8_seat l hst D E cI cC T M table place h1 h2 hC kx r hE) (cwV 2 hts gL_seat_X8_seat rfl rfl rfl (by decide +kernel) ⟨Nat.le_of_ble_eq_true rfl, Nat.le_of_ble_eq_true rfl⟩) hK hP hD hS rfl hZ rfl hl.1 rfl (Nat.le_of_ble_eq_true rfl) dL_seat_5 ⟨by decide, by decide⟩ (fun hk H locs hP hD hS => ?_) (fun hk H locs q ce hP hD hS hce hcv hcl => ?_)
  · refine lv_i2l hx hb dL_seat_8 rfl ?_
    refine va_last hx hb hK hP hD hS 19 2 (n := 1) rfl rfl vp0 dL_seat_9 (fun H locs hP hD hS => ?_)
    have hP : va_P D vwCl (VHl E cI cC cJ o M (vp_updL f (0 : Int32).toNatClampNeg (iI r).toInt64)) H := hP
    refine lv_goto (tgt := 21) hx hb dL_seat_10 (by decide) ?_
    refine lv_iconst (v := 0) hx hb dL_seat_21 (by decide) ?_
    exact hl_end hx hb hr hlocks (by rw [AnsL_0 hw (by decide) hk]; exact iI_0) (fun _ => by simp [vp_updL]) hS hP (by decide) (by decide) dL_seat_22
  · rcases hw with ⟨h, _⟩ | ⟨i, hi, hk2, hw2⟩
    · exact absurd h hk
    · rcases (show i = 0 ∨ i = 1 from by have h9 : i < 2 := hi; omega) with rfl | rfl
      · have hk3 : kx = 1 := hk2
        rw [hk3, exN_1] at hcl
        refine vx_catch (own := RL) (name := "java/lang/IndexOutOfBoundsException") (E := "java/lang/IndexOutOfBoundsException") hown [] ⟨0, 10, 13, 21⟩ [⟨0, 10, 17, 54⟩] htab (fun z hz => by cases hz) (by decide) (by decide) (hts (.classLink RL 21 "java/lang/IndexOutOfBoundsException") cl_seat_21) (va_Nw.use rfl (ZC_x1 (ZH_C (cI := cI) (cC := cC) hZ))) hce hcv hcl ?_
        refine lv_astore (lv' := [(4, .ref q), (0, .ref (E 0)), (1, .int (iI table)), (2, .int (iI place)), (3, .ref o)]) hx hb dL_seat_13 hl (by decide) rfl (fun ls hl => ?_)
        refine lv_iconst (v := 1) hx hb dL_seat_15 (by decide) ?_
        exact hl_end hx hb hr hlocks (by rw [hw2]; exact iI_1) (fun h => absurd h hk) hS hP (by decide) (by decide) dL_seat_16
      · have hk3 : kx = 4 := hk2
        rw [hk3, exN_4] at hcl
        refine vx_catch (own := RL) (name := "java/util/NoSuchElementException") (E := "java/util/NoSuchElementException") hown [⟨0, 10, 13, 21⟩] ⟨0, 10, 17, 54⟩ [] htab (fun z hz => by rcases List.mem_singleton.mp hz with rfl; exact Or.inr ⟨by decide, _, hts (.classLink RL 21 "java/lang/IndexOutOfBoundsException") cl_seat_21, hZ.2.2.2.2.1⟩) (by decide) (by decide) (hts (.classLink RL 54 "java/util/NoSuchElementException") cl_seat_54) (va_Nw.use rfl (ZC_x4 (ZH_C (cI := cI) (cC := cC) hZ))) hce hcv hcl ?_
        refine lv_astore (lv' := [(4, .ref q), (0, .ref (E 0)), (1, .int (iI table)), (2, .int (iI place)), (3, .ref o)]) hx hb dL_seat_17 hl (by decide) rfl (fun ls hl => ?_)
        refine lv_iconst (v := 2) hx hb dL_seat_19 (by decide) ?_
        exact hl_end hx hb hr hlocks (by rw [hw2]; exact iI_2) (fun h => absurd h hk) hS hP (by decide) (by decide) dL_seat_20
theorem cl_said_21 : Cond.classLink RL 21 "java/lang/IndexOutOfBoundsException" ∈ wsL_said := by decide +kernel
theorem cl_said_54 : Cond.classLink RL 54 "java/util/NoSuchElementException" ∈ wsL_said := by decide +kernel
set_option maxHeartbeats 4000000 in
set_option maxRecDepth 100000 in
theorem hX_said (l : Launch) (hst : l.stackTraces = false) (D : va_G) (E : Nat → Nat) (cI cC cJ cDD : ClassId) (T : Nat → Nat) (o : Nat) (M : Mem) (table number : Int) (h1 : -2147483648 ≤ table ∧ table < 2147483648) (h2 : -2147483648 ≤ number ∧ number < 2147483648) (hC : CI M) (hQ : SI M) (kx r : Int) (M' : Mem) (hE : fX8_said M table number = (kx, r, M')) (w : Int) (hw : AnsL kx [1, 4] w) : Hl l yL_said wsL_said 8 126 2 [.ref (E 0), .int (iI table), .int (iI number), .ref o] D cI cC cJ cDD E o T M kx (iI r).toInt64 M' w := by
  intro f
  refine Hx.of (cc := cL_said) (maxL := 5) (ret := some .int) (hh := [(0, 10, 13, 21), (0, 10, 17, 54)]) (by decide +kernel) rfl (Nat.le_of_ble_eq_true rfl) ?_
  intro p e s m args below meth c ls hx hb hml hr hown hts hlocks hP hK hD hZ hS htab hl
  have hl : lv_has ls 5 [(0, .ref (E 0)), (1, .int (iI table)), (2, .int (iI number)), (3, .ref o)] := hl
  refine lv_aload_n hx hb dL_said_0 rfl (lv_at hl 3 rfl) ?_
  refine lv_iconst (v := 0) hx hb dL_said_1 (by decide) ?_
  refine lv_aload_n hx hb dL_said_2 rfl (lv_at hl 0 rfl) ?_
  refine lv_iload_n hx hb dL_said_3 rfl (lv_at hl 1 rfl) ?_
  refine lv_iload_n hx hb dL_said_4 rfl (lv_at hl 2 rfl) ?_
  refine hx_call (rest := [.int 0, .ref o]) (As := [.int (iI table), .int (iI number)]) (o := o) ⟨hx, hb, hml, hown, hts⟩ (kX8_said l hst D E cI cC T M table number h1 h2 hC hQ kx r M' hE) (cwV 2 hts gL_said_X8_said rfl rfl rfl (by decide +kernel) ⟨Nat.le_of_ble_eq_true rfl, Nat.le_of_ble_eq_true rfl⟩) hK hP hD hS rfl hZ rfl hl.1 rfl (Nat.le_of_ble_eq_true rfl) dL_said_5 ⟨by decide, by decide⟩ (fun hk H locs hP hD hS => ?_) (fun hk H locs q ce hP hD hS hce hcv hcl => ?_)
  · refine lv_i2l hx hb dL_said_8 rfl ?_
    refine va_last hx hb hK hP hD hS 19 2 (n := 1) rfl rfl vp0 dL_said_9 (fun H locs hP hD hS => ?_)
    have hP : va_P D vwCl (VHl E cI cC cJ o M' (vp_updL f (0 : Int32).toNatClampNeg (iI r).toInt64)) H := hP
    refine lv_goto (tgt := 21) hx hb dL_said_10 (by decide) ?_
    refine lv_iconst (v := 0) hx hb dL_said_21 (by decide) ?_
    exact hl_end hx hb hr hlocks (by rw [AnsL_0 hw (by decide) hk]; exact iI_0) (fun _ => by simp [vp_updL]) hS hP (by decide) (by decide) dL_said_22
  · rcases hw with ⟨h, _⟩ | ⟨i, hi, hk2, hw2⟩
    · exact absurd h hk
    · rcases (show i = 0 ∨ i = 1 from by have h9 : i < 2 := hi; omega) with rfl | rfl
      · have hk3 : kx = 1 := hk2
        rw [hk3, exN_1] at hcl
        refine vx_catch (own := RL) (name := "java/lang/IndexOutOfBoundsException") (E := "java/lang/IndexOutOfBoundsException") hown [] ⟨0, 10, 13, 21⟩ [⟨0, 10, 17, 54⟩] htab (fun z hz => by cases hz) (by decide) (by decide) (hts (.classLink RL 21 "java/lang/IndexOutOfBoundsException") cl_said_21) (va_Nw.use rfl (ZC_x1 (ZH_C (cI := cI) (cC := cC) hZ))) hce hcv hcl ?_
        refine lv_astore (lv' := [(4, .ref q), (0, .ref (E 0)), (1, .int (iI table)), (2, .int (iI number)), (3, .ref o)]) hx hb dL_said_13 hl (by decide) rfl (fun ls hl => ?_)
        refine lv_iconst (v := 1) hx hb dL_said_15 (by decide) ?_
        exact hl_end hx hb hr hlocks (by rw [hw2]; exact iI_1) (fun h => absurd h hk) hS hP (by decide) (by decide) dL_said_16
      · have hk3 : kx = 4 := hk2
        rw [hk3, exN_4] at hcl
        refine vx_catch (own := RL) (name := "java/util/NoSuchElementException") (E := "java/util/NoSuchElementException") hown [⟨0, 10, 13, 21⟩] ⟨0, 10, 17, 54⟩ [] htab (fun z hz => by rcases List.mem_singleton.mp hz with rfl; exact Or.inr ⟨by decide, _, hts (.classLink RL 21 "java/lang/IndexOutOfBoundsException") cl_said_21, hZ.2.2.2.2.1⟩) (by decide) (by decide) (hts (.classLink RL 54 "java/util/NoSuchElementException") cl_said_54) (va_Nw.use rfl (ZC_x4 (ZH_C (cI := cI) (cC := cC) hZ))) hce hcv hcl ?_
        refine lv_astore (lv' := [(4, .ref q), (0, .ref (E 0)), (1, .int (iI table)), (2, .int (iI number)), (3, .ref o)]) hx hb dL_said_17 hl (by decide) rfl (fun ls hl => ?_)
        refine lv_iconst (v := 2) hx hb dL_said_19 (by decide) ?_
        exact hl_end hx hb hr hlocks (by rw [hw2]; exact iI_2) (fun h => absurd h hk) hS hP (by decide) (by decide) dL_said_20
theorem cl_wrong_21 : Cond.classLink RL 21 "java/lang/IndexOutOfBoundsException" ∈ wsL_wrong := by decide +kernel
set_option maxHeartbeats 4000000 in
set_option maxRecDepth 100000 in
theorem hX_wrong (l : Launch) (hst : l.stackTraces = false) (D : va_G) (E : Nat → Nat) (cI cC cJ cDD : ClassId) (T : Nat → Nat) (o : Nat) (M : Mem) (table : Int) (h1 : -2147483648 ≤ table ∧ table < 2147483648) (hC : CI M) (hQ : SI M) (kx r : Int) (M' : Mem) (hE : fX8_wrong M table = (kx, r, M')) (w : Int) (hw : AnsL kx [1] w) : Hl l yL_wrong wsL_wrong 8 124 1 [.ref (E 0), .int (iI table), .ref o] D cI cC cJ cDD E o T M kx (iI r).toInt64 M' w := by
  intro f
  refine Hx.of (cc := cL_wrong) (maxL := 4) (ret := some .int) (hh := [(0, 9, 12, 21)]) (by decide +kernel) rfl (Nat.le_of_ble_eq_true rfl) ?_
  intro p e s m args below meth c ls hx hb hml hr hown hts hlocks hP hK hD hZ hS htab hl
  have hl : lv_has ls 4 [(0, .ref (E 0)), (1, .int (iI table)), (2, .ref o)] := hl
  refine lv_aload_n hx hb dL_wrong_0 rfl (lv_at hl 2 rfl) ?_
  refine lv_iconst (v := 0) hx hb dL_wrong_1 (by decide) ?_
  refine lv_aload_n hx hb dL_wrong_2 rfl (lv_at hl 0 rfl) ?_
  refine lv_iload_n hx hb dL_wrong_3 rfl (lv_at hl 1 rfl) ?_
  refine hx_call (rest := [.int 0, .ref o]) (As := [.int (iI table)]) (o := o) ⟨hx, hb, hml, hown, hts⟩ (kX8_wrong l hst D E cI cC T M table h1 hC hQ kx r M' hE) (cwV 1 hts gL_wrong_X8_wrong rfl rfl rfl (by decide +kernel) ⟨Nat.le_of_ble_eq_true rfl, Nat.le_of_ble_eq_true rfl⟩) hK hP hD hS rfl hZ rfl hl.1 rfl (Nat.le_of_ble_eq_true rfl) dL_wrong_4 ⟨by decide, by decide⟩ (fun hk H locs hP hD hS => ?_) (fun hk H locs q ce hP hD hS hce hcv hcl => ?_)
  · refine lv_i2l hx hb dL_wrong_7 rfl ?_
    refine va_last hx hb hK hP hD hS 19 2 (n := 1) rfl rfl vp0 dL_wrong_8 (fun H locs hP hD hS => ?_)
    have hP : va_P D vwCl (VHl E cI cC cJ o M' (vp_updL f (0 : Int32).toNatClampNeg (iI r).toInt64)) H := hP
    refine lv_goto (tgt := 15) hx hb dL_wrong_9 (by decide) ?_
    refine lv_iconst (v := 0) hx hb dL_wrong_15 (by decide) ?_
    exact hl_end hx hb hr hlocks (by rw [AnsL_0 hw (by decide) hk]; exact iI_0) (fun _ => by simp [vp_updL]) hS hP (by decide) (by decide) dL_wrong_16
  · rcases hw with ⟨h, _⟩ | ⟨i, hi, hk2, hw2⟩
    · exact absurd h hk
    · rcases (show i = 0 from by have h9 : i < 1 := hi; omega) with rfl
      · have hk3 : kx = 1 := hk2
        rw [hk3, exN_1] at hcl
        refine vx_catch (own := RL) (name := "java/lang/IndexOutOfBoundsException") (E := "java/lang/IndexOutOfBoundsException") hown [] ⟨0, 9, 12, 21⟩ [] htab (fun z hz => by cases hz) (by decide) (by decide) (hts (.classLink RL 21 "java/lang/IndexOutOfBoundsException") cl_wrong_21) (va_Nw.use rfl (ZC_x1 (ZH_C (cI := cI) (cC := cC) hZ))) hce hcv hcl ?_
        refine lv_astore_n (lv' := [(3, .ref q), (0, .ref (E 0)), (1, .int (iI table)), (2, .ref o)]) hx hb dL_wrong_12 rfl hl (by decide) rfl (fun ls hl => ?_)
        refine lv_iconst (v := 1) hx hb dL_wrong_13 (by decide) ?_
        exact hl_end hx hb hr hlocks (by rw [hw2]; exact iI_1) (fun h => absurd h hk) hS hP (by decide) (by decide) dL_wrong_14
theorem cl_wrongAgain_21 : Cond.classLink RL 21 "java/lang/IndexOutOfBoundsException" ∈ wsL_wrongAgain := by decide +kernel
set_option maxHeartbeats 4000000 in
set_option maxRecDepth 100000 in
theorem hX_wrongAgain (l : Launch) (hst : l.stackTraces = false) (D : va_G) (E : Nat → Nat) (cI cC cJ cDD : ClassId) (T : Nat → Nat) (o : Nat) (M : Mem) (table : Int) (h1 : -2147483648 ≤ table ∧ table < 2147483648) (hC : CI M) (hQ : SI M) (kx r : Int) (M' : Mem) (hE : fX8_wrongAgain M table = (kx, r, M')) (w : Int) (hw : AnsL kx [1] w) : Hl l yL_wrongAgain wsL_wrongAgain 8 124 1 [.ref (E 0), .int (iI table), .ref o] D cI cC cJ cDD E o T M kx (iI r).toInt64 M' w := by
  intro f
  refine Hx.of (cc := cL_wrongAgain) (maxL := 4) (ret := some .int) (hh := [(0, 9, 12, 21)]) (by decide +kernel) rfl (Nat.le_of_ble_eq_true rfl) ?_
  intro p e s m args below meth c ls hx hb hml hr hown hts hlocks hP hK hD hZ hS htab hl
  have hl : lv_has ls 4 [(0, .ref (E 0)), (1, .int (iI table)), (2, .ref o)] := hl
  refine lv_aload_n hx hb dL_wrongAgain_0 rfl (lv_at hl 2 rfl) ?_
  refine lv_iconst (v := 0) hx hb dL_wrongAgain_1 (by decide) ?_
  refine lv_aload_n hx hb dL_wrongAgain_2 rfl (lv_at hl 0 rfl) ?_
  refine lv_iload_n hx hb dL_wrongAgain_3 rfl (lv_at hl 1 rfl) ?_
  refine hx_call (rest := [.int 0, .ref o]) (As := [.int (iI table)]) (o := o) ⟨hx, hb, hml, hown, hts⟩ (kX8_wrongAgain l hst D E cI cC T M table h1 hC hQ kx r M' hE) (cwV 1 hts gL_wrongAgain_X8_wrongAgain rfl rfl rfl (by decide +kernel) ⟨Nat.le_of_ble_eq_true rfl, Nat.le_of_ble_eq_true rfl⟩) hK hP hD hS rfl hZ rfl hl.1 rfl (Nat.le_of_ble_eq_true rfl) dL_wrongAgain_4 ⟨by decide, by decide⟩ (fun hk H locs hP hD hS => ?_) (fun hk H locs q ce hP hD hS hce hcv hcl => ?_)
  · refine lv_i2l hx hb dL_wrongAgain_7 rfl ?_
    refine va_last hx hb hK hP hD hS 19 2 (n := 1) rfl rfl vp0 dL_wrongAgain_8 (fun H locs hP hD hS => ?_)
    have hP : va_P D vwCl (VHl E cI cC cJ o M' (vp_updL f (0 : Int32).toNatClampNeg (iI r).toInt64)) H := hP
    refine lv_goto (tgt := 15) hx hb dL_wrongAgain_9 (by decide) ?_
    refine lv_iconst (v := 0) hx hb dL_wrongAgain_15 (by decide) ?_
    exact hl_end hx hb hr hlocks (by rw [AnsL_0 hw (by decide) hk]; exact iI_0) (fun _ => by simp [vp_updL]) hS hP (by decide) (by decide) dL_wrongAgain_16
  · rcases hw with ⟨h, _⟩ | ⟨i, hi, hk2, hw2⟩
    · exact absurd h hk
    · rcases (show i = 0 from by have h9 : i < 1 := hi; omega) with rfl
      · have hk3 : kx = 1 := hk2
        rw [hk3, exN_1] at hcl
        refine vx_catch (own := RL) (name := "java/lang/IndexOutOfBoundsException") (E := "java/lang/IndexOutOfBoundsException") hown [] ⟨0, 9, 12, 21⟩ [] htab (fun z hz => by cases hz) (by decide) (by decide) (hts (.classLink RL 21 "java/lang/IndexOutOfBoundsException") cl_wrongAgain_21) (va_Nw.use rfl (ZC_x1 (ZH_C (cI := cI) (cC := cC) hZ))) hce hcv hcl ?_
        refine lv_astore_n (lv' := [(3, .ref q), (0, .ref (E 0)), (1, .int (iI table)), (2, .ref o)]) hx hb dL_wrongAgain_12 rfl hl (by decide) rfl (fun ls hl => ?_)
        refine lv_iconst (v := 1) hx hb dL_wrongAgain_13 (by decide) ?_
        exact hl_end hx hb hr hlocks (by rw [hw2]; exact iI_1) (fun h => absurd h hk) hS hP (by decide) (by decide) dL_wrongAgain_14
theorem cl_isRight_21 : Cond.classLink RL 21 "java/lang/IndexOutOfBoundsException" ∈ wsL_isRight := by decide +kernel
set_option maxHeartbeats 4000000 in
set_option maxRecDepth 100000 in
theorem hX_isRight (l : Launch) (hst : l.stackTraces = false) (D : va_G) (E : Nat → Nat) (cI cC cJ cDD : ClassId) (T : Nat → Nat) (o : Nat) (M : Mem) (table : Int) (h1 : -2147483648 ≤ table ∧ table < 2147483648) (hC : CI M) (hQ : SI M) (kx r : Int) (M' : Mem) (hE : fX8_isRight M table = (kx, r, M')) (w : Int) (hw : AnsL kx [1] w) : Hl l yL_isRight wsL_isRight 8 124 1 [.ref (E 0), .int (iI table), .ref o] D cI cC cJ cDD E o T M kx (if iI r = 0 then 0 else 1) M' w := by
  intro f
  refine Hx.of (cc := cL_isRight) (maxL := 4) (ret := some .int) (hh := [(0, 16, 19, 21)]) (by decide +kernel) rfl (Nat.le_of_ble_eq_true rfl) ?_
  intro p e s m args below meth c ls hx hb hml hr hown hts hlocks hP hK hD hZ hS htab hl
  have hl : lv_has ls 4 [(0, .ref (E 0)), (1, .int (iI table)), (2, .ref o)] := hl
  refine lv_aload_n hx hb dL_isRight_0 rfl (lv_at hl 2 rfl) ?_
  refine lv_iconst (v := 0) hx hb dL_isRight_1 (by decide) ?_
  refine lv_aload_n hx hb dL_isRight_2 rfl (lv_at hl 0 rfl) ?_
  refine lv_iload_n hx hb dL_isRight_3 rfl (lv_at hl 1 rfl) ?_
  refine hx_call (rest := [.int 0, .ref o]) (As := [.int (iI table)]) (o := o) ⟨hx, hb, hml, hown, hts⟩ (kX8_isRight l hst D E cI cC T M table h1 hC hQ kx r M' hE) (cwV 1 hts gL_isRight_X8_isRight rfl rfl rfl (by decide +kernel) ⟨Nat.le_of_ble_eq_true rfl, Nat.le_of_ble_eq_true rfl⟩) hK hP hD hS rfl hZ rfl hl.1 rfl (Nat.le_of_ble_eq_true rfl) dL_isRight_4 ⟨by decide, by decide⟩ (fun hk H locs hP hD hS => ?_) (fun hk H locs q ce hP hD hS hce hcv hcl => ?_)
  · refine lv_if_eq (tgt := 14) hx hb dL_isRight_7 (by decide) (fun hz => ?_) (fun hz => ?_)
    · refine lv_lconst (v := 0) hx hb dL_isRight_14 (by decide) ?_
      refine va_last hx hb hK hP hD hS 19 2 (n := 1) rfl rfl vp0 dL_isRight_15 (fun H locs hP hD hS => ?_)
      have hP : va_P D vwCl (VHl E cI cC cJ o M' (vp_updL f (0 : Int32).toNatClampNeg 0)) H := hP
      refine lv_goto (tgt := 22) hx hb dL_isRight_16 (by decide) ?_
      refine lv_iconst (v := 0) hx hb dL_isRight_22 (by decide) ?_
      exact hl_end hx hb hr hlocks (by rw [AnsL_0 hw (by decide) hk]; exact iI_0) (fun _ => by rw [if_pos hz]; simp [vp_updL]) hS hP (by decide) (by decide) dL_isRight_23
    · refine lv_lconst (v := 1) hx hb dL_isRight_10 (by decide) ?_
      refine lv_goto (tgt := 15) hx hb dL_isRight_11 (by decide) ?_
      refine va_last hx hb hK hP hD hS 19 2 (n := 1) rfl rfl vp0 dL_isRight_15 (fun H locs hP hD hS => ?_)
      have hP : va_P D vwCl (VHl E cI cC cJ o M' (vp_updL f (0 : Int32).toNatClampNeg 1)) H := hP
      refine lv_goto (tgt := 22) hx hb dL_isRight_16 (by decide) ?_
      refine lv_iconst (v := 0) hx hb dL_isRight_22 (by decide) ?_
      exact hl_end hx hb hr hlocks (by rw [AnsL_0 hw (by decide) hk]; exact iI_0) (fun _ => by rw [if_neg hz]; simp [vp_updL]) hS hP (by decide) (by decide) dL_isRight_23
  · rcases hw with ⟨h, _⟩ | ⟨i, hi, hk2, hw2⟩
    · exact absurd h hk
    · rcases (show i = 0 from by have h9 : i < 1 := hi; omega) with rfl
      · have hk3 : kx = 1 := hk2
        rw [hk3, exN_1] at hcl
        refine vx_catch (own := RL) (name := "java/lang/IndexOutOfBoundsException") (E := "java/lang/IndexOutOfBoundsException") hown [] ⟨0, 16, 19, 21⟩ [] htab (fun z hz => by cases hz) (by decide) (by decide) (hts (.classLink RL 21 "java/lang/IndexOutOfBoundsException") cl_isRight_21) (va_Nw.use rfl (ZC_x1 (ZH_C (cI := cI) (cC := cC) hZ))) hce hcv hcl ?_
        refine lv_astore_n (lv' := [(3, .ref q), (0, .ref (E 0)), (1, .int (iI table)), (2, .ref o)]) hx hb dL_isRight_19 rfl hl (by decide) rfl (fun ls hl => ?_)
        refine lv_iconst (v := 1) hx hb dL_isRight_20 (by decide) ?_
        exact hl_end hx hb hr hlocks (by rw [hw2]; exact iI_1) (fun h => absurd h hk) hS hP (by decide) (by decide) dL_isRight_21
theorem cl_phrases_21 : Cond.classLink RL 21 "java/lang/IndexOutOfBoundsException" ∈ wsL_phrases := by decide +kernel
set_option maxHeartbeats 4000000 in
set_option maxRecDepth 100000 in
theorem hX_phrases (l : Launch) (hst : l.stackTraces = false) (D : va_G) (E : Nat → Nat) (cI cC cJ cDD : ClassId) (T : Nat → Nat) (o : Nat) (M : Mem) (table : Int) (h1 : -2147483648 ≤ table ∧ table < 2147483648) (hC : CI M) (hQ : SI M) (kx r : Int) (M' : Mem) (hE : fX8_phrases M table = (kx, r, M')) (w : Int) (hw : AnsL kx [1] w) : Hl l yL_phrases wsL_phrases 8 124 1 [.ref (E 0), .int (iI table), .ref o] D cI cC cJ cDD E o T M kx (iI r).toInt64 M' w := by
  intro f
  refine Hx.of (cc := cL_phrases) (maxL := 4) (ret := some .int) (hh := [(0, 9, 12, 21)]) (by decide +kernel) rfl (Nat.le_of_ble_eq_true rfl) ?_
  intro p e s m args below meth c ls hx hb hml hr hown hts hlocks hP hK hD hZ hS htab hl
  have hl : lv_has ls 4 [(0, .ref (E 0)), (1, .int (iI table)), (2, .ref o)] := hl
  refine lv_aload_n hx hb dL_phrases_0 rfl (lv_at hl 2 rfl) ?_
  refine lv_iconst (v := 0) hx hb dL_phrases_1 (by decide) ?_
  refine lv_aload_n hx hb dL_phrases_2 rfl (lv_at hl 0 rfl) ?_
  refine lv_iload_n hx hb dL_phrases_3 rfl (lv_at hl 1 rfl) ?_
  refine hx_call (rest := [.int 0, .ref o]) (As := [.int (iI table)]) (o := o) ⟨hx, hb, hml, hown, hts⟩ (kX8_phrases l hst D E cI cC T M table h1 hC hQ kx r M' hE) (cwV 1 hts gL_phrases_X8_phrases rfl rfl rfl (by decide +kernel) ⟨Nat.le_of_ble_eq_true rfl, Nat.le_of_ble_eq_true rfl⟩) hK hP hD hS rfl hZ rfl hl.1 rfl (Nat.le_of_ble_eq_true rfl) dL_phrases_4 ⟨by decide, by decide⟩ (fun hk H locs hP hD hS => ?_) (fun hk H locs q ce hP hD hS hce hcv hcl => ?_)
  · refine lv_i2l hx hb dL_phrases_7 rfl ?_
    refine va_last hx hb hK hP hD hS 19 2 (n := 1) rfl rfl vp0 dL_phrases_8 (fun H locs hP hD hS => ?_)
    have hP : va_P D vwCl (VHl E cI cC cJ o M' (vp_updL f (0 : Int32).toNatClampNeg (iI r).toInt64)) H := hP
    refine lv_goto (tgt := 15) hx hb dL_phrases_9 (by decide) ?_
    refine lv_iconst (v := 0) hx hb dL_phrases_15 (by decide) ?_
    exact hl_end hx hb hr hlocks (by rw [AnsL_0 hw (by decide) hk]; exact iI_0) (fun _ => by simp [vp_updL]) hS hP (by decide) (by decide) dL_phrases_16
  · rcases hw with ⟨h, _⟩ | ⟨i, hi, hk2, hw2⟩
    · exact absurd h hk
    · rcases (show i = 0 from by have h9 : i < 1 := hi; omega) with rfl
      · have hk3 : kx = 1 := hk2
        rw [hk3, exN_1] at hcl
        refine vx_catch (own := RL) (name := "java/lang/IndexOutOfBoundsException") (E := "java/lang/IndexOutOfBoundsException") hown [] ⟨0, 9, 12, 21⟩ [] htab (fun z hz => by cases hz) (by decide) (by decide) (hts (.classLink RL 21 "java/lang/IndexOutOfBoundsException") cl_phrases_21) (va_Nw.use rfl (ZC_x1 (ZH_C (cI := cI) (cC := cC) hZ))) hce hcv hcl ?_
        refine lv_astore_n (lv' := [(3, .ref q), (0, .ref (E 0)), (1, .int (iI table)), (2, .ref o)]) hx hb dL_phrases_12 rfl hl (by decide) rfl (fun ls hl => ?_)
        refine lv_iconst (v := 1) hx hb dL_phrases_13 (by decide) ?_
        exact hl_end hx hb hr hlocks (by rw [hw2]; exact iI_1) (fun h => absurd h hk) hS hP (by decide) (by decide) dL_phrases_14
theorem cl_phraseOf_21 : Cond.classLink RL 21 "java/lang/IndexOutOfBoundsException" ∈ wsL_phraseOf := by decide +kernel
theorem cl_phraseOf_54 : Cond.classLink RL 54 "java/util/NoSuchElementException" ∈ wsL_phraseOf := by decide +kernel
theorem cl_phraseOf_13 : Cond.classLink RL 13 "java/lang/IllegalArgumentException" ∈ wsL_phraseOf := by decide +kernel
set_option maxHeartbeats 4000000 in
set_option maxRecDepth 100000 in
theorem hX_phraseOf (l : Launch) (hst : l.stackTraces = false) (D : va_G) (E : Nat → Nat) (cI cC cJ cDD : ClassId) (T : Nat → Nat) (o : Nat) (M : Mem) (table phrase what : Int) (h1 : -2147483648 ≤ table ∧ table < 2147483648) (h2 : -2147483648 ≤ phrase ∧ phrase < 2147483648) (h3 : -2147483648 ≤ what ∧ what < 2147483648) (hC : CI M) (hQ : SI M) (kx r : Int) (M' : Mem) (hE : fX8_phraseOf M table phrase what = (kx, r, M')) (w : Int) (hw : AnsL kx [1, 4, 2] w) : Hl l yL_phraseOf wsL_phraseOf 8 129 2 [.ref (E 0), .int (iI table), .int (iI phrase), .int (iI what), .ref o] D cI cC cJ cDD E o T M kx (iI r).toInt64 M' w := by
  intro f
  refine Hx.of (cc := cL_phraseOf) (maxL := 6) (ret := some .int) (hh := [(0, 12, 15, 21), (0, 12, 19, 54), (0, 12, 23, 13)]) (by decide +kernel) rfl (Nat.le_of_ble_eq_true rfl) ?_
  intro p e s m args below meth c ls hx hb hml hr hown hts hlocks hP hK hD hZ hS htab hl
  have hl : lv_has ls 6 [(0, .ref (E 0)), (1, .int (iI table)), (2, .int (iI phrase)), (3, .int (iI what)), (4, .ref o)] := hl
  refine lv_aload hx hb dL_phraseOf_0 (lv_at hl 4 rfl) ?_
  refine lv_iconst (v := 0) hx hb dL_phraseOf_2 (by decide) ?_
  refine lv_aload_n hx hb dL_phraseOf_3 rfl (lv_at hl 0 rfl) ?_
  refine lv_iload_n hx hb dL_phraseOf_4 rfl (lv_at hl 1 rfl) ?_
  refine lv_iload_n hx hb dL_phraseOf_5 rfl (lv_at hl 2 rfl) ?_
  refine lv_iload_n hx hb dL_phraseOf_6 rfl (lv_at hl 3 rfl) ?_
  refine hx_call (rest := [.int 0, .ref o]) (As := [.int (iI table), .int (iI phrase), .int (iI what)]) (o := o) ⟨hx, hb, hml, hown, hts⟩ (kX8_phraseOf l hst D E cI cC T M table phrase what h1 h2 h3 hC hQ kx r M' hE) (cwV 3 hts gL_phraseOf_X8_phraseOf rfl rfl rfl (by decide +kernel) ⟨Nat.le_of_ble_eq_true rfl, Nat.le_of_ble_eq_true rfl⟩) hK hP hD hS rfl hZ rfl hl.1 rfl (Nat.le_of_ble_eq_true rfl) dL_phraseOf_7 ⟨by decide, by decide⟩ (fun hk H locs hP hD hS => ?_) (fun hk H locs q ce hP hD hS hce hcv hcl => ?_)
  · refine lv_i2l hx hb dL_phraseOf_10 rfl ?_
    refine va_last hx hb hK hP hD hS 19 2 (n := 1) rfl rfl vp0 dL_phraseOf_11 (fun H locs hP hD hS => ?_)
    have hP : va_P D vwCl (VHl E cI cC cJ o M' (vp_updL f (0 : Int32).toNatClampNeg (iI r).toInt64)) H := hP
    refine lv_goto (tgt := 27) hx hb dL_phraseOf_12 (by decide) ?_
    refine lv_iconst (v := 0) hx hb dL_phraseOf_27 (by decide) ?_
    exact hl_end hx hb hr hlocks (by rw [AnsL_0 hw (by decide) hk]; exact iI_0) (fun _ => by simp [vp_updL]) hS hP (by decide) (by decide) dL_phraseOf_28
  · rcases hw with ⟨h, _⟩ | ⟨i, hi, hk2, hw2⟩
    · exact absurd h hk
    · rcases (show i = 0 ∨ i = 1 ∨ i = 2 from by have h9 : i < 3 := hi; omega) with rfl | rfl | rfl
      · have hk3 : kx = 1 := hk2
        rw [hk3, exN_1] at hcl
        refine vx_catch (own := RL) (name := "java/lang/IndexOutOfBoundsException") (E := "java/lang/IndexOutOfBoundsException") hown [] ⟨0, 12, 15, 21⟩ [⟨0, 12, 19, 54⟩, ⟨0, 12, 23, 13⟩] htab (fun z hz => by cases hz) (by decide) (by decide) (hts (.classLink RL 21 "java/lang/IndexOutOfBoundsException") cl_phraseOf_21) (va_Nw.use rfl (ZC_x1 (ZH_C (cI := cI) (cC := cC) hZ))) hce hcv hcl ?_
        refine lv_astore (lv' := [(5, .ref q), (0, .ref (E 0)), (1, .int (iI table)), (2, .int (iI phrase)), (3, .int (iI what)), (4, .ref o)]) hx hb dL_phraseOf_15 hl (by decide) rfl (fun ls hl => ?_)
        refine lv_iconst (v := 1) hx hb dL_phraseOf_17 (by decide) ?_
        exact hl_end hx hb hr hlocks (by rw [hw2]; exact iI_1) (fun h => absurd h hk) hS hP (by decide) (by decide) dL_phraseOf_18
      · have hk3 : kx = 4 := hk2
        rw [hk3, exN_4] at hcl
        refine vx_catch (own := RL) (name := "java/util/NoSuchElementException") (E := "java/util/NoSuchElementException") hown [⟨0, 12, 15, 21⟩] ⟨0, 12, 19, 54⟩ [⟨0, 12, 23, 13⟩] htab (fun z hz => by rcases List.mem_singleton.mp hz with rfl; exact Or.inr ⟨by decide, _, hts (.classLink RL 21 "java/lang/IndexOutOfBoundsException") cl_phraseOf_21, hZ.2.2.2.2.1⟩) (by decide) (by decide) (hts (.classLink RL 54 "java/util/NoSuchElementException") cl_phraseOf_54) (va_Nw.use rfl (ZC_x4 (ZH_C (cI := cI) (cC := cC) hZ))) hce hcv hcl ?_
        refine lv_astore (lv' := [(5, .ref q), (0, .ref (E 0)), (1, .int (iI table)), (2, .int (iI phrase)), (3, .int (iI what)), (4, .ref o)]) hx hb dL_phraseOf_19 hl (by decide) rfl (fun ls hl => ?_)
        refine lv_iconst (v := 2) hx hb dL_phraseOf_21 (by decide) ?_
        exact hl_end hx hb hr hlocks (by rw [hw2]; exact iI_2) (fun h => absurd h hk) hS hP (by decide) (by decide) dL_phraseOf_22
      · have hk3 : kx = 2 := hk2
        rw [hk3, exN_2] at hcl
        refine vx_catch (own := RL) (name := "java/lang/IllegalArgumentException") (E := "java/lang/IllegalArgumentException") hown [⟨0, 12, 15, 21⟩, ⟨0, 12, 19, 54⟩] ⟨0, 12, 23, 13⟩ [] htab (fun z hz => (List.mem_cons.mp hz).elim (fun h => by subst h; exact Or.inr ⟨by decide, _, hts (.classLink RL 21 "java/lang/IndexOutOfBoundsException") cl_phraseOf_21, hZ.2.1⟩) (fun h => by have h := List.mem_singleton.mp h; subst h; exact Or.inr ⟨by decide, _, hts (.classLink RL 54 "java/util/NoSuchElementException") cl_phraseOf_54, hZ.2.2.2.2.2.1⟩)) (by decide) (by decide) (hts (.classLink RL 13 "java/lang/IllegalArgumentException") cl_phraseOf_13) (va_Nw.use rfl (ZC_x2 (ZH_C (cI := cI) (cC := cC) hZ))) hce hcv hcl ?_
        refine lv_astore (lv' := [(5, .ref q), (0, .ref (E 0)), (1, .int (iI table)), (2, .int (iI phrase)), (3, .int (iI what)), (4, .ref o)]) hx hb dL_phraseOf_23 hl (by decide) rfl (fun ls hl => ?_)
        refine lv_iconst (v := 3) hx hb dL_phraseOf_25 (by decide) ?_
        exact hl_end hx hb hr hlocks (by rw [hw2]; exact iI_3) (fun h => absurd h hk) hS hP (by decide) (by decide) dL_phraseOf_26
theorem cl_next_21 : Cond.classLink RL 21 "java/lang/IndexOutOfBoundsException" ∈ wsL_next := by decide +kernel
set_option maxHeartbeats 4000000 in
set_option maxRecDepth 100000 in
theorem hX_next (l : Launch) (hst : l.stackTraces = false) (D : va_G) (E : Nat → Nat) (cI cC cJ cDD : ClassId) (T : Nat → Nat) (o : Nat) (M : Mem) (table : Int) (h1 : -2147483648 ≤ table ∧ table < 2147483648) (hC : CI M) (hQ : SI M) (kx r : Int) (M' : Mem) (hE : fX8_next M table = (kx, r, M')) (w : Int) (hw : AnsL kx [1] w) : Hl l yL_next wsL_next 8 124 1 [.ref (E 0), .int (iI table), .ref o] D cI cC cJ cDD E o T M kx (iI r).toInt64 M' w := by
  intro f
  refine Hx.of (cc := cL_next) (maxL := 4) (ret := some .int) (hh := [(0, 9, 12, 21)]) (by decide +kernel) rfl (Nat.le_of_ble_eq_true rfl) ?_
  intro p e s m args below meth c ls hx hb hml hr hown hts hlocks hP hK hD hZ hS htab hl
  have hl : lv_has ls 4 [(0, .ref (E 0)), (1, .int (iI table)), (2, .ref o)] := hl
  refine lv_aload_n hx hb dL_next_0 rfl (lv_at hl 2 rfl) ?_
  refine lv_iconst (v := 0) hx hb dL_next_1 (by decide) ?_
  refine lv_aload_n hx hb dL_next_2 rfl (lv_at hl 0 rfl) ?_
  refine lv_iload_n hx hb dL_next_3 rfl (lv_at hl 1 rfl) ?_
  refine hx_call (rest := [.int 0, .ref o]) (As := [.int (iI table)]) (o := o) ⟨hx, hb, hml, hown, hts⟩ (kX8_next l hst D E cI cC T M table h1 hC hQ kx r M' hE) (cwV 1 hts gL_next_X8_next rfl rfl rfl (by decide +kernel) ⟨Nat.le_of_ble_eq_true rfl, Nat.le_of_ble_eq_true rfl⟩) hK hP hD hS rfl hZ rfl hl.1 rfl (Nat.le_of_ble_eq_true rfl) dL_next_4 ⟨by decide, by decide⟩ (fun hk H locs hP hD hS => ?_) (fun hk H locs q ce hP hD hS hce hcv hcl => ?_)
  · refine lv_i2l hx hb dL_next_7 rfl ?_
    refine va_last hx hb hK hP hD hS 19 2 (n := 1) rfl rfl vp0 dL_next_8 (fun H locs hP hD hS => ?_)
    have hP : va_P D vwCl (VHl E cI cC cJ o M' (vp_updL f (0 : Int32).toNatClampNeg (iI r).toInt64)) H := hP
    refine lv_goto (tgt := 15) hx hb dL_next_9 (by decide) ?_
    refine lv_iconst (v := 0) hx hb dL_next_15 (by decide) ?_
    exact hl_end hx hb hr hlocks (by rw [AnsL_0 hw (by decide) hk]; exact iI_0) (fun _ => by simp [vp_updL]) hS hP (by decide) (by decide) dL_next_16
  · rcases hw with ⟨h, _⟩ | ⟨i, hi, hk2, hw2⟩
    · exact absurd h hk
    · rcases (show i = 0 from by have h9 : i < 1 := hi; omega) with rfl
      · have hk3 : kx = 1 := hk2
        rw [hk3, exN_1] at hcl
        refine vx_catch (own := RL) (name := "java/lang/IndexOutOfBoundsException") (E := "java/lang/IndexOutOfBoundsException") hown [] ⟨0, 9, 12, 21⟩ [] htab (fun z hz => by cases hz) (by decide) (by decide) (hts (.classLink RL 21 "java/lang/IndexOutOfBoundsException") cl_next_21) (va_Nw.use rfl (ZC_x1 (ZH_C (cI := cI) (cC := cC) hZ))) hce hcv hcl ?_
        refine lv_astore_n (lv' := [(3, .ref q), (0, .ref (E 0)), (1, .int (iI table)), (2, .ref o)]) hx hb dL_next_12 rfl hl (by decide) rfl (fun ls hl => ?_)
        refine lv_iconst (v := 1) hx hb dL_next_13 (by decide) ?_
        exact hl_end hx hb hr hlocks (by rw [hw2]; exact iI_1) (fun h => absurd h hk) hS hP (by decide) (by decide) dL_next_14
