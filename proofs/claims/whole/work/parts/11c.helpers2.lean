/-! The law's helpers, one by one (written by gen11b.py). -/
theorem cl_fewest_21 : Cond.classLink RL 21 "java/lang/IndexOutOfBoundsException" ∈ wsL_fewest := by decide +kernel
theorem cl_fewest_54 : Cond.classLink RL 54 "java/util/NoSuchElementException" ∈ wsL_fewest := by decide +kernel
set_option maxHeartbeats 4000000 in
set_option maxRecDepth 100000 in
theorem hX_fewest (l : Launch) (hst : l.stackTraces = false) (D : va_G) (E : Nat → Nat) (cI cC cJ cDD : ClassId) (T : Nat → Nat) (o : Nat) (M : Mem) (table : Int) (h1 : -2147483648 ≤ table ∧ table < 2147483648) (hC : CI M) (hQ : SI M) (kx r : Int) (M' : Mem) (hE : fX8_fewest M table = (kx, r, M')) (w : Int) (hw : AnsL kx [1, 4] w) : Hl l yL_fewest wsL_fewest 8 125 2 [.ref (E 0), .int (iI table), .ref o] D cI cC cJ cDD E o T M kx (iI r).toInt64 M' w := by
  intro f
  refine Hx.of (cc := cL_fewest) (maxL := 4) (ret := some .int) (hh := [(0, 9, 12, 21), (0, 9, 15, 54)]) (by decide +kernel) rfl (Nat.le_of_ble_eq_true rfl) ?_
  intro p e s m args below meth c ls hx hb hml hr hown hts hlocks hP hK hD hZ hS htab hl
  have hl : lv_has ls 4 [(0, .ref (E 0)), (1, .int (iI table)), (2, .ref o)] := hl
  refine lv_aload_n hx hb dL_fewest_0 rfl (lv_at hl 2 rfl) ?_
  refine lv_iconst (v := 0) hx hb dL_fewest_1 (by decide) ?_
  refine lv_aload_n hx hb dL_fewest_2 rfl (lv_at hl 0 rfl) ?_
  refine lv_iload_n hx hb dL_fewest_3 rfl (lv_at hl 1 rfl) ?_
  refine hx_call (rest := [.int 0, .ref o]) (As := [.int (iI table)]) (o := o) ⟨hx, hb, hml, hown, hts⟩ (kX8_fewest l hst D E cI cC T M table h1 hC hQ kx r M' hE) (cwV 1 hts gL_fewest_X8_fewest rfl rfl rfl (by decide +kernel) ⟨Nat.le_of_ble_eq_true rfl, Nat.le_of_ble_eq_true rfl⟩) hK hP hD hS rfl hZ rfl hl.1 rfl (Nat.le_of_ble_eq_true rfl) dL_fewest_4 ⟨by decide, by decide⟩ (fun hk H locs hP hD hS => ?_) (fun hk H locs q ce hP hD hS hce hcv hcl => ?_)
  · refine lv_i2l hx hb dL_fewest_7 rfl ?_
    refine va_last hx hb hK hP hD hS 19 2 (n := 1) rfl rfl vp0 dL_fewest_8 (fun H locs hP hD hS => ?_)
    have hP : va_P D vwCl (VHl E cI cC cJ o M' (vp_updL f (0 : Int32).toNatClampNeg (iI r).toInt64)) H := hP
    refine lv_goto (tgt := 18) hx hb dL_fewest_9 (by decide) ?_
    refine lv_iconst (v := 0) hx hb dL_fewest_18 (by decide) ?_
    exact hl_end hx hb hr hlocks (by rw [AnsL_0 hw (by decide) hk]; exact iI_0) (fun _ => by simp [vp_updL]) hS hP (by decide) (by decide) dL_fewest_19
  · rcases hw with ⟨h, _⟩ | ⟨i, hi, hk2, hw2⟩
    · exact absurd h hk
    · rcases (show i = 0 ∨ i = 1 from by have h9 : i < 2 := hi; omega) with rfl | rfl
      · have hk3 : kx = 1 := hk2
        rw [hk3, exN_1] at hcl
        refine vx_catch (own := RL) (name := "java/lang/IndexOutOfBoundsException") (E := "java/lang/IndexOutOfBoundsException") hown [] ⟨0, 9, 12, 21⟩ [⟨0, 9, 15, 54⟩] htab (fun z hz => by cases hz) (by decide) (by decide) (hts (.classLink RL 21 "java/lang/IndexOutOfBoundsException") cl_fewest_21) (va_Nw.use rfl (ZC_x1 (ZH_C (cI := cI) (cC := cC) hZ))) hce hcv hcl ?_
        refine lv_astore_n (lv' := [(3, .ref q), (0, .ref (E 0)), (1, .int (iI table)), (2, .ref o)]) hx hb dL_fewest_12 rfl hl (by decide) rfl (fun ls hl => ?_)
        refine lv_iconst (v := 1) hx hb dL_fewest_13 (by decide) ?_
        exact hl_end hx hb hr hlocks (by rw [hw2]; exact iI_1) (fun h => absurd h hk) hS hP (by decide) (by decide) dL_fewest_14
      · have hk3 : kx = 4 := hk2
        rw [hk3, exN_4] at hcl
        refine vx_catch (own := RL) (name := "java/util/NoSuchElementException") (E := "java/util/NoSuchElementException") hown [⟨0, 9, 12, 21⟩] ⟨0, 9, 15, 54⟩ [] htab (fun z hz => by rcases List.mem_singleton.mp hz with rfl; exact Or.inr ⟨by decide, _, hts (.classLink RL 21 "java/lang/IndexOutOfBoundsException") cl_fewest_21, hZ.2.2.2.2.1⟩) (by decide) (by decide) (hts (.classLink RL 54 "java/util/NoSuchElementException") cl_fewest_54) (va_Nw.use rfl (ZC_x4 (ZH_C (cI := cI) (cC := cC) hZ))) hce hcv hcl ?_
        refine lv_astore_n (lv' := [(3, .ref q), (0, .ref (E 0)), (1, .int (iI table)), (2, .ref o)]) hx hb dL_fewest_15 rfl hl (by decide) rfl (fun ls hl => ?_)
        refine lv_iconst (v := 2) hx hb dL_fewest_16 (by decide) ?_
        exact hl_end hx hb hr hlocks (by rw [hw2]; exact iI_2) (fun h => absurd h hk) hS hP (by decide) (by decide) dL_fewest_17
theorem cl_fewestAgain_21 : Cond.classLink RL 21 "java/lang/IndexOutOfBoundsException" ∈ wsL_fewestAgain := by decide +kernel
theorem cl_fewestAgain_54 : Cond.classLink RL 54 "java/util/NoSuchElementException" ∈ wsL_fewestAgain := by decide +kernel
set_option maxHeartbeats 4000000 in
set_option maxRecDepth 100000 in
theorem hX_fewestAgain (l : Launch) (hst : l.stackTraces = false) (D : va_G) (E : Nat → Nat) (cI cC cJ cDD : ClassId) (T : Nat → Nat) (o : Nat) (M : Mem) (table : Int) (h1 : -2147483648 ≤ table ∧ table < 2147483648) (hC : CI M) (hQ : SI M) (kx r : Int) (M' : Mem) (hE : fX8_fewestAgain M table = (kx, r, M')) (w : Int) (hw : AnsL kx [1, 4] w) : Hl l yL_fewestAgain wsL_fewestAgain 8 125 2 [.ref (E 0), .int (iI table), .ref o] D cI cC cJ cDD E o T M kx (iI r).toInt64 M' w := by
  intro f
  refine Hx.of (cc := cL_fewestAgain) (maxL := 4) (ret := some .int) (hh := [(0, 9, 12, 21), (0, 9, 15, 54)]) (by decide +kernel) rfl (Nat.le_of_ble_eq_true rfl) ?_
  intro p e s m args below meth c ls hx hb hml hr hown hts hlocks hP hK hD hZ hS htab hl
  have hl : lv_has ls 4 [(0, .ref (E 0)), (1, .int (iI table)), (2, .ref o)] := hl
  refine lv_aload_n hx hb dL_fewestAgain_0 rfl (lv_at hl 2 rfl) ?_
  refine lv_iconst (v := 0) hx hb dL_fewestAgain_1 (by decide) ?_
  refine lv_aload_n hx hb dL_fewestAgain_2 rfl (lv_at hl 0 rfl) ?_
  refine lv_iload_n hx hb dL_fewestAgain_3 rfl (lv_at hl 1 rfl) ?_
  refine hx_call (rest := [.int 0, .ref o]) (As := [.int (iI table)]) (o := o) ⟨hx, hb, hml, hown, hts⟩ (kX8_fewestAgain l hst D E cI cC T M table h1 hC hQ kx r M' hE) (cwV 1 hts gL_fewestAgain_X8_fewestAgain rfl rfl rfl (by decide +kernel) ⟨Nat.le_of_ble_eq_true rfl, Nat.le_of_ble_eq_true rfl⟩) hK hP hD hS rfl hZ rfl hl.1 rfl (Nat.le_of_ble_eq_true rfl) dL_fewestAgain_4 ⟨by decide, by decide⟩ (fun hk H locs hP hD hS => ?_) (fun hk H locs q ce hP hD hS hce hcv hcl => ?_)
  · refine lv_i2l hx hb dL_fewestAgain_7 rfl ?_
    refine va_last hx hb hK hP hD hS 19 2 (n := 1) rfl rfl vp0 dL_fewestAgain_8 (fun H locs hP hD hS => ?_)
    have hP : va_P D vwCl (VHl E cI cC cJ o M' (vp_updL f (0 : Int32).toNatClampNeg (iI r).toInt64)) H := hP
    refine lv_goto (tgt := 18) hx hb dL_fewestAgain_9 (by decide) ?_
    refine lv_iconst (v := 0) hx hb dL_fewestAgain_18 (by decide) ?_
    exact hl_end hx hb hr hlocks (by rw [AnsL_0 hw (by decide) hk]; exact iI_0) (fun _ => by simp [vp_updL]) hS hP (by decide) (by decide) dL_fewestAgain_19
  · rcases hw with ⟨h, _⟩ | ⟨i, hi, hk2, hw2⟩
    · exact absurd h hk
    · rcases (show i = 0 ∨ i = 1 from by have h9 : i < 2 := hi; omega) with rfl | rfl
      · have hk3 : kx = 1 := hk2
        rw [hk3, exN_1] at hcl
        refine vx_catch (own := RL) (name := "java/lang/IndexOutOfBoundsException") (E := "java/lang/IndexOutOfBoundsException") hown [] ⟨0, 9, 12, 21⟩ [⟨0, 9, 15, 54⟩] htab (fun z hz => by cases hz) (by decide) (by decide) (hts (.classLink RL 21 "java/lang/IndexOutOfBoundsException") cl_fewestAgain_21) (va_Nw.use rfl (ZC_x1 (ZH_C (cI := cI) (cC := cC) hZ))) hce hcv hcl ?_
        refine lv_astore_n (lv' := [(3, .ref q), (0, .ref (E 0)), (1, .int (iI table)), (2, .ref o)]) hx hb dL_fewestAgain_12 rfl hl (by decide) rfl (fun ls hl => ?_)
        refine lv_iconst (v := 1) hx hb dL_fewestAgain_13 (by decide) ?_
        exact hl_end hx hb hr hlocks (by rw [hw2]; exact iI_1) (fun h => absurd h hk) hS hP (by decide) (by decide) dL_fewestAgain_14
      · have hk3 : kx = 4 := hk2
        rw [hk3, exN_4] at hcl
        refine vx_catch (own := RL) (name := "java/util/NoSuchElementException") (E := "java/util/NoSuchElementException") hown [⟨0, 9, 12, 21⟩] ⟨0, 9, 15, 54⟩ [] htab (fun z hz => by rcases List.mem_singleton.mp hz with rfl; exact Or.inr ⟨by decide, _, hts (.classLink RL 21 "java/lang/IndexOutOfBoundsException") cl_fewestAgain_21, hZ.2.2.2.2.1⟩) (by decide) (by decide) (hts (.classLink RL 54 "java/util/NoSuchElementException") cl_fewestAgain_54) (va_Nw.use rfl (ZC_x4 (ZH_C (cI := cI) (cC := cC) hZ))) hce hcv hcl ?_
        refine lv_astore_n (lv' := [(3, .ref q), (0, .ref (E 0)), (1, .int (iI table)), (2, .ref o)]) hx hb dL_fewestAgain_15 rfl hl (by decide) rfl (fun ls hl => ?_)
        refine lv_iconst (v := 2) hx hb dL_fewestAgain_16 (by decide) ?_
        exact hl_end hx hb hr hlocks (by rw [hw2]; exact iI_2) (fun h => absurd h hk) hS hP (by decide) (by decide) dL_fewestAgain_17
theorem cl_doubt_21 : Cond.classLink RL 21 "java/lang/IndexOutOfBoundsException" ∈ wsL_doubt := by decide +kernel
set_option maxHeartbeats 4000000 in
set_option maxRecDepth 100000 in
theorem hX_doubt (l : Launch) (hst : l.stackTraces = false) (D : va_G) (E : Nat → Nat) (cI cC cJ cDD : ClassId) (T : Nat → Nat) (o : Nat) (M : Mem) (table : Int) (h1 : -2147483648 ≤ table ∧ table < 2147483648) (hC : CI M) (hQ : SI M) (kx r : Int) (M' : Mem) (hE : fX8_doubt M table = (kx, r, M')) (w : Int) (hw : AnsL kx [1] w) : Hl l yL_doubt wsL_doubt 8 124 1 [.ref (E 0), .int (iI table), .ref o] D cI cC cJ cDD E o T M kx (iI r).toInt64 M' w := by
  intro f
  refine Hx.of (cc := cL_doubt) (maxL := 4) (ret := some .int) (hh := [(0, 9, 12, 21)]) (by decide +kernel) rfl (Nat.le_of_ble_eq_true rfl) ?_
  intro p e s m args below meth c ls hx hb hml hr hown hts hlocks hP hK hD hZ hS htab hl
  have hl : lv_has ls 4 [(0, .ref (E 0)), (1, .int (iI table)), (2, .ref o)] := hl
  refine lv_aload_n hx hb dL_doubt_0 rfl (lv_at hl 2 rfl) ?_
  refine lv_iconst (v := 0) hx hb dL_doubt_1 (by decide) ?_
  refine lv_aload_n hx hb dL_doubt_2 rfl (lv_at hl 0 rfl) ?_
  refine lv_iload_n hx hb dL_doubt_3 rfl (lv_at hl 1 rfl) ?_
  refine hx_call (rest := [.int 0, .ref o]) (As := [.int (iI table)]) (o := o) ⟨hx, hb, hml, hown, hts⟩ (kX8_doubt l hst D E cI cC T M table h1 hC hQ kx r M' hE) (cwV 1 hts gL_doubt_X8_doubt rfl rfl rfl (by decide +kernel) ⟨Nat.le_of_ble_eq_true rfl, Nat.le_of_ble_eq_true rfl⟩) hK hP hD hS rfl hZ rfl hl.1 rfl (Nat.le_of_ble_eq_true rfl) dL_doubt_4 ⟨by decide, by decide⟩ (fun hk H locs hP hD hS => ?_) (fun hk H locs q ce hP hD hS hce hcv hcl => ?_)
  · refine lv_i2l hx hb dL_doubt_7 rfl ?_
    refine va_last hx hb hK hP hD hS 19 2 (n := 1) rfl rfl vp0 dL_doubt_8 (fun H locs hP hD hS => ?_)
    have hP : va_P D vwCl (VHl E cI cC cJ o M' (vp_updL f (0 : Int32).toNatClampNeg (iI r).toInt64)) H := hP
    refine lv_goto (tgt := 15) hx hb dL_doubt_9 (by decide) ?_
    refine lv_iconst (v := 0) hx hb dL_doubt_15 (by decide) ?_
    exact hl_end hx hb hr hlocks (by rw [AnsL_0 hw (by decide) hk]; exact iI_0) (fun _ => by simp [vp_updL]) hS hP (by decide) (by decide) dL_doubt_16
  · rcases hw with ⟨h, _⟩ | ⟨i, hi, hk2, hw2⟩
    · exact absurd h hk
    · rcases (show i = 0 from by have h9 : i < 1 := hi; omega) with rfl
      · have hk3 : kx = 1 := hk2
        rw [hk3, exN_1] at hcl
        refine vx_catch (own := RL) (name := "java/lang/IndexOutOfBoundsException") (E := "java/lang/IndexOutOfBoundsException") hown [] ⟨0, 9, 12, 21⟩ [] htab (fun z hz => by cases hz) (by decide) (by decide) (hts (.classLink RL 21 "java/lang/IndexOutOfBoundsException") cl_doubt_21) (va_Nw.use rfl (ZC_x1 (ZH_C (cI := cI) (cC := cC) hZ))) hce hcv hcl ?_
        refine lv_astore_n (lv' := [(3, .ref q), (0, .ref (E 0)), (1, .int (iI table)), (2, .ref o)]) hx hb dL_doubt_12 rfl hl (by decide) rfl (fun ls hl => ?_)
        refine lv_iconst (v := 1) hx hb dL_doubt_13 (by decide) ?_
        exact hl_end hx hb hr hlocks (by rw [hw2]; exact iI_1) (fun h => absurd h hk) hS hP (by decide) (by decide) dL_doubt_14
theorem cl_doubtAgain_21 : Cond.classLink RL 21 "java/lang/IndexOutOfBoundsException" ∈ wsL_doubtAgain := by decide +kernel
set_option maxHeartbeats 4000000 in
set_option maxRecDepth 100000 in
theorem hX_doubtAgain (l : Launch) (hst : l.stackTraces = false) (D : va_G) (E : Nat → Nat) (cI cC cJ cDD : ClassId) (T : Nat → Nat) (o : Nat) (M : Mem) (table : Int) (h1 : -2147483648 ≤ table ∧ table < 2147483648) (hC : CI M) (hQ : SI M) (kx r : Int) (M' : Mem) (hE : fX8_doubtAgain M table = (kx, r, M')) (w : Int) (hw : AnsL kx [1] w) : Hl l yL_doubtAgain wsL_doubtAgain 8 124 1 [.ref (E 0), .int (iI table), .ref o] D cI cC cJ cDD E o T M kx (iI r).toInt64 M' w := by
  intro f
  refine Hx.of (cc := cL_doubtAgain) (maxL := 4) (ret := some .int) (hh := [(0, 9, 12, 21)]) (by decide +kernel) rfl (Nat.le_of_ble_eq_true rfl) ?_
  intro p e s m args below meth c ls hx hb hml hr hown hts hlocks hP hK hD hZ hS htab hl
  have hl : lv_has ls 4 [(0, .ref (E 0)), (1, .int (iI table)), (2, .ref o)] := hl
  refine lv_aload_n hx hb dL_doubtAgain_0 rfl (lv_at hl 2 rfl) ?_
  refine lv_iconst (v := 0) hx hb dL_doubtAgain_1 (by decide) ?_
  refine lv_aload_n hx hb dL_doubtAgain_2 rfl (lv_at hl 0 rfl) ?_
  refine lv_iload_n hx hb dL_doubtAgain_3 rfl (lv_at hl 1 rfl) ?_
  refine hx_call (rest := [.int 0, .ref o]) (As := [.int (iI table)]) (o := o) ⟨hx, hb, hml, hown, hts⟩ (kX8_doubtAgain l hst D E cI cC T M table h1 hC hQ kx r M' hE) (cwV 1 hts gL_doubtAgain_X8_doubtAgain rfl rfl rfl (by decide +kernel) ⟨Nat.le_of_ble_eq_true rfl, Nat.le_of_ble_eq_true rfl⟩) hK hP hD hS rfl hZ rfl hl.1 rfl (Nat.le_of_ble_eq_true rfl) dL_doubtAgain_4 ⟨by decide, by decide⟩ (fun hk H locs hP hD hS => ?_) (fun hk H locs q ce hP hD hS hce hcv hcl => ?_)
  · refine lv_i2l hx hb dL_doubtAgain_7 rfl ?_
    refine va_last hx hb hK hP hD hS 19 2 (n := 1) rfl rfl vp0 dL_doubtAgain_8 (fun H locs hP hD hS => ?_)
    have hP : va_P D vwCl (VHl E cI cC cJ o M' (vp_updL f (0 : Int32).toNatClampNeg (iI r).toInt64)) H := hP
    refine lv_goto (tgt := 15) hx hb dL_doubtAgain_9 (by decide) ?_
    refine lv_iconst (v := 0) hx hb dL_doubtAgain_15 (by decide) ?_
    exact hl_end hx hb hr hlocks (by rw [AnsL_0 hw (by decide) hk]; exact iI_0) (fun _ => by simp [vp_updL]) hS hP (by decide) (by decide) dL_doubtAgain_16
  · rcases hw with ⟨h, _⟩ | ⟨i, hi, hk2, hw2⟩
    · exact absurd h hk
    · rcases (show i = 0 from by have h9 : i < 1 := hi; omega) with rfl
      · have hk3 : kx = 1 := hk2
        rw [hk3, exN_1] at hcl
        refine vx_catch (own := RL) (name := "java/lang/IndexOutOfBoundsException") (E := "java/lang/IndexOutOfBoundsException") hown [] ⟨0, 9, 12, 21⟩ [] htab (fun z hz => by cases hz) (by decide) (by decide) (hts (.classLink RL 21 "java/lang/IndexOutOfBoundsException") cl_doubtAgain_21) (va_Nw.use rfl (ZC_x1 (ZH_C (cI := cI) (cC := cC) hZ))) hce hcv hcl ?_
        refine lv_astore_n (lv' := [(3, .ref q), (0, .ref (E 0)), (1, .int (iI table)), (2, .ref o)]) hx hb dL_doubtAgain_12 rfl hl (by decide) rfl (fun ls hl => ?_)
        refine lv_iconst (v := 1) hx hb dL_doubtAgain_13 (by decide) ?_
        exact hl_end hx hb hr hlocks (by rw [hw2]; exact iI_1) (fun h => absurd h hk) hS hP (by decide) (by decide) dL_doubtAgain_14
theorem cl_sure_21 : Cond.classLink RL 21 "java/lang/IndexOutOfBoundsException" ∈ wsL_sure := by decide +kernel
theorem cl_sure_93 : Cond.classLink RL 93 "java/lang/ArithmeticException" ∈ wsL_sure := by decide +kernel
set_option maxHeartbeats 4000000 in
set_option maxRecDepth 100000 in
theorem hX_sure (l : Launch) (hst : l.stackTraces = false) (D : va_G) (E : Nat → Nat) (cI cC cJ cDD : ClassId) (T : Nat → Nat) (o : Nat) (M : Mem) (table : Int) (h1 : -2147483648 ≤ table ∧ table < 2147483648) (hC : CI M) (hQ : SI M) (kx r : Int) (M' : Mem) (hE : fX8_sure M table = (kx, r, M')) (w : Int) (hw : AnsL kx [1, 6] w) : Hl l yL_sure wsL_sure 8 127 2 [.ref (E 0), .int (iI table), .ref o] D cI cC cJ cDD E o T M kx (iI r).toInt64 M' w := by
  intro f
  refine Hx.of (cc := cL_sure) (maxL := 4) (ret := some .int) (hh := [(0, 9, 12, 21), (0, 9, 15, 93)]) (by decide +kernel) rfl (Nat.le_of_ble_eq_true rfl) ?_
  intro p e s m args below meth c ls hx hb hml hr hown hts hlocks hP hK hD hZ hS htab hl
  have hl : lv_has ls 4 [(0, .ref (E 0)), (1, .int (iI table)), (2, .ref o)] := hl
  refine lv_aload_n hx hb dL_sure_0 rfl (lv_at hl 2 rfl) ?_
  refine lv_iconst (v := 0) hx hb dL_sure_1 (by decide) ?_
  refine lv_aload_n hx hb dL_sure_2 rfl (lv_at hl 0 rfl) ?_
  refine lv_iload_n hx hb dL_sure_3 rfl (lv_at hl 1 rfl) ?_
  refine hx_call (rest := [.int 0, .ref o]) (As := [.int (iI table)]) (o := o) ⟨hx, hb, hml, hown, hts⟩ (kX8_sure l hst D E cI cC T M table h1 hC hQ kx r M' hE) (cwV 1 hts gL_sure_X8_sure rfl rfl rfl (by decide +kernel) ⟨Nat.le_of_ble_eq_true rfl, Nat.le_of_ble_eq_true rfl⟩) hK hP hD hS rfl hZ rfl hl.1 rfl (Nat.le_of_ble_eq_true rfl) dL_sure_4 ⟨by decide, by decide⟩ (fun hk H locs hP hD hS => ?_) (fun hk H locs q ce hP hD hS hce hcv hcl => ?_)
  · refine lv_i2l hx hb dL_sure_7 rfl ?_
    refine va_last hx hb hK hP hD hS 19 2 (n := 1) rfl rfl vp0 dL_sure_8 (fun H locs hP hD hS => ?_)
    have hP : va_P D vwCl (VHl E cI cC cJ o M' (vp_updL f (0 : Int32).toNatClampNeg (iI r).toInt64)) H := hP
    refine lv_goto (tgt := 18) hx hb dL_sure_9 (by decide) ?_
    refine lv_iconst (v := 0) hx hb dL_sure_18 (by decide) ?_
    exact hl_end hx hb hr hlocks (by rw [AnsL_0 hw (by decide) hk]; exact iI_0) (fun _ => by simp [vp_updL]) hS hP (by decide) (by decide) dL_sure_19
  · rcases hw with ⟨h, _⟩ | ⟨i, hi, hk2, hw2⟩
    · exact absurd h hk
    · rcases (show i = 0 ∨ i = 1 from by have h9 : i < 2 := hi; omega) with rfl | rfl
      · have hk3 : kx = 1 := hk2
        rw [hk3, exN_1] at hcl
        refine vx_catch (own := RL) (name := "java/lang/IndexOutOfBoundsException") (E := "java/lang/IndexOutOfBoundsException") hown [] ⟨0, 9, 12, 21⟩ [⟨0, 9, 15, 93⟩] htab (fun z hz => by cases hz) (by decide) (by decide) (hts (.classLink RL 21 "java/lang/IndexOutOfBoundsException") cl_sure_21) (va_Nw.use rfl (ZC_x1 (ZH_C (cI := cI) (cC := cC) hZ))) hce hcv hcl ?_
        refine lv_astore_n (lv' := [(3, .ref q), (0, .ref (E 0)), (1, .int (iI table)), (2, .ref o)]) hx hb dL_sure_12 rfl hl (by decide) rfl (fun ls hl => ?_)
        refine lv_iconst (v := 1) hx hb dL_sure_13 (by decide) ?_
        exact hl_end hx hb hr hlocks (by rw [hw2]; exact iI_1) (fun h => absurd h hk) hS hP (by decide) (by decide) dL_sure_14
      · have hk3 : kx = 6 := hk2
        rw [hk3, exN_6] at hcl
        refine vx_catch (own := RL) (name := "java/lang/ArithmeticException") (E := "java/lang/ArithmeticException") hown [⟨0, 9, 12, 21⟩] ⟨0, 9, 15, 93⟩ [] htab (fun z hz => by rcases List.mem_singleton.mp hz with rfl; exact Or.inr ⟨by decide, _, hts (.classLink RL 21 "java/lang/IndexOutOfBoundsException") cl_sure_21, hZ.2.2.2.2.2.2⟩) (by decide) (by decide) (hts (.classLink RL 93 "java/lang/ArithmeticException") cl_sure_93) (va_Nw.use rfl (ZC_x6 (ZH_C (cI := cI) (cC := cC) hZ))) hce hcv hcl ?_
        refine lv_astore_n (lv' := [(3, .ref q), (0, .ref (E 0)), (1, .int (iI table)), (2, .ref o)]) hx hb dL_sure_15 rfl hl (by decide) rfl (fun ls hl => ?_)
        refine lv_iconst (v := 2) hx hb dL_sure_16 (by decide) ?_
        exact hl_end hx hb hr hlocks (by rw [hw2]; exact iI_2) (fun h => absurd h hk) hS hP (by decide) (by decide) dL_sure_17
theorem cl_clearest_54 : Cond.classLink RL 54 "java/util/NoSuchElementException" ∈ wsL_clearest := by decide +kernel
set_option maxHeartbeats 4000000 in
set_option maxRecDepth 100000 in
theorem hX_clearest (l : Launch) (hst : l.stackTraces = false) (D : va_G) (E : Nat → Nat) (cI cC cJ cDD : ClassId) (T : Nat → Nat) (o : Nat) (M : Mem) (place : Int) (h1 : -2147483648 ≤ place ∧ place < 2147483648) (hC : CI M) (hQ : SI M) (kx r : Int) (M' : Mem) (hE : fX8_clearest M place = (kx, r, M')) (w : Int) (hw : AnsL kx [4] w) : Hl l yL_clearest wsL_clearest 7 159 1 [.ref (E 0), .int (iI place), .ref o] D cI cC cJ cDD E o T M kx (iI r).toInt64 M' w := by
  intro f
  refine Hx.of (cc := cL_clearest) (maxL := 4) (ret := some .int) (hh := [(0, 9, 12, 54)]) (by decide +kernel) rfl (Nat.le_of_ble_eq_true rfl) ?_
  intro p e s m args below meth c ls hx hb hml hr hown hts hlocks hP hK hD hZ hS htab hl
  have hl : lv_has ls 4 [(0, .ref (E 0)), (1, .int (iI place)), (2, .ref o)] := hl
  refine lv_aload_n hx hb dL_clearest_0 rfl (lv_at hl 2 rfl) ?_
  refine lv_iconst (v := 0) hx hb dL_clearest_1 (by decide) ?_
  refine lv_aload_n hx hb dL_clearest_2 rfl (lv_at hl 0 rfl) ?_
  refine lv_iload_n hx hb dL_clearest_3 rfl (lv_at hl 1 rfl) ?_
  refine hx_call (rest := [.int 0, .ref o]) (As := [.int (iI place)]) (o := o) ⟨hx, hb, hml, hown, hts⟩ (kX8_clearest l hst D E cI cC T M place h1 hC hQ kx r M' hE) (cwV 1 hts gL_clearest_X8_clearest rfl rfl rfl (by decide +kernel) ⟨Nat.le_of_ble_eq_true rfl, Nat.le_of_ble_eq_true rfl⟩) hK hP hD hS rfl hZ rfl hl.1 rfl (Nat.le_of_ble_eq_true rfl) dL_clearest_4 ⟨by decide, by decide⟩ (fun hk H locs hP hD hS => ?_) (fun hk H locs q ce hP hD hS hce hcv hcl => ?_)
  · refine lv_i2l hx hb dL_clearest_7 rfl ?_
    refine va_last hx hb hK hP hD hS 19 2 (n := 1) rfl rfl vp0 dL_clearest_8 (fun H locs hP hD hS => ?_)
    have hP : va_P D vwCl (VHl E cI cC cJ o M' (vp_updL f (0 : Int32).toNatClampNeg (iI r).toInt64)) H := hP
    refine lv_goto (tgt := 15) hx hb dL_clearest_9 (by decide) ?_
    refine lv_iconst (v := 0) hx hb dL_clearest_15 (by decide) ?_
    exact hl_end hx hb hr hlocks (by rw [AnsL_0 hw (by decide) hk]; exact iI_0) (fun _ => by simp [vp_updL]) hS hP (by decide) (by decide) dL_clearest_16
  · rcases hw with ⟨h, _⟩ | ⟨i, hi, hk2, hw2⟩
    · exact absurd h hk
    · rcases (show i = 0 from by have h9 : i < 1 := hi; omega) with rfl
      · have hk3 : kx = 4 := hk2
        rw [hk3, exN_4] at hcl
        refine vx_catch (own := RL) (name := "java/util/NoSuchElementException") (E := "java/util/NoSuchElementException") hown [] ⟨0, 9, 12, 54⟩ [] htab (fun z hz => by cases hz) (by decide) (by decide) (hts (.classLink RL 54 "java/util/NoSuchElementException") cl_clearest_54) (va_Nw.use rfl (ZC_x4 (ZH_C (cI := cI) (cC := cC) hZ))) hce hcv hcl ?_
        refine lv_astore_n (lv' := [(3, .ref q), (0, .ref (E 0)), (1, .int (iI place)), (2, .ref o)]) hx hb dL_clearest_12 rfl hl (by decide) rfl (fun ls hl => ?_)
        refine lv_iconst (v := 1) hx hb dL_clearest_13 (by decide) ?_
        exact hl_end hx hb hr hlocks (by rw [hw2]; exact iI_1) (fun h => absurd h hk) hS hP (by decide) (by decide) dL_clearest_14
theorem cl_worn_54 : Cond.classLink RL 54 "java/util/NoSuchElementException" ∈ wsL_worn := by decide +kernel
set_option maxHeartbeats 4000000 in
set_option maxRecDepth 100000 in
theorem hX_worn (l : Launch) (hst : l.stackTraces = false) (D : va_G) (E : Nat → Nat) (cI cC cJ cDD : ClassId) (T : Nat → Nat) (o : Nat) (M : Mem) (place : Int) (h1 : -2147483648 ≤ place ∧ place < 2147483648) (hC : CI M) (kx r : Int) (hE : fX8_worn M place = (kx, r)) (w : Int) (hw : AnsL kx [4] w) : Hl l yL_worn wsL_worn 7 110 1 [.ref (E 0), .int (iI place), .ref o] D cI cC cJ cDD E o T M kx (iI r).toInt64 M w := by
  intro f
  refine Hx.of (cc := cL_worn) (maxL := 4) (ret := some .int) (hh := [(0, 9, 12, 54)]) (by decide +kernel) rfl (Nat.le_of_ble_eq_true rfl) ?_
  intro p e s m args below meth c ls hx hb hml hr hown hts hlocks hP hK hD hZ hS htab hl
  have hl : lv_has ls 4 [(0, .ref (E 0)), (1, .int (iI place)), (2, .ref o)] := hl
  refine lv_aload_n hx hb dL_worn_0 rfl (lv_at hl 2 rfl) ?_
  refine lv_iconst (v := 0) hx hb dL_worn_1 (by decide) ?_
  refine lv_aload_n hx hb dL_worn_2 rfl (lv_at hl 0 rfl) ?_
  refine lv_iload_n hx hb dL_worn_3 rfl (lv_at hl 1 rfl) ?_
  refine hx_call (rest := [.int 0, .ref o]) (As := [.int (iI place)]) (o := o) ⟨hx, hb, hml, hown, hts⟩ (kX8_worn l hst D E cI cC T M place h1 hC kx r hE) (cwV 1 hts gL_worn_X8_worn rfl rfl rfl (by decide +kernel) ⟨Nat.le_of_ble_eq_true rfl, Nat.le_of_ble_eq_true rfl⟩) hK hP hD hS rfl hZ rfl hl.1 rfl (Nat.le_of_ble_eq_true rfl) dL_worn_4 ⟨by decide, by decide⟩ (fun hk H locs hP hD hS => ?_) (fun hk H locs q ce hP hD hS hce hcv hcl => ?_)
  · refine lv_i2l hx hb dL_worn_7 rfl ?_
    refine va_last hx hb hK hP hD hS 19 2 (n := 1) rfl rfl vp0 dL_worn_8 (fun H locs hP hD hS => ?_)
    have hP : va_P D vwCl (VHl E cI cC cJ o M (vp_updL f (0 : Int32).toNatClampNeg (iI r).toInt64)) H := hP
    refine lv_goto (tgt := 15) hx hb dL_worn_9 (by decide) ?_
    refine lv_iconst (v := 0) hx hb dL_worn_15 (by decide) ?_
    exact hl_end hx hb hr hlocks (by rw [AnsL_0 hw (by decide) hk]; exact iI_0) (fun _ => by simp [vp_updL]) hS hP (by decide) (by decide) dL_worn_16
  · rcases hw with ⟨h, _⟩ | ⟨i, hi, hk2, hw2⟩
    · exact absurd h hk
    · rcases (show i = 0 from by have h9 : i < 1 := hi; omega) with rfl
      · have hk3 : kx = 4 := hk2
        rw [hk3, exN_4] at hcl
        refine vx_catch (own := RL) (name := "java/util/NoSuchElementException") (E := "java/util/NoSuchElementException") hown [] ⟨0, 9, 12, 54⟩ [] htab (fun z hz => by cases hz) (by decide) (by decide) (hts (.classLink RL 54 "java/util/NoSuchElementException") cl_worn_54) (va_Nw.use rfl (ZC_x4 (ZH_C (cI := cI) (cC := cC) hZ))) hce hcv hcl ?_
        refine lv_astore_n (lv' := [(3, .ref q), (0, .ref (E 0)), (1, .int (iI place)), (2, .ref o)]) hx hb dL_worn_12 rfl hl (by decide) rfl (fun ls hl => ?_)
        refine lv_iconst (v := 1) hx hb dL_worn_13 (by decide) ?_
        exact hl_end hx hb hr hlocks (by rw [hw2]; exact iI_1) (fun h => absurd h hk) hS hP (by decide) (by decide) dL_worn_14
theorem cl_type_105 : Cond.classLink RL 105 "java/lang/IllegalStateException" ∈ wsL_type := by decide +kernel
set_option maxHeartbeats 4000000 in
set_option maxRecDepth 100000 in
theorem hX_type (l : Launch) (hst : l.stackTraces = false) (D : va_G) (E : Nat → Nat) (cI cC cJ cDD : ClassId) (T : Nat → Nat) (o : Nat) (M : Mem) (character : Int) (h1 : 0 ≤ character ∧ character < 65536) (hT : TI M) (kx r : Int) (M' : Mem) (hE : fX8_type M character = (kx, r, M')) (w : Int) (hw : AnsL kx [5] w) : Hl l yL_type wsL_type 7 103 1 [.ref (E 0), .int (iI character), .ref o] D cI cC cJ cDD E o T M kx (iI r).toInt64 M' w := by
  intro f
  refine Hx.of (cc := cL_type) (maxL := 4) (ret := some .int) (hh := [(0, 9, 12, 105)]) (by decide +kernel) rfl (Nat.le_of_ble_eq_true rfl) ?_
  intro p e s m args below meth c ls hx hb hml hr hown hts hlocks hP hK hD hZ hS htab hl
  have hl : lv_has ls 4 [(0, .ref (E 0)), (1, .int (iI character)), (2, .ref o)] := hl
  refine lv_aload_n hx hb dL_type_0 rfl (lv_at hl 2 rfl) ?_
  refine lv_iconst (v := 0) hx hb dL_type_1 (by decide) ?_
  refine lv_aload_n hx hb dL_type_2 rfl (lv_at hl 0 rfl) ?_
  refine lv_iload_n hx hb dL_type_3 rfl (lv_at hl 1 rfl) ?_
  refine hx_call (rest := [.int 0, .ref o]) (As := [.int (iI character)]) (o := o) ⟨hx, hb, hml, hown, hts⟩ (kX8_type l hst D E cI cC T M character h1 hT kx r M' hE) (cwV 1 hts gL_type_X8_type rfl rfl rfl (by decide +kernel) ⟨Nat.le_of_ble_eq_true rfl, Nat.le_of_ble_eq_true rfl⟩) hK hP hD hS rfl hZ rfl hl.1 rfl (Nat.le_of_ble_eq_true rfl) dL_type_4 ⟨by decide, by decide⟩ (fun hk H locs hP hD hS => ?_) (fun hk H locs q ce hP hD hS hce hcv hcl => ?_)
  · refine lv_i2l hx hb dL_type_7 rfl ?_
    refine va_last hx hb hK hP hD hS 19 2 (n := 1) rfl rfl vp0 dL_type_8 (fun H locs hP hD hS => ?_)
    have hP : va_P D vwCl (VHl E cI cC cJ o M' (vp_updL f (0 : Int32).toNatClampNeg (iI r).toInt64)) H := hP
    refine lv_goto (tgt := 15) hx hb dL_type_9 (by decide) ?_
    refine lv_iconst (v := 0) hx hb dL_type_15 (by decide) ?_
    exact hl_end hx hb hr hlocks (by rw [AnsL_0 hw (by decide) hk]; exact iI_0) (fun _ => by simp [vp_updL]) hS hP (by decide) (by decide) dL_type_16
  · rcases hw with ⟨h, _⟩ | ⟨i, hi, hk2, hw2⟩
    · exact absurd h hk
    · rcases (show i = 0 from by have h9 : i < 1 := hi; omega) with rfl
      · have hk3 : kx = 5 := hk2
        rw [hk3, exN_5] at hcl
        refine vx_catch (own := RL) (name := "java/lang/IllegalStateException") (E := "java/lang/IllegalStateException") hown [] ⟨0, 9, 12, 105⟩ [] htab (fun z hz => by cases hz) (by decide) (by decide) (hts (.classLink RL 105 "java/lang/IllegalStateException") cl_type_105) (va_Nw.use rfl (ZC_x5 (ZH_C (cI := cI) (cC := cC) hZ))) hce hcv hcl ?_
        refine lv_astore_n (lv' := [(3, .ref q), (0, .ref (E 0)), (1, .int (iI character)), (2, .ref o)]) hx hb dL_type_12 rfl hl (by decide) rfl (fun ls hl => ?_)
        refine lv_iconst (v := 1) hx hb dL_type_13 (by decide) ?_
        exact hl_end hx hb hr hlocks (by rw [hw2]; exact iI_1) (fun h => absurd h hk) hS hP (by decide) (by decide) dL_type_14
theorem cl_read_13 : Cond.classLink RL 13 "java/lang/IllegalArgumentException" ∈ wsL_read := by decide +kernel
theorem cl_read_15 : Cond.classLink RL 15 "java/lang/UnsupportedOperationException" ∈ wsL_read := by decide +kernel
set_option maxHeartbeats 4000000 in
set_option maxRecDepth 100000 in
theorem hX_read (l : Launch) (hst : l.stackTraces = false) (D : va_G) (E : Nat → Nat) (cI cC cJ cDD : ClassId) (T : Nat → Nat) (o : Nat) (M : Mem) (hC : CI M) (hQ : SI M) (hT : TI M) (hH : HN M) (kx r : Int) (M' : Mem) (hE : fX8_read M = (kx, r, M')) (w : Int) (hw : AnsL kx [2, 3] w) : Hl l yL_read wsL_read 9 207 1 [.ref (E 0), .ref o] D cI cC cJ cDD E o T M kx (iI r).toInt64 M' w := by
  intro f
  refine Hx.of (cc := cL_read) (maxL := 3) (ret := some .int) (hh := [(0, 8, 11, 13), (0, 8, 14, 15)]) (by decide +kernel) rfl (Nat.le_of_ble_eq_true rfl) ?_
  intro p e s m args below meth c ls hx hb hml hr hown hts hlocks hP hK hD hZ hS htab hl
  have hl : lv_has ls 3 [(0, .ref (E 0)), (1, .ref o)] := hl
  refine lv_aload_n hx hb dL_read_0 rfl (lv_at hl 1 rfl) ?_
  refine lv_iconst (v := 0) hx hb dL_read_1 (by decide) ?_
  refine lv_aload_n hx hb dL_read_2 rfl (lv_at hl 0 rfl) ?_
  refine hx_call (rest := [.int 0, .ref o]) (As := []) (o := o) ⟨hx, hb, hml, hown, hts⟩ (kX8_read l hst D E cI cC T M hC hQ hT hH kx r M' hE) (cwV 0 hts gL_read_X8_read rfl rfl rfl (by decide +kernel) ⟨Nat.le_of_ble_eq_true rfl, Nat.le_of_ble_eq_true rfl⟩) hK hP hD hS rfl hZ rfl hl.1 rfl (Nat.le_of_ble_eq_true rfl) dL_read_3 ⟨by decide, by decide⟩ (fun hk H locs hP hD hS => ?_) (fun hk H locs q ce hP hD hS hce hcv hcl => ?_)
  · refine lv_i2l hx hb dL_read_6 rfl ?_
    refine va_last hx hb hK hP hD hS 19 2 (n := 1) rfl rfl vp0 dL_read_7 (fun H locs hP hD hS => ?_)
    have hP : va_P D vwCl (VHl E cI cC cJ o M' (vp_updL f (0 : Int32).toNatClampNeg (iI r).toInt64)) H := hP
    refine lv_goto (tgt := 17) hx hb dL_read_8 (by decide) ?_
    refine lv_iconst (v := 0) hx hb dL_read_17 (by decide) ?_
    exact hl_end hx hb hr hlocks (by rw [AnsL_0 hw (by decide) hk]; exact iI_0) (fun _ => by simp [vp_updL]) hS hP (by decide) (by decide) dL_read_18
  · rcases hw with ⟨h, _⟩ | ⟨i, hi, hk2, hw2⟩
    · exact absurd h hk
    · rcases (show i = 0 ∨ i = 1 from by have h9 : i < 2 := hi; omega) with rfl | rfl
      · have hk3 : kx = 2 := hk2
        rw [hk3, exN_2] at hcl
        refine vx_catch (own := RL) (name := "java/lang/IllegalArgumentException") (E := "java/lang/IllegalArgumentException") hown [] ⟨0, 8, 11, 13⟩ [⟨0, 8, 14, 15⟩] htab (fun z hz => by cases hz) (by decide) (by decide) (hts (.classLink RL 13 "java/lang/IllegalArgumentException") cl_read_13) (va_Nw.use rfl (ZC_x2 (ZH_C (cI := cI) (cC := cC) hZ))) hce hcv hcl ?_
        refine lv_astore_n (lv' := [(2, .ref q), (0, .ref (E 0)), (1, .ref o)]) hx hb dL_read_11 rfl hl (by decide) rfl (fun ls hl => ?_)
        refine lv_iconst (v := 1) hx hb dL_read_12 (by decide) ?_
        exact hl_end hx hb hr hlocks (by rw [hw2]; exact iI_1) (fun h => absurd h hk) hS hP (by decide) (by decide) dL_read_13
      · have hk3 : kx = 3 := hk2
        rw [hk3, exN_3] at hcl
        refine vx_catch (own := RL) (name := "java/lang/UnsupportedOperationException") (E := "java/lang/UnsupportedOperationException") hown [⟨0, 8, 11, 13⟩] ⟨0, 8, 14, 15⟩ [] htab (fun z hz => by rcases List.mem_singleton.mp hz with rfl; exact Or.inr ⟨by decide, _, hts (.classLink RL 13 "java/lang/IllegalArgumentException") cl_read_13, hZ.2.2.2.1⟩) (by decide) (by decide) (hts (.classLink RL 15 "java/lang/UnsupportedOperationException") cl_read_15) (va_Nw.use rfl (ZC_x3 (ZH_C (cI := cI) (cC := cC) hZ))) hce hcv hcl ?_
        refine lv_astore_n (lv' := [(2, .ref q), (0, .ref (E 0)), (1, .ref o)]) hx hb dL_read_14 rfl hl (by decide) rfl (fun ls hl => ?_)
        refine lv_iconst (v := 2) hx hb dL_read_15 (by decide) ?_
        exact hl_end hx hb hr hlocks (by rw [hw2]; exact iI_2) (fun h => absurd h hk) hS hP (by decide) (by decide) dL_read_16
theorem cl_errorPosition_54 : Cond.classLink RL 54 "java/util/NoSuchElementException" ∈ wsL_errorPosition := by decide +kernel
set_option maxHeartbeats 4000000 in
set_option maxRecDepth 100000 in
theorem hX_errorPosition (l : Launch) (hst : l.stackTraces = false) (D : va_G) (E : Nat → Nat) (cI cC cJ cDD : ClassId) (T : Nat → Nat) (o : Nat) (M : Mem) (h1 : -1 ≤ M 17 0 ∧ M 17 0 ≤ 1000) (kx r : Int) (hE : fX8_errorPosition M = (kx, r)) (w : Int) (hw : AnsL kx [4] w) : Hl l yL_errorPosition wsL_errorPosition 7 102 1 [.ref (E 0), .ref o] D cI cC cJ cDD E o T M kx (iI r).toInt64 M w := by
  intro f
  refine Hx.of (cc := cL_errorPosition) (maxL := 3) (ret := some .int) (hh := [(0, 8, 11, 54)]) (by decide +kernel) rfl (Nat.le_of_ble_eq_true rfl) ?_
  intro p e s m args below meth c ls hx hb hml hr hown hts hlocks hP hK hD hZ hS htab hl
  have hl : lv_has ls 3 [(0, .ref (E 0)), (1, .ref o)] := hl
  refine lv_aload_n hx hb dL_errorPosition_0 rfl (lv_at hl 1 rfl) ?_
  refine lv_iconst (v := 0) hx hb dL_errorPosition_1 (by decide) ?_
  refine lv_aload_n hx hb dL_errorPosition_2 rfl (lv_at hl 0 rfl) ?_
  refine hx_call (rest := [.int 0, .ref o]) (As := []) (o := o) ⟨hx, hb, hml, hown, hts⟩ (kX8_errorPosition l hst D E cI cC T M h1 kx r hE) (cwV 0 hts gL_errorPosition_X8_errorPosition rfl rfl rfl (by decide +kernel) ⟨Nat.le_of_ble_eq_true rfl, Nat.le_of_ble_eq_true rfl⟩) hK hP hD hS rfl hZ rfl hl.1 rfl (Nat.le_of_ble_eq_true rfl) dL_errorPosition_3 ⟨by decide, by decide⟩ (fun hk H locs hP hD hS => ?_) (fun hk H locs q ce hP hD hS hce hcv hcl => ?_)
  · refine lv_i2l hx hb dL_errorPosition_6 rfl ?_
    refine va_last hx hb hK hP hD hS 19 2 (n := 1) rfl rfl vp0 dL_errorPosition_7 (fun H locs hP hD hS => ?_)
    have hP : va_P D vwCl (VHl E cI cC cJ o M (vp_updL f (0 : Int32).toNatClampNeg (iI r).toInt64)) H := hP
    refine lv_goto (tgt := 14) hx hb dL_errorPosition_8 (by decide) ?_
    refine lv_iconst (v := 0) hx hb dL_errorPosition_14 (by decide) ?_
    exact hl_end hx hb hr hlocks (by rw [AnsL_0 hw (by decide) hk]; exact iI_0) (fun _ => by simp [vp_updL]) hS hP (by decide) (by decide) dL_errorPosition_15
  · rcases hw with ⟨h, _⟩ | ⟨i, hi, hk2, hw2⟩
    · exact absurd h hk
    · rcases (show i = 0 from by have h9 : i < 1 := hi; omega) with rfl
      · have hk3 : kx = 4 := hk2
        rw [hk3, exN_4] at hcl
        refine vx_catch (own := RL) (name := "java/util/NoSuchElementException") (E := "java/util/NoSuchElementException") hown [] ⟨0, 8, 11, 54⟩ [] htab (fun z hz => by cases hz) (by decide) (by decide) (hts (.classLink RL 54 "java/util/NoSuchElementException") cl_errorPosition_54) (va_Nw.use rfl (ZC_x4 (ZH_C (cI := cI) (cC := cC) hZ))) hce hcv hcl ?_
        refine lv_astore_n (lv' := [(2, .ref q), (0, .ref (E 0)), (1, .ref o)]) hx hb dL_errorPosition_11 rfl hl (by decide) rfl (fun ls hl => ?_)
        refine lv_iconst (v := 1) hx hb dL_errorPosition_12 (by decide) ?_
        exact hl_end hx hb hr hlocks (by rw [hw2]; exact iI_1) (fun h => absurd h hk) hS hP (by decide) (by decide) dL_errorPosition_13
theorem cl_refusal_54 : Cond.classLink RL 54 "java/util/NoSuchElementException" ∈ wsL_refusal := by decide +kernel
set_option maxHeartbeats 4000000 in
set_option maxRecDepth 100000 in
theorem hX_refusal (l : Launch) (hst : l.stackTraces = false) (D : va_G) (E : Nat → Nat) (cI cC cJ cDD : ClassId) (T : Nat → Nat) (o : Nat) (M : Mem) (isCause isDetail : Int) (h1 : 0 ≤ isCause ∧ isCause ≤ 1) (h2 : 0 ≤ isDetail ∧ isDetail ≤ 1) (h3 : 0 ≤ M 18 0 ∧ M 18 0 ≤ 1000) (h4 : 0 ≤ M 19 0 ∧ M 19 0 ≤ 1000) (kx r : Int) (hE : fX8_refusal M isCause isDetail = (kx, r)) (w : Int) (hw : AnsL kx [4] w) : Hl l yL_refusal wsL_refusal 7 105 1 [.ref (E 0), .int (iI isCause), .int (iI isDetail), .ref o] D cI cC cJ cDD E o T M kx (iI r).toInt64 M w := by
  intro f
  refine Hx.of (cc := cL_refusal) (maxL := 5) (ret := some .int) (hh := [(0, 10, 13, 54)]) (by decide +kernel) rfl (Nat.le_of_ble_eq_true rfl) ?_
  intro p e s m args below meth c ls hx hb hml hr hown hts hlocks hP hK hD hZ hS htab hl
  have hl : lv_has ls 5 [(0, .ref (E 0)), (1, .int (iI isCause)), (2, .int (iI isDetail)), (3, .ref o)] := hl
  refine lv_aload_n hx hb dL_refusal_0 rfl (lv_at hl 3 rfl) ?_
  refine lv_iconst (v := 0) hx hb dL_refusal_1 (by decide) ?_
  refine lv_aload_n hx hb dL_refusal_2 rfl (lv_at hl 0 rfl) ?_
  refine lv_iload_n hx hb dL_refusal_3 rfl (lv_at hl 1 rfl) ?_
  refine lv_iload_n hx hb dL_refusal_4 rfl (lv_at hl 2 rfl) ?_
  refine hx_call (rest := [.int 0, .ref o]) (As := [.int (iI isCause), .int (iI isDetail)]) (o := o) ⟨hx, hb, hml, hown, hts⟩ (kX8_refusal l hst D E cI cC T M isCause isDetail h1 h2 h3 h4 kx r hE) (cwV 2 hts gL_refusal_X8_refusal rfl rfl rfl (by decide +kernel) ⟨Nat.le_of_ble_eq_true rfl, Nat.le_of_ble_eq_true rfl⟩) hK hP hD hS rfl hZ rfl hl.1 rfl (Nat.le_of_ble_eq_true rfl) dL_refusal_5 ⟨by decide, by decide⟩ (fun hk H locs hP hD hS => ?_) (fun hk H locs q ce hP hD hS hce hcv hcl => ?_)
  · refine lv_i2l hx hb dL_refusal_8 rfl ?_
    refine va_last hx hb hK hP hD hS 19 2 (n := 1) rfl rfl vp0 dL_refusal_9 (fun H locs hP hD hS => ?_)
    have hP : va_P D vwCl (VHl E cI cC cJ o M (vp_updL f (0 : Int32).toNatClampNeg (iI r).toInt64)) H := hP
    refine lv_goto (tgt := 17) hx hb dL_refusal_10 (by decide) ?_
    refine lv_iconst (v := 0) hx hb dL_refusal_17 (by decide) ?_
    exact hl_end hx hb hr hlocks (by rw [AnsL_0 hw (by decide) hk]; exact iI_0) (fun _ => by simp [vp_updL]) hS hP (by decide) (by decide) dL_refusal_18
  · rcases hw with ⟨h, _⟩ | ⟨i, hi, hk2, hw2⟩
    · exact absurd h hk
    · rcases (show i = 0 from by have h9 : i < 1 := hi; omega) with rfl
      · have hk3 : kx = 4 := hk2
        rw [hk3, exN_4] at hcl
        refine vx_catch (own := RL) (name := "java/util/NoSuchElementException") (E := "java/util/NoSuchElementException") hown [] ⟨0, 10, 13, 54⟩ [] htab (fun z hz => by cases hz) (by decide) (by decide) (hts (.classLink RL 54 "java/util/NoSuchElementException") cl_refusal_54) (va_Nw.use rfl (ZC_x4 (ZH_C (cI := cI) (cC := cC) hZ))) hce hcv hcl ?_
        refine lv_astore (lv' := [(4, .ref q), (0, .ref (E 0)), (1, .int (iI isCause)), (2, .int (iI isDetail)), (3, .ref o)]) hx hb dL_refusal_13 hl (by decide) rfl (fun ls hl => ?_)
        refine lv_iconst (v := 1) hx hb dL_refusal_15 (by decide) ?_
        exact hl_end hx hb hr hlocks (by rw [hw2]; exact iI_1) (fun h => absurd h hk) hS hP (by decide) (by decide) dL_refusal_16
theorem cl_show_21 : Cond.classLink RL 21 "java/lang/IndexOutOfBoundsException" ∈ wsL_show := by decide +kernel
set_option maxHeartbeats 4000000 in
set_option maxRecDepth 100000 in
theorem hX_show (l : Launch) (hst : l.stackTraces = false) (D : va_G) (E : Nat → Nat) (cI cC cJ cDD : ClassId) (T : Nat → Nat) (o : Nat) (M : Mem) (table : Int) (h1 : -2147483648 ≤ table ∧ table < 2147483648) (hC : CI M) (hL : LN M) (kx r : Int) (M' : Mem) (hE : fX8_show M table = (kx, r, M')) (w : Int) (hw : AnsL kx [1] w) : Hl l yL_show wsL_show 8 126 1 [.ref (E 0), .int (iI table), .ref o] D cI cC cJ cDD E o T M kx (iI r).toInt64 M' w := by
  intro f
  refine Hx.of (cc := cL_show) (maxL := 4) (ret := some .int) (hh := [(0, 9, 12, 21)]) (by decide +kernel) rfl (Nat.le_of_ble_eq_true rfl) ?_
  intro p e s m args below meth c ls hx hb hml hr hown hts hlocks hP hK hD hZ hS htab hl
  have hl : lv_has ls 4 [(0, .ref (E 0)), (1, .int (iI table)), (2, .ref o)] := hl
  refine lv_aload_n hx hb dL_show_0 rfl (lv_at hl 2 rfl) ?_
  refine lv_iconst (v := 0) hx hb dL_show_1 (by decide) ?_
  refine lv_aload_n hx hb dL_show_2 rfl (lv_at hl 0 rfl) ?_
  refine lv_iload_n hx hb dL_show_3 rfl (lv_at hl 1 rfl) ?_
  refine hx_call (rest := [.int 0, .ref o]) (As := [.int (iI table)]) (o := o) ⟨hx, hb, hml, hown, hts⟩ (kX8_show l hst D E cI cC T M table h1 hC hL kx r M' hE) (cwV 1 hts gL_show_X8_show rfl rfl rfl (by decide +kernel) ⟨Nat.le_of_ble_eq_true rfl, Nat.le_of_ble_eq_true rfl⟩) hK hP hD hS rfl hZ rfl hl.1 rfl (Nat.le_of_ble_eq_true rfl) dL_show_4 ⟨by decide, by decide⟩ (fun hk H locs hP hD hS => ?_) (fun hk H locs q ce hP hD hS hce hcv hcl => ?_)
  · refine lv_i2l hx hb dL_show_7 rfl ?_
    refine va_last hx hb hK hP hD hS 19 2 (n := 1) rfl rfl vp0 dL_show_8 (fun H locs hP hD hS => ?_)
    have hP : va_P D vwCl (VHl E cI cC cJ o M' (vp_updL f (0 : Int32).toNatClampNeg (iI r).toInt64)) H := hP
    refine lv_goto (tgt := 15) hx hb dL_show_9 (by decide) ?_
    refine lv_iconst (v := 0) hx hb dL_show_15 (by decide) ?_
    exact hl_end hx hb hr hlocks (by rw [AnsL_0 hw (by decide) hk]; exact iI_0) (fun _ => by simp [vp_updL]) hS hP (by decide) (by decide) dL_show_16
  · rcases hw with ⟨h, _⟩ | ⟨i, hi, hk2, hw2⟩
    · exact absurd h hk
    · rcases (show i = 0 from by have h9 : i < 1 := hi; omega) with rfl
      · have hk3 : kx = 1 := hk2
        rw [hk3, exN_1] at hcl
        refine vx_catch (own := RL) (name := "java/lang/IndexOutOfBoundsException") (E := "java/lang/IndexOutOfBoundsException") hown [] ⟨0, 9, 12, 21⟩ [] htab (fun z hz => by cases hz) (by decide) (by decide) (hts (.classLink RL 21 "java/lang/IndexOutOfBoundsException") cl_show_21) (va_Nw.use rfl (ZC_x1 (ZH_C (cI := cI) (cC := cC) hZ))) hce hcv hcl ?_
        refine lv_astore_n (lv' := [(3, .ref q), (0, .ref (E 0)), (1, .int (iI table)), (2, .ref o)]) hx hb dL_show_12 rfl hl (by decide) rfl (fun ls hl => ?_)
        refine lv_iconst (v := 1) hx hb dL_show_13 (by decide) ?_
        exact hl_end hx hb hr hlocks (by rw [hw2]; exact iI_1) (fun h => absurd h hk) hS hP (by decide) (by decide) dL_show_14
theorem cl_tell_21 : Cond.classLink RL 21 "java/lang/IndexOutOfBoundsException" ∈ wsL_tell := by decide +kernel
set_option maxHeartbeats 4000000 in
set_option maxRecDepth 100000 in
theorem hX_tell (l : Launch) (hst : l.stackTraces = false) (D : va_G) (E : Nat → Nat) (cI cC cJ cDD : ClassId) (T : Nat → Nat) (o : Nat) (M : Mem) (table : Int) (h1 : -2147483648 ≤ table ∧ table < 2147483648) (hC : CI M) (hQ : SI M) (hL : LN M) (kx r : Int) (M' : Mem) (hE : fX8_tell M table = (kx, r, M')) (w : Int) (hw : AnsL kx [1] w) : Hl l yL_tell wsL_tell 8 127 1 [.ref (E 0), .int (iI table), .ref o] D cI cC cJ cDD E o T M kx (iI r).toInt64 M' w := by
  intro f
  refine Hx.of (cc := cL_tell) (maxL := 4) (ret := some .int) (hh := [(0, 9, 12, 21)]) (by decide +kernel) rfl (Nat.le_of_ble_eq_true rfl) ?_
  intro p e s m args below meth c ls hx hb hml hr hown hts hlocks hP hK hD hZ hS htab hl
  have hl : lv_has ls 4 [(0, .ref (E 0)), (1, .int (iI table)), (2, .ref o)] := hl
  refine lv_aload_n hx hb dL_tell_0 rfl (lv_at hl 2 rfl) ?_
  refine lv_iconst (v := 0) hx hb dL_tell_1 (by decide) ?_
  refine lv_aload_n hx hb dL_tell_2 rfl (lv_at hl 0 rfl) ?_
  refine lv_iload_n hx hb dL_tell_3 rfl (lv_at hl 1 rfl) ?_
  refine hx_call (rest := [.int 0, .ref o]) (As := [.int (iI table)]) (o := o) ⟨hx, hb, hml, hown, hts⟩ (kX8_tell l hst D E cI cC T M table h1 hC hQ hL kx r M' hE) (cwV 1 hts gL_tell_X8_tell rfl rfl rfl (by decide +kernel) ⟨Nat.le_of_ble_eq_true rfl, Nat.le_of_ble_eq_true rfl⟩) hK hP hD hS rfl hZ rfl hl.1 rfl (Nat.le_of_ble_eq_true rfl) dL_tell_4 ⟨by decide, by decide⟩ (fun hk H locs hP hD hS => ?_) (fun hk H locs q ce hP hD hS hce hcv hcl => ?_)
  · refine lv_i2l hx hb dL_tell_7 rfl ?_
    refine va_last hx hb hK hP hD hS 19 2 (n := 1) rfl rfl vp0 dL_tell_8 (fun H locs hP hD hS => ?_)
    have hP : va_P D vwCl (VHl E cI cC cJ o M' (vp_updL f (0 : Int32).toNatClampNeg (iI r).toInt64)) H := hP
    refine lv_goto (tgt := 15) hx hb dL_tell_9 (by decide) ?_
    refine lv_iconst (v := 0) hx hb dL_tell_15 (by decide) ?_
    exact hl_end hx hb hr hlocks (by rw [AnsL_0 hw (by decide) hk]; exact iI_0) (fun _ => by simp [vp_updL]) hS hP (by decide) (by decide) dL_tell_16
  · rcases hw with ⟨h, _⟩ | ⟨i, hi, hk2, hw2⟩
    · exact absurd h hk
    · rcases (show i = 0 from by have h9 : i < 1 := hi; omega) with rfl
      · have hk3 : kx = 1 := hk2
        rw [hk3, exN_1] at hcl
        refine vx_catch (own := RL) (name := "java/lang/IndexOutOfBoundsException") (E := "java/lang/IndexOutOfBoundsException") hown [] ⟨0, 9, 12, 21⟩ [] htab (fun z hz => by cases hz) (by decide) (by decide) (hts (.classLink RL 21 "java/lang/IndexOutOfBoundsException") cl_tell_21) (va_Nw.use rfl (ZC_x1 (ZH_C (cI := cI) (cC := cC) hZ))) hce hcv hcl ?_
        refine lv_astore_n (lv' := [(3, .ref q), (0, .ref (E 0)), (1, .int (iI table)), (2, .ref o)]) hx hb dL_tell_12 rfl hl (by decide) rfl (fun ls hl => ?_)
        refine lv_iconst (v := 1) hx hb dL_tell_13 (by decide) ?_
        exact hl_end hx hb hr hlocks (by rw [hw2]; exact iI_1) (fun h => absurd h hk) hS hP (by decide) (by decide) dL_tell_14
theorem cl_written_54 : Cond.classLink RL 54 "java/util/NoSuchElementException" ∈ wsL_written := by decide +kernel
set_option maxHeartbeats 4000000 in
set_option maxRecDepth 100000 in
theorem hX_written (l : Launch) (hst : l.stackTraces = false) (D : va_G) (E : Nat → Nat) (cI cC cJ cDD : ClassId) (T : Nat → Nat) (o : Nat) (M : Mem) (index : Int) (h1 : -2147483648 ≤ index ∧ index < 2147483648) (hL : LN M) (kx r : Int) (hE : fX8_written M index = (kx, r)) (w : Int) (hw : AnsL kx [4] w) : Hl l yL_written wsL_written 7 103 1 [.ref (E 0), .int (iI index), .ref o] D cI cC cJ cDD E o T M kx (iI r).toInt64 M w := by
  intro f
  refine Hx.of (cc := cL_written) (maxL := 4) (ret := some .int) (hh := [(0, 9, 12, 54)]) (by decide +kernel) rfl (Nat.le_of_ble_eq_true rfl) ?_
  intro p e s m args below meth c ls hx hb hml hr hown hts hlocks hP hK hD hZ hS htab hl
  have hl : lv_has ls 4 [(0, .ref (E 0)), (1, .int (iI index)), (2, .ref o)] := hl
  refine lv_aload_n hx hb dL_written_0 rfl (lv_at hl 2 rfl) ?_
  refine lv_iconst (v := 0) hx hb dL_written_1 (by decide) ?_
  refine lv_aload_n hx hb dL_written_2 rfl (lv_at hl 0 rfl) ?_
  refine lv_iload_n hx hb dL_written_3 rfl (lv_at hl 1 rfl) ?_
  refine hx_call (rest := [.int 0, .ref o]) (As := [.int (iI index)]) (o := o) ⟨hx, hb, hml, hown, hts⟩ (kX8_written l hst D E cI cC T M index h1 hL kx r hE) (cwV 1 hts gL_written_X8_written rfl rfl rfl (by decide +kernel) ⟨Nat.le_of_ble_eq_true rfl, Nat.le_of_ble_eq_true rfl⟩) hK hP hD hS rfl hZ rfl hl.1 rfl (Nat.le_of_ble_eq_true rfl) dL_written_4 ⟨by decide, by decide⟩ (fun hk H locs hP hD hS => ?_) (fun hk H locs q ce hP hD hS hce hcv hcl => ?_)
  · refine lv_i2l hx hb dL_written_7 rfl ?_
    refine va_last hx hb hK hP hD hS 19 2 (n := 1) rfl rfl vp0 dL_written_8 (fun H locs hP hD hS => ?_)
    have hP : va_P D vwCl (VHl E cI cC cJ o M (vp_updL f (0 : Int32).toNatClampNeg (iI r).toInt64)) H := hP
    refine lv_goto (tgt := 15) hx hb dL_written_9 (by decide) ?_
    refine lv_iconst (v := 0) hx hb dL_written_15 (by decide) ?_
    exact hl_end hx hb hr hlocks (by rw [AnsL_0 hw (by decide) hk]; exact iI_0) (fun _ => by simp [vp_updL]) hS hP (by decide) (by decide) dL_written_16
  · rcases hw with ⟨h, _⟩ | ⟨i, hi, hk2, hw2⟩
    · exact absurd h hk
    · rcases (show i = 0 from by have h9 : i < 1 := hi; omega) with rfl
      · have hk3 : kx = 4 := hk2
        rw [hk3, exN_4] at hcl
        refine vx_catch (own := RL) (name := "java/util/NoSuchElementException") (E := "java/util/NoSuchElementException") hown [] ⟨0, 9, 12, 54⟩ [] htab (fun z hz => by cases hz) (by decide) (by decide) (hts (.classLink RL 54 "java/util/NoSuchElementException") cl_written_54) (va_Nw.use rfl (ZC_x4 (ZH_C (cI := cI) (cC := cC) hZ))) hce hcv hcl ?_
        refine lv_astore_n (lv' := [(3, .ref q), (0, .ref (E 0)), (1, .int (iI index)), (2, .ref o)]) hx hb dL_written_12 rfl hl (by decide) rfl (fun ls hl => ?_)
        refine lv_iconst (v := 1) hx hb dL_written_13 (by decide) ?_
        exact hl_end hx hb hr hlocks (by rw [hw2]; exact iI_1) (fun h => absurd h hk) hS hP (by decide) (by decide) dL_written_14
theorem cl_account_13 : Cond.classLink RL 13 "java/lang/IllegalArgumentException" ∈ wsL_account := by decide +kernel
set_option maxHeartbeats 4000000 in
set_option maxRecDepth 100000 in
theorem hX_account (l : Launch) (hst : l.stackTraces = false) (D : va_G) (E : Nat → Nat) (cI cC cJ cDD : ClassId) (T : Nat → Nat) (o : Nat) (M : Mem) (what : Int) (h1 : -2147483648 ≤ what ∧ what < 2147483648) (hC : CI M) (hQ : SI M) (hT : TI M) (kx r : Int) (M' : Mem) (hE : fX8_account M what = (kx, r, M')) (w : Int) (hw : AnsL kx [2] w) : Hl l yL_account wsL_account 7 131 1 [.ref (E 0), .int (iI what), .ref o] D cI cC cJ cDD E o T M kx (iI r).toInt64 M' w := by
  intro f
  refine Hx.of (cc := cL_account) (maxL := 4) (ret := some .int) (hh := [(0, 9, 12, 13)]) (by decide +kernel) rfl (Nat.le_of_ble_eq_true rfl) ?_
  intro p e s m args below meth c ls hx hb hml hr hown hts hlocks hP hK hD hZ hS htab hl
  have hl : lv_has ls 4 [(0, .ref (E 0)), (1, .int (iI what)), (2, .ref o)] := hl
  refine lv_aload_n hx hb dL_account_0 rfl (lv_at hl 2 rfl) ?_
  refine lv_iconst (v := 0) hx hb dL_account_1 (by decide) ?_
  refine lv_aload_n hx hb dL_account_2 rfl (lv_at hl 0 rfl) ?_
  refine lv_iload_n hx hb dL_account_3 rfl (lv_at hl 1 rfl) ?_
  refine hx_call (rest := [.int 0, .ref o]) (As := [.int (iI what)]) (o := o) ⟨hx, hb, hml, hown, hts⟩ (kX8_account l hst D E cI cC T M what h1 hC hQ hT kx r M' hE) (cwV 1 hts gL_account_X8_account rfl rfl rfl (by decide +kernel) ⟨Nat.le_of_ble_eq_true rfl, Nat.le_of_ble_eq_true rfl⟩) hK hP hD hS rfl hZ rfl hl.1 rfl (Nat.le_of_ble_eq_true rfl) dL_account_4 ⟨by decide, by decide⟩ (fun hk H locs hP hD hS => ?_) (fun hk H locs q ce hP hD hS hce hcv hcl => ?_)
  · refine lv_i2l hx hb dL_account_7 rfl ?_
    refine va_last hx hb hK hP hD hS 19 2 (n := 1) rfl rfl vp0 dL_account_8 (fun H locs hP hD hS => ?_)
    have hP : va_P D vwCl (VHl E cI cC cJ o M' (vp_updL f (0 : Int32).toNatClampNeg (iI r).toInt64)) H := hP
    refine lv_goto (tgt := 15) hx hb dL_account_9 (by decide) ?_
    refine lv_iconst (v := 0) hx hb dL_account_15 (by decide) ?_
    exact hl_end hx hb hr hlocks (by rw [AnsL_0 hw (by decide) hk]; exact iI_0) (fun _ => by simp [vp_updL]) hS hP (by decide) (by decide) dL_account_16
  · rcases hw with ⟨h, _⟩ | ⟨i, hi, hk2, hw2⟩
    · exact absurd h hk
    · rcases (show i = 0 from by have h9 : i < 1 := hi; omega) with rfl
      · have hk3 : kx = 2 := hk2
        rw [hk3, exN_2] at hcl
        refine vx_catch (own := RL) (name := "java/lang/IllegalArgumentException") (E := "java/lang/IllegalArgumentException") hown [] ⟨0, 9, 12, 13⟩ [] htab (fun z hz => by cases hz) (by decide) (by decide) (hts (.classLink RL 13 "java/lang/IllegalArgumentException") cl_account_13) (va_Nw.use rfl (ZC_x2 (ZH_C (cI := cI) (cC := cC) hZ))) hce hcv hcl ?_
        refine lv_astore_n (lv' := [(3, .ref q), (0, .ref (E 0)), (1, .int (iI what)), (2, .ref o)]) hx hb dL_account_12 rfl hl (by decide) rfl (fun ls hl => ?_)
        refine lv_iconst (v := 1) hx hb dL_account_13 (by decide) ?_
        exact hl_end hx hb hr hlocks (by rw [hw2]; exact iI_1) (fun h => absurd h hk) hS hP (by decide) (by decide) dL_account_14
theorem cl_meanStains_93 : Cond.classLink RL 93 "java/lang/ArithmeticException" ∈ wsL_meanStains := by decide +kernel
set_option maxHeartbeats 4000000 in
set_option maxRecDepth 100000 in
theorem hX_meanStains (l : Launch) (hst : l.stackTraces = false) (D : va_G) (E : Nat → Nat) (cI cC cJ cDD : ClassId) (T : Nat → Nat) (o : Nat) (M : Mem) (hC : CI M) (kx : Int) (r : UInt64) (hE : fX8_meanStains M = (kx, r)) (w : Int) (hw : AnsL kx [6] w) : Hdd l yL_meanStains wsL_meanStains 7 102 1 [.ref (E 0), .ref o] D cI cC cJ cDD E o T M kx r M w := by
  intro f
  refine Hx.of (cc := cL_meanStains) (maxL := 3) (ret := some .int) (hh := [(0, 7, 10, 93)]) (by decide +kernel) rfl (Nat.le_of_ble_eq_true rfl) ?_
  intro p e s m args below meth c ls hx hb hml hr hown hts hlocks hP hK hD hZ hS htab hl
  have hl : lv_has ls 3 [(0, .ref (E 0)), (1, .ref o)] := hl
  refine lv_aload_n hx hb dL_meanStains_0 rfl (lv_at hl 1 rfl) ?_
  refine lv_iconst (v := 0) hx hb dL_meanStains_1 (by decide) ?_
  refine lv_aload_n hx hb dL_meanStains_2 rfl (lv_at hl 0 rfl) ?_
  refine hx_call (rest := [.int 0, .ref o]) (As := []) (o := o) ⟨hx, hb, hml, hown, hts⟩ (kX8_meanStains l hst D E cI cC T M hC kx r hE) (cwV 0 hts gL_meanStains_X8_meanStains rfl rfl rfl (by decide +kernel) ⟨Nat.le_of_ble_eq_true rfl, Nat.le_of_ble_eq_true rfl⟩) hK hP hD hS rfl hZ rfl hl.1 rfl (Nat.le_of_ble_eq_true rfl) dL_meanStains_3 ⟨by decide, by decide⟩ (fun hk H locs hP hD hS => ?_) (fun hk H locs q ce hP hD hS hce hcv hcl => ?_)
  · refine va_dast hx hb hK hP hD hS 19 3 (n := 1) rfl rfl vp0 dL_meanStains_6 (fun H locs hP hD hS => ?_)
    have hP : va_P D vwCl (VHd E cI cC cDD o M (vf_upd f (0 : Int32).toNatClampNeg r)) H := hP
    refine lv_goto (tgt := 13) hx hb dL_meanStains_7 (by decide) ?_
    refine lv_iconst (v := 0) hx hb dL_meanStains_13 (by decide) ?_
    exact hd_end hx hb hr hlocks (by rw [AnsL_0 hw (by decide) hk]; exact iI_0) (fun _ => by simp [vf_upd]) hS hP (by decide) (by decide) dL_meanStains_14
  · rcases hw with ⟨h, _⟩ | ⟨i, hi, hk2, hw2⟩
    · exact absurd h hk
    · rcases (show i = 0 from by have h9 : i < 1 := hi; omega) with rfl
      · have hk3 : kx = 6 := hk2
        rw [hk3, exN_6] at hcl
        refine vx_catch (own := RL) (name := "java/lang/ArithmeticException") (E := "java/lang/ArithmeticException") hown [] ⟨0, 7, 10, 93⟩ [] htab (fun z hz => by cases hz) (by decide) (by decide) (hts (.classLink RL 93 "java/lang/ArithmeticException") cl_meanStains_93) (va_Nw.use rfl (ZC_x6 (ZH_C (cI := cI) (cC := cC) hZ))) hce hcv hcl ?_
        refine lv_astore_n (lv' := [(2, .ref q), (0, .ref (E 0)), (1, .ref o)]) hx hb dL_meanStains_10 rfl hl (by decide) rfl (fun ls hl => ?_)
        refine lv_iconst (v := 1) hx hb dL_meanStains_11 (by decide) ?_
        exact hd_end hx hb hr hlocks (by rw [hw2]; exact iI_1) (fun h => absurd h hk) hS hP (by decide) (by decide) dL_meanStains_12
theorem cl_foldedShare_93 : Cond.classLink RL 93 "java/lang/ArithmeticException" ∈ wsL_foldedShare := by decide +kernel
set_option maxHeartbeats 4000000 in
set_option maxRecDepth 100000 in
theorem hX_foldedShare (l : Launch) (hst : l.stackTraces = false) (D : va_G) (E : Nat → Nat) (cI cC cJ cDD : ClassId) (T : Nat → Nat) (o : Nat) (M : Mem) (hC : CI M) (kx : Int) (r : UInt32) (hE : fX8_foldedShare M = (kx, r)) (w : Int) (hw : AnsL kx [6] w) : Hdd l yL_foldedShare wsL_foldedShare 7 102 1 [.ref (E 0), .ref o] D cI cC cJ cDD E o T M kx (FP.f2d r) M w := by
  intro f
  refine Hx.of (cc := cL_foldedShare) (maxL := 3) (ret := some .int) (hh := [(0, 8, 11, 93)]) (by decide +kernel) rfl (Nat.le_of_ble_eq_true rfl) ?_
  intro p e s m args below meth c ls hx hb hml hr hown hts hlocks hP hK hD hZ hS htab hl
  have hl : lv_has ls 3 [(0, .ref (E 0)), (1, .ref o)] := hl
  refine lv_aload_n hx hb dL_foldedShare_0 rfl (lv_at hl 1 rfl) ?_
  refine lv_iconst (v := 0) hx hb dL_foldedShare_1 (by decide) ?_
  refine lv_aload_n hx hb dL_foldedShare_2 rfl (lv_at hl 0 rfl) ?_
  refine hx_call (rest := [.int 0, .ref o]) (As := []) (o := o) ⟨hx, hb, hml, hown, hts⟩ (kX8_foldedShare l hst D E cI cC T M hC kx r hE) (cwV 0 hts gL_foldedShare_X8_foldedShare rfl rfl rfl (by decide +kernel) ⟨Nat.le_of_ble_eq_true rfl, Nat.le_of_ble_eq_true rfl⟩) hK hP hD hS rfl hZ rfl hl.1 rfl (Nat.le_of_ble_eq_true rfl) dL_foldedShare_3 ⟨by decide, by decide⟩ (fun hk H locs hP hD hS => ?_) (fun hk H locs q ce hP hD hS hce hcv hcl => ?_)
  · refine lv_f2d hx hb dL_foldedShare_6 (fp_shareD hC hE hk) ?_
    refine va_dast hx hb hK hP hD hS 19 3 (n := 1) rfl rfl vp0 dL_foldedShare_7 (fun H locs hP hD hS => ?_)
    have hP : va_P D vwCl (VHd E cI cC cDD o M (vf_upd f (0 : Int32).toNatClampNeg (FP.f2d r))) H := hP
    refine lv_goto (tgt := 14) hx hb dL_foldedShare_8 (by decide) ?_
    refine lv_iconst (v := 0) hx hb dL_foldedShare_14 (by decide) ?_
    exact hd_end hx hb hr hlocks (by rw [AnsL_0 hw (by decide) hk]; exact iI_0) (fun _ => by simp [vf_upd]) hS hP (by decide) (by decide) dL_foldedShare_15
  · rcases hw with ⟨h, _⟩ | ⟨i, hi, hk2, hw2⟩
    · exact absurd h hk
    · rcases (show i = 0 from by have h9 : i < 1 := hi; omega) with rfl
      · have hk3 : kx = 6 := hk2
        rw [hk3, exN_6] at hcl
        refine vx_catch (own := RL) (name := "java/lang/ArithmeticException") (E := "java/lang/ArithmeticException") hown [] ⟨0, 8, 11, 93⟩ [] htab (fun z hz => by cases hz) (by decide) (by decide) (hts (.classLink RL 93 "java/lang/ArithmeticException") cl_foldedShare_93) (va_Nw.use rfl (ZC_x6 (ZH_C (cI := cI) (cC := cC) hZ))) hce hcv hcl ?_
        refine lv_astore_n (lv' := [(2, .ref q), (0, .ref (E 0)), (1, .ref o)]) hx hb dL_foldedShare_11 rfl hl (by decide) rfl (fun ls hl => ?_)
        refine lv_iconst (v := 1) hx hb dL_foldedShare_12 (by decide) ?_
        exact hd_end hx hb hr hlocks (by rw [hw2]; exact iI_1) (fun h => absurd h hk) hS hP (by decide) (by decide) dL_foldedShare_13
theorem cl_undo_105 : Cond.classLink RL 105 "java/lang/IllegalStateException" ∈ wsL_undo := by decide +kernel
set_option maxHeartbeats 4000000 in
set_option maxRecDepth 100000 in
theorem hX_undo (l : Launch) (hst : l.stackTraces = false) (D : va_G) (E : Nat → Nat) (cI cC cJ cDD : ClassId) (T : Nat → Nat) (o : Nat) (M : Mem) (hH : HN M) (kx r : Int) (M' : Mem) (hE : fX8_undo M = (kx, r, M')) (w : Int) (hw : AnsL kx [5] w) : Hl l yL_undo wsL_undo 7 102 1 [.ref (E 0), .ref o] D cI cC cJ cDD E o T M kx (iI r).toInt64 M' w := by
  intro f
  refine Hx.of (cc := cL_undo) (maxL := 3) (ret := some .int) (hh := [(0, 8, 11, 105)]) (by decide +kernel) rfl (Nat.le_of_ble_eq_true rfl) ?_
  intro p e s m args below meth c ls hx hb hml hr hown hts hlocks hP hK hD hZ hS htab hl
  have hl : lv_has ls 3 [(0, .ref (E 0)), (1, .ref o)] := hl
  refine lv_aload_n hx hb dL_undo_0 rfl (lv_at hl 1 rfl) ?_
  refine lv_iconst (v := 0) hx hb dL_undo_1 (by decide) ?_
  refine lv_aload_n hx hb dL_undo_2 rfl (lv_at hl 0 rfl) ?_
  refine hx_call (rest := [.int 0, .ref o]) (As := []) (o := o) ⟨hx, hb, hml, hown, hts⟩ (kX8_undo l hst D E cI cC T M hH kx r M' hE) (cwV 0 hts gL_undo_X8_undo rfl rfl rfl (by decide +kernel) ⟨Nat.le_of_ble_eq_true rfl, Nat.le_of_ble_eq_true rfl⟩) hK hP hD hS rfl hZ rfl hl.1 rfl (Nat.le_of_ble_eq_true rfl) dL_undo_3 ⟨by decide, by decide⟩ (fun hk H locs hP hD hS => ?_) (fun hk H locs q ce hP hD hS hce hcv hcl => ?_)
  · refine lv_i2l hx hb dL_undo_6 rfl ?_
    refine va_last hx hb hK hP hD hS 19 2 (n := 1) rfl rfl vp0 dL_undo_7 (fun H locs hP hD hS => ?_)
    have hP : va_P D vwCl (VHl E cI cC cJ o M' (vp_updL f (0 : Int32).toNatClampNeg (iI r).toInt64)) H := hP
    refine lv_goto (tgt := 14) hx hb dL_undo_8 (by decide) ?_
    refine lv_iconst (v := 0) hx hb dL_undo_14 (by decide) ?_
    exact hl_end hx hb hr hlocks (by rw [AnsL_0 hw (by decide) hk]; exact iI_0) (fun _ => by simp [vp_updL]) hS hP (by decide) (by decide) dL_undo_15
  · rcases hw with ⟨h, _⟩ | ⟨i, hi, hk2, hw2⟩
    · exact absurd h hk
    · rcases (show i = 0 from by have h9 : i < 1 := hi; omega) with rfl
      · have hk3 : kx = 5 := hk2
        rw [hk3, exN_5] at hcl
        refine vx_catch (own := RL) (name := "java/lang/IllegalStateException") (E := "java/lang/IllegalStateException") hown [] ⟨0, 8, 11, 105⟩ [] htab (fun z hz => by cases hz) (by decide) (by decide) (hts (.classLink RL 105 "java/lang/IllegalStateException") cl_undo_105) (va_Nw.use rfl (ZC_x5 (ZH_C (cI := cI) (cC := cC) hZ))) hce hcv hcl ?_
        refine lv_astore_n (lv' := [(2, .ref q), (0, .ref (E 0)), (1, .ref o)]) hx hb dL_undo_11 rfl hl (by decide) rfl (fun ls hl => ?_)
        refine lv_iconst (v := 1) hx hb dL_undo_12 (by decide) ?_
        exact hl_end hx hb hr hlocks (by rw [hw2]; exact iI_1) (fun h => absurd h hk) hS hP (by decide) (by decide) dL_undo_13
theorem cl_restore_105 : Cond.classLink RL 105 "java/lang/IllegalStateException" ∈ wsL_restore := by decide +kernel
set_option maxHeartbeats 4000000 in
set_option maxRecDepth 100000 in
theorem hX_restore (l : Launch) (hst : l.stackTraces = false) (D : va_G) (E : Nat → Nat) (cI cC cJ cDD : ClassId) (T : Nat → Nat) (o : Nat) (M : Mem) (h1 : 0 ≤ M 16 0 ∧ M 16 0 ≤ 1) (kx r : Int) (M' : Mem) (hE : fX8_restore M = (kx, r, M')) (w : Int) (hw : AnsL kx [5] w) : Hl l yL_restore wsL_restore 7 102 1 [.ref (E 0), .ref o] D cI cC cJ cDD E o T M kx (iI r).toInt64 M' w := by
  intro f
  refine Hx.of (cc := cL_restore) (maxL := 3) (ret := some .int) (hh := [(0, 8, 11, 105)]) (by decide +kernel) rfl (Nat.le_of_ble_eq_true rfl) ?_
  intro p e s m args below meth c ls hx hb hml hr hown hts hlocks hP hK hD hZ hS htab hl
  have hl : lv_has ls 3 [(0, .ref (E 0)), (1, .ref o)] := hl
  refine lv_aload_n hx hb dL_restore_0 rfl (lv_at hl 1 rfl) ?_
  refine lv_iconst (v := 0) hx hb dL_restore_1 (by decide) ?_
  refine lv_aload_n hx hb dL_restore_2 rfl (lv_at hl 0 rfl) ?_
  refine hx_call (rest := [.int 0, .ref o]) (As := []) (o := o) ⟨hx, hb, hml, hown, hts⟩ (kX8_restore l hst D E cI cC T M h1 kx r M' hE) (cwV 0 hts gL_restore_X8_restore rfl rfl rfl (by decide +kernel) ⟨Nat.le_of_ble_eq_true rfl, Nat.le_of_ble_eq_true rfl⟩) hK hP hD hS rfl hZ rfl hl.1 rfl (Nat.le_of_ble_eq_true rfl) dL_restore_3 ⟨by decide, by decide⟩ (fun hk H locs hP hD hS => ?_) (fun hk H locs q ce hP hD hS hce hcv hcl => ?_)
  · refine lv_i2l hx hb dL_restore_6 rfl ?_
    refine va_last hx hb hK hP hD hS 19 2 (n := 1) rfl rfl vp0 dL_restore_7 (fun H locs hP hD hS => ?_)
    have hP : va_P D vwCl (VHl E cI cC cJ o M' (vp_updL f (0 : Int32).toNatClampNeg (iI r).toInt64)) H := hP
    refine lv_goto (tgt := 14) hx hb dL_restore_8 (by decide) ?_
    refine lv_iconst (v := 0) hx hb dL_restore_14 (by decide) ?_
    exact hl_end hx hb hr hlocks (by rw [AnsL_0 hw (by decide) hk]; exact iI_0) (fun _ => by simp [vp_updL]) hS hP (by decide) (by decide) dL_restore_15
  · rcases hw with ⟨h, _⟩ | ⟨i, hi, hk2, hw2⟩
    · exact absurd h hk
    · rcases (show i = 0 from by have h9 : i < 1 := hi; omega) with rfl
      · have hk3 : kx = 5 := hk2
        rw [hk3, exN_5] at hcl
        refine vx_catch (own := RL) (name := "java/lang/IllegalStateException") (E := "java/lang/IllegalStateException") hown [] ⟨0, 8, 11, 105⟩ [] htab (fun z hz => by cases hz) (by decide) (by decide) (hts (.classLink RL 105 "java/lang/IllegalStateException") cl_restore_105) (va_Nw.use rfl (ZC_x5 (ZH_C (cI := cI) (cC := cC) hZ))) hce hcv hcl ?_
        refine lv_astore_n (lv' := [(2, .ref q), (0, .ref (E 0)), (1, .ref o)]) hx hb dL_restore_11 rfl hl (by decide) rfl (fun ls hl => ?_)
        refine lv_iconst (v := 1) hx hb dL_restore_12 (by decide) ?_
        exact hl_end hx hb hr hlocks (by rw [hw2]; exact iI_1) (fun h => absurd h hk) hS hP (by decide) (by decide) dL_restore_13
