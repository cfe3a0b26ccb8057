/-! THE LAW'S METHODS over one object of the class: put, isLine, faults (written by mk09d.py). -/
def fL_putL (g : Int → Int) : Nat → Int → Mem → Mem
  | 0, _, M => M
  | k + 1, i, M => fL_putL g k (i + 1) (fX7_append M (g i))
def fL_put (M : Mem) (n : Nat) (g : Int → Int) : Mem := fL_putL g n 0 M
theorem type_e {M : Mem} {ch : Int} (h0 : 0 ≤ M 11 0) (h1 : M 11 0 < 60) : fX8_type M ch = (0, M 11 0 + 1, fX7_append M ch) := by
  have h2 : fX7_append M ch = msf (mst M 10 (M 11 0) ch) 11 (M 11 0 + 1) := by
    unfold fX7_append
    rw [if_neg (by omega), if_neg (by omega)]
  unfold fX8_type fX7_isFull fX7_length
  rw [if_pos (by rw [if_pos (by omega)]), h2]
  rfl
theorem append_e {M : Mem} {ch : Int} (h0 : 0 ≤ M 11 0) (h1 : M 11 0 < 60) : fX7_append M ch = msf (mst M 10 (M 11 0) ch) 11 (M 11 0 + 1) := by
  unfold fX7_append
  rw [if_neg (by omega), if_neg (by omega)]
theorem TI_app2 {M : Mem} {ch : Int} (hT : TI M) (h1 : M 11 0 < 60) (hc : 0 ≤ ch ∧ ch < 256) : TI (fX7_append M ch) := by
  rw [append_e hT.1.1 h1]
  obtain ⟨⟨a1, a2⟩, a3⟩ := hT
  refine ⟨⟨by show (0 : Int) ≤ M 11 0 + 1; omega, by show M 11 0 + 1 ≤ (60 : Int); omega⟩, fun j j0 j1 => ?_⟩
  show 0 ≤ up (M 10) (M 11 0) ch j ∧ up (M 10) (M 11 0) ch j < 65536
  unfold up
  split
  · omega
  · exact a3 j j0 j1
theorem append_11 {M : Mem} {ch : Int} (h0 : 0 ≤ M 11 0) (h1 : M 11 0 < 60) : (fX7_append M ch) 11 0 = M 11 0 + 1 := by
  rw [append_e h0 h1]
  rfl
set_option maxRecDepth 100000 in
set_option maxHeartbeats 4000000 in
theorem kL_put (l : Launch) (hst : l.stackTraces = false) (D : va_G) (E : Nat → Nat) (cI cC : ClassId) (T : Nat → Nat) (M : Mem) (q t n : Nat) (g : Int → Int) (hn : n ≤ 60) (hg : ∀ i : Int, 0 ≤ i → i < n → 0 ≤ g i ∧ g i < 256) (hT : TI M) (h60 : M 11 0 + n ≤ 60) : Cn l yL_put wsL_put 20 400 60 [.ref (E 0), .ref q] D (TY cI cC) (VC E cI cC) (ZS E cI cC T q t n g) M none (fL_put M n g) := by
  refine Cn.of (cc := cL_put) (maxL := 3) (ret := none) (by decide +kernel) rfl (Nat.le_of_ble_eq_true rfl) ?_
  intro p e s m args below meth c ls hx hb hml hr hown hts hlocks hP hK hD hZ hS hl
  have hl : lv_has ls 3 [(0, .ref (E 0)), (1, .ref q)] := hl
  have S0 : CallFix p m c cL_put 3 s args wsL_put RL := ⟨hx, hb, hml, hown, hts⟩
  refine z_iconst hx hb dL_put_0 ?_
  refine lv_istore_n (lv' := [(2, .int (iI 0)), (0, .ref (E 0)), (1, .ref q)]) hx hb dL_put_1 rfl hl (by decide) rfl (fun ls hl => ?_)
  have L : ∀ (k : Nat) (i : Int) (Mx : Mem) (ls : Array Slot) (H : Heap) (locs : List Loc) (cells slots : Nat), i + k = n → 0 ≤ i → TI Mx → Mx 11 0 + k ≤ 60 → cells + k ≤ 60 → slots + 6 * k ≤ 360 → lv_has ls 3 [(2, .int (iI i)), (0, .ref (E 0)), (1, .ref q)] → va_P D vwCl (VC E cI cC Mx) H → va_D (wA (VC E cI cC M)) (VC E cI cC Mx) → va_S (wA (VC E cI cC M)) s.heap H locs → fL_putL g k i Mx = fL_put M n g → W p l e (zRmx 20 400 60) s m args below meth c H locs cells slots (MQ below (cnQ D (VC E cI cC) M none (fL_put M n g)) args s 60 (6 * 60) (wA (VC E cI cC M))) (F0 m 2 ls []) := by
    intro k
    induction k with
    | zero =>
      intro i Mx ls H locs cells slots hi h0 hTx hMx hc hs hl hP hD hS hE
      refine lv_iload_n hx hb dL_put_2 rfl (lv_at hl 0 rfl) ?_
      refine lv_aload_n hx hb dL_put_3 rfl (lv_at hl 2 rfl) ?_
      refine ct_Oi (VC_fix E cI cC) (ZS_ok E cI cC T q t n g) (ZS_bl E cI cC T q t n g) hZ S0 (kS_length l D E cI cC T Mx q t n g (by omega)) (cwV 0 hts gL_put_J0_length_8abf5 rfl rfl rfl (by decide +kernel) ⟨(Nat.le_of_ble_eq_true rfl), (Nat.le_of_ble_eq_true rfl)⟩) hK hP hD hS (va_Orecv (ZS_O hZ M) hS) rfl hl.1 rfl (Nat.le_of_ble_eq_true rfl) dL_put_4 ⟨by show cells ≤ 60; omega, by show slots ≤ 360; omega⟩ (fun H locs hP hD hS => ?_)
      refine z_icmp_ge hx hb dL_put_7 (tgt := 26) rfl ⟨by omega, by omega⟩ ⟨by omega, by omega⟩ (fun h => ?_) (fun h => absurd (show i ≥ (n : Int) by omega) h)
      rw [← hE]
      exact cn_v hx hb hr hlocks hS hP (by omega) (by omega) dL_put_26
    | succ k ih =>
      intro i Mx ls H locs cells slots hi h0 hTx hMx hc hs hl hP hD hS hE
      have hk1 : ((k + 1 : Nat) : Int) = (k : Int) + 1 := by omega
      rw [hk1] at hi hMx
      refine lv_iload_n hx hb dL_put_2 rfl (lv_at hl 0 rfl) ?_
      refine lv_aload_n hx hb dL_put_3 rfl (lv_at hl 2 rfl) ?_
      refine ct_Oi (VC_fix E cI cC) (ZS_ok E cI cC T q t n g) (ZS_bl E cI cC T q t n g) hZ S0 (kS_length l D E cI cC T Mx q t n g (by omega)) (cwV 0 hts gL_put_J0_length_8abf5 rfl rfl rfl (by decide +kernel) ⟨(Nat.le_of_ble_eq_true rfl), (Nat.le_of_ble_eq_true rfl)⟩) hK hP hD hS (va_Orecv (ZS_O hZ M) hS) rfl hl.1 rfl (Nat.le_of_ble_eq_true rfl) dL_put_4 ⟨by show cells ≤ 60; omega, by show slots ≤ 360; omega⟩ (fun H locs hP hD hS => ?_)
      refine z_icmp_ge hx hb dL_put_7 (tgt := 26) rfl ⟨by omega, by omega⟩ ⟨by omega, by omega⟩ (fun h => absurd h (by omega)) (fun h => ?_)
      refine lv_aload_n hx hb dL_put_10 rfl (lv_at hl 1 rfl) ?_
      refine lv_aload_n hx hb dL_put_11 rfl (lv_at hl 2 rfl) ?_
      refine lv_iload_n hx hb dL_put_12 rfl (lv_at hl 0 rfl) ?_
      have hgi := hg i h0 (by omega)
      refine ct_Oi (As := [.int (iI i)]) (VC_fix E cI cC) (ZS_ok E cI cC T q t n g) (ZS_bl E cI cC T q t n g) hZ S0 (kS_charAt l D E cI cC T Mx q t n g (by omega) i ⟨h0, by omega⟩ hgi) (cwV 1 hts gL_put_J0_charAt_5068e rfl rfl rfl (by decide +kernel) ⟨(Nat.le_of_ble_eq_true rfl), (Nat.le_of_ble_eq_true rfl)⟩) hK hP hD hS (va_Orecv (ZS_O hZ M) hS) rfl hl.1 rfl (Nat.le_of_ble_eq_true rfl) dL_put_13 ⟨by show cells ≤ 60; omega, by show slots ≤ 360; omega⟩ (fun H locs hP hD hS => ?_)
      refine l1_VX (rest := []) (As := [.int (iI (g i))]) S0 (kX8_type l hst D E cI cC T Mx (g i) ⟨by omega, by omega⟩ hTx 0 (Mx 11 0 + 1) (fX7_append Mx (g i)) (type_e hTx.1.1 (by omega))) (cwV 1 hts gL_put_X8_type rfl rfl rfl (by decide +kernel) ⟨(Nat.le_of_ble_eq_true rfl), (Nat.le_of_ble_eq_true rfl)⟩) (ZC_bl E cI cC T) (l1_Z (ZC_ok E cI cC T M) hS hZ.1) hK hP hD hS rfl hl.1 rfl (Nat.le_of_ble_eq_true rfl) dL_put_16 ⟨by show cells + 1 ≤ 60; omega, by show slots + 6 * 1 ≤ 360; omega⟩ (fun hk H locs hP hD hS => ?_) (fun hk => absurd rfl hk)
      refine lv_pop hx hb dL_put_19 rfl ?_
      refine z_iinc (k := 0) (n := 1) (lv' := [(2, .int (iI (i + 1))), (0, .ref (E 0)), (1, .ref q)]) hx hb dL_put_20 hl rfl (by decide) rfl (fun ls hl => ?_)
      refine lv_goto (tgt := 2) hx hb dL_put_23 (by decide) ?_
      exact ih (i + 1) (fX7_append Mx (g i)) ls H locs (cells + 1) (slots + 6 * 1) (by omega) (by omega) (TI_app2 hTx (by omega) hgi) (by rw [append_11 hTx.1.1 (by omega)]; omega) (by omega) (by omega) hl hP hD hS hE
  exact L n 0 M ls _ _ 0 0 (by omega) (by omega) hT h60 (by omega) (by omega) hl hP hD hS rfl
set_option maxRecDepth 100000 in
set_option maxHeartbeats 4000000 in
theorem kL_isLine (l : Launch) (hst : l.stackTraces = false) (D : va_G) (E : Nat → Nat) (cI cC : ClassId) (T : Nat → Nat) (M : Mem) (q t n : Nat) (g : Int → Int) (hn : n ≤ 60) (hg : ∀ i : Int, 0 ≤ i → i < n → 0 ≤ g i ∧ g i < 256) (hL : LN M) (hw : ∀ i : Int, 0 ≤ i → i < n → fX8_written M i = (0, g i)) : Cn l yL_isLine wsL_isLine 20 400 60 [.ref (E 0), .int (iI (n : Int)), .ref q] D (TY cI cC) (VC E cI cC) (ZS E cI cC T q t n g) M (some (.int (iI 1))) M := by
  refine Cn.of (cc := cL_isLine) (maxL := 4) (ret := (some .boolean)) (by decide +kernel) rfl (Nat.le_of_ble_eq_true rfl) ?_
  intro p e s m args below meth c ls hx hb hml hr hown hts hlocks hP hK hD hZ hS hl
  have hl : lv_has ls 4 [(0, .ref (E 0)), (1, .int (iI (n : Int))), (2, .ref q)] := hl
  have S0 : CallFix p m c cL_isLine 4 s args wsL_isLine RL := ⟨hx, hb, hml, hown, hts⟩
  refine lv_iload_n hx hb dL_isLine_0 rfl (lv_at hl 1 rfl) ?_
  refine lv_aload_n hx hb dL_isLine_1 rfl (lv_at hl 2 rfl) ?_
  refine ct_Oi (VC_fix E cI cC) (ZS_ok E cI cC T q t n g) (ZS_bl E cI cC T q t n g) hZ S0 (kS_length l D E cI cC T M q t n g (by omega)) (cwV 0 hts gL_isLine_J0_length_8abf5 rfl rfl rfl (by decide +kernel) ⟨(Nat.le_of_ble_eq_true rfl), (Nat.le_of_ble_eq_true rfl)⟩) hK hP hD hS (va_Orecv (ZS_O hZ M) hS) rfl hl.1 rfl (Nat.le_of_ble_eq_true rfl) dL_isLine_2 ⟨Nat.zero_le _, Nat.zero_le _⟩ (fun H locs hP hD hS => ?_)
  refine z_icmp_eq hx hb dL_isLine_5 (tgt := 10) rfl ⟨by omega, by omega⟩ ⟨by omega, by omega⟩ (fun h => ?_) (fun h => absurd rfl h)
  refine z_iconst hx hb dL_isLine_10 ?_
  refine lv_istore_n (lv' := [(3, .int (iI 0)), (0, .ref (E 0)), (1, .int (iI (n : Int))), (2, .ref q)]) hx hb dL_isLine_11 rfl hl (by decide) rfl (fun ls hl => ?_)
  have L : ∀ (k : Nat) (i : Int) (ls : Array Slot) (H : Heap) (locs : List Loc) (cells slots : Nat), i + k = n → 0 ≤ i → cells + k ≤ 60 → slots + 6 * k ≤ 360 → lv_has ls 4 [(3, .int (iI i)), (0, .ref (E 0)), (1, .int (iI (n : Int))), (2, .ref q)] → va_P D vwCl (VC E cI cC M) H → va_D (wA (VC E cI cC M)) (VC E cI cC M) → va_S (wA (VC E cI cC M)) s.heap H locs → W p l e (zRmx 20 400 60) s m args below meth c H locs cells slots (MQ below (cnQ D (VC E cI cC) M (some (.int (iI 1))) M) args s 60 (6 * 60) (wA (VC E cI cC M))) (F0 m 12 ls []) := by
    intro k
    induction k with
    | zero =>
      intro i ls H locs cells slots hi h0 hc hs hl hP hD hS
      refine lv_iload_n hx hb dL_isLine_12 rfl (lv_at hl 0 rfl) ?_
      refine lv_iload_n hx hb dL_isLine_13 rfl (lv_at hl 2 rfl) ?_
      refine z_icmp_ge hx hb dL_isLine_14 (tgt := 38) rfl ⟨by omega, by omega⟩ ⟨by omega, by omega⟩ (fun h => ?_) (fun h => absurd (show i ≥ (n : Int) by omega) h)
      refine z_iconst hx hb dL_isLine_38 ?_
      exact cn_i hx hb hr hlocks rfl nr_b1 hS hP (by omega) (by omega) dL_isLine_39
    | succ k ih =>
      intro i ls H locs cells slots hi h0 hc hs hl hP hD hS
      have hk1 : ((k + 1 : Nat) : Int) = (k : Int) + 1 := by omega
      rw [hk1] at hi
      refine lv_iload_n hx hb dL_isLine_12 rfl (lv_at hl 0 rfl) ?_
      refine lv_iload_n hx hb dL_isLine_13 rfl (lv_at hl 2 rfl) ?_
      refine z_icmp_ge hx hb dL_isLine_14 (tgt := 38) rfl ⟨by omega, by omega⟩ ⟨by omega, by omega⟩ (fun h => absurd h (by omega)) (fun h => ?_)
      refine lv_aload_n hx hb dL_isLine_17 rfl (lv_at hl 1 rfl) ?_
      refine lv_iload_n hx hb dL_isLine_18 rfl (lv_at hl 0 rfl) ?_
      have hgi := hg i h0 (by omega)
      refine l1_VX (rest := []) (As := [.int (iI i)]) S0 (kX8_written l hst D E cI cC T M i ⟨by omega, by omega⟩ hL 0 (g i) (hw i h0 (by omega))) (cwV 1 hts gL_isLine_X8_written rfl rfl rfl (by decide +kernel) ⟨(Nat.le_of_ble_eq_true rfl), (Nat.le_of_ble_eq_true rfl)⟩) (ZC_bl E cI cC T) (l1_Z (ZC_ok E cI cC T M) hS hZ.1) hK hP hD hS rfl hl.1 rfl (Nat.le_of_ble_eq_true rfl) dL_isLine_19 ⟨by show cells + 1 ≤ 60; omega, by show slots + 6 * 1 ≤ 360; omega⟩ (fun hk H locs hP hD hS => ?_) (fun hk => absurd rfl hk)
      refine lv_aload_n hx hb dL_isLine_22 rfl (lv_at hl 3 rfl) ?_
      refine lv_iload_n hx hb dL_isLine_23 rfl (lv_at hl 0 rfl) ?_
      refine ct_Oi (As := [.int (iI i)]) (rest := [.int (iI (g i))]) (VC_fix E cI cC) (ZS_ok E cI cC T q t n g) (ZS_bl E cI cC T q t n g) hZ S0 (kS_charAt l D E cI cC T M q t n g (by omega) i ⟨h0, by omega⟩ hgi) (cwV 1 hts gL_isLine_J0_charAt_5068e rfl rfl rfl (by decide +kernel) ⟨(Nat.le_of_ble_eq_true rfl), (Nat.le_of_ble_eq_true rfl)⟩) hK hP hD hS (va_Orecv (ZS_O hZ M) hS) rfl hl.1 rfl (Nat.le_of_ble_eq_true rfl) dL_isLine_24 ⟨by show cells + 1 ≤ 60; omega, by show slots + 6 * 1 ≤ 360; omega⟩ (fun H locs hP hD hS => ?_)
      refine z_icmp_eq hx hb dL_isLine_27 (tgt := 32) rfl ⟨by omega, by omega⟩ ⟨by omega, by omega⟩ (fun h => ?_) (fun h => absurd rfl h)
      refine z_iinc (k := 0) (n := 1) (lv' := [(3, .int (iI (i + 1))), (0, .ref (E 0)), (1, .int (iI (n : Int))), (2, .ref q)]) hx hb dL_isLine_32 hl rfl (by decide) rfl (fun ls hl => ?_)
      refine lv_goto (tgt := 12) hx hb dL_isLine_35 (by decide) ?_
      exact ih (i + 1) ls H locs (cells + 1) (slots + 6 * 1) (by omega) (by omega) (by omega) (by omega) hl hP hD hS
  exact L n 0 ls _ _ 0 0 (by omega) (by omega) (by omega) (by omega) hl hP hD hS
section
variable {p : Program} {l : Launch} {e : Env} {R : Room} {s : State} {m : MethodId} {args : Array Value} {below : List Frame} {meth : Method} {c : Code} {H : Heap} {locs : List Loc} {cells slots : Nat} {Q : State → Prop}
variable {cc : ByteArray} {pc : Nat} {ls : Array Slot} {rest : List Value}
variable {D : va_G} {A : Nat → Prop} {E : Nat → Nat} {cI cC : ClassId} {T : Nat → Nat} {Z : State → Prop}
theorem l1_S {y : MethodName} {bytes : ByteArray} {maxL nL nA index fr lo n : Nat} {ret : Option FieldType} {wsy Ts : List Cond} {own : String} {As stk : List Value} {M M' : Mem} {ov : Option Value}
    (S0 : CallFix p m c cc nL s args Ts own) (hM : Cn l y wsy fr lo n As D (TY cI cC) (VC E cI cC) Z M ov M') (cw : CallB R s args own index y bytes maxL ret wsy (zRmx fr lo n) n (6 * n) nA ∧ (Cond.static y).before args s = true) (hZb : ZBl Z) (hZ : ∀ U : State, U.heap = H → s.WarmedH U.vm → Z U) (hK : va_K D vwCl (TY cI cC) s) (hP : va_P D vwCl (VC E cI cC M) H) (hD : va_D A (VC E cI cC M)) (hS : va_S A s.heap H locs)
    (hn : As.length = nA) (hsize : ls.size = nL) (hst : stk = As.reverse ++ rest) (hcat : (rest.map fun v => v.category).sum ≤ 8) (hdg : decode cc pc = .ok (.invokestatic index, 3)) (hf : cells + n ≤ R.cells ∧ slots + 6 * n ≤ R.slots)
    (kk : ∀ (H1 : Heap) (locs1 : List Loc), va_P D vwCl (VC E cI cC M') H1 → va_D A (VC E cI cC M') → va_S A s.heap H1 locs1 → W p l e R s m args below meth c H1 locs1 (cells + n) (slots + 6 * n) Q (F0 m (pc + 3) ls (ov.toList ++ rest))) : W p l e R s m args below meth c H locs cells slots Q (F0 m pc ls stk) :=
  lx_S (wr := []) (w2 := VC E cI cC M') r19 [] r19 S0 hM cw hZb hZ hK hP hD hS rfl rfl rfl (fun i h => absurd h List.not_mem_nil) rfl rfl hn hsize hst hcat hdg hf kk
theorem l1_SW {y : MethodName} {bytes : ByteArray} {maxL nL nA index fr lo n : Nat} {ret : Option FieldType} {hh : List (Nat × Nat × Nat × Nat)} {wsy Ts : List Cond} {own : String} {As stk : List Value} {M M' : Mem} {ov : Option Value}
    (S0 : CallFix p m c cc nL s args Ts own) (hM : Cn l y wsy fr lo n As D (TY cI cC) (VC E cI cC) Z M ov M') (cw : vx_CSW R s args own index y bytes maxL ret hh wsy (zRmx fr lo n) n (6 * n) nA) (hZb : ZBl Z) (hZ : ∀ U : State, U.heap = H → s.WarmedH U.vm → Z U) (hK : va_K D vwCl (TY cI cC) s) (hP : va_P D vwCl (VC E cI cC M) H) (hD : va_D A (VC E cI cC M)) (hS : va_S A s.heap H locs)
    (hn : As.length = nA) (hsize : ls.size = nL) (hst : stk = As.reverse ++ rest) (hcat : (rest.map fun v => v.category).sum ≤ 8) (hdg : decode cc pc = .ok (.invokestatic index, 3)) (hf : cells + n ≤ R.cells ∧ slots + 6 * n ≤ R.slots)
    (kk : ∀ (H1 : Heap) (locs1 : List Loc), va_P D vwCl (VC E cI cC M') H1 → va_D A (VC E cI cC M') → va_S A s.heap H1 locs1 → W p l e R s m args below meth c H1 locs1 (cells + n) (slots + 6 * n) Q (F0 m (pc + 3) ls (ov.toList ++ rest))) : W p l e R s m args below meth c H locs cells slots Q (F0 m pc ls stk) :=
  lx_SW (wr := []) (w2 := VC E cI cC M') r19 [] r19 S0 hM cw hZb hZ hK hP hD hS rfl rfl rfl (fun i h => absurd h List.not_mem_nil) rfl rfl hn hsize hst hcat hdg hf kk
end
set_option maxRecDepth 100000 in
set_option maxHeartbeats 4000000 in
/-- a text that is malformed at a place -/
theorem kL_faults (l : Launch) (hst : l.stackTraces = false) (D : va_G) (E : Nat → Nat) (cI cC : ClassId) (T : Nat → Nat) (M M2 : Mem) (q t n : Nat) (g : Int → Int) (place r : Int) (hn : n ≤ 60) (hg : ∀ i : Int, 0 ≤ i → i < n → 0 ≤ g i ∧ g i < 256) (hT : TI M) (h60 : M 11 0 + n ≤ 60) (hC1 : CI (fL_put M n g)) (hQ1 : SI (fL_put M n g)) (hT1 : TI (fL_put M n g)) (hH1 : HN (fL_put M n g)) (hR : fX8_read (fL_put M n g) = (2, r, M2)) (hp : M2 17 0 = place) (hp0 : 0 ≤ place) (hp1 : place ≤ 60) : Cn l yL_faults wsL_faults 40 1000 70 [.ref (E 0), .ref q, .int (iI place)] D (TY cI cC) (VC E cI cC) (ZT E cI cC T q t n g) M (some (.int (iI 1))) M2 := by
  refine Cn.of (cc := cL_faults) (maxL := 3) (ret := (some .boolean)) (by decide +kernel) rfl (Nat.le_of_ble_eq_true rfl) ?_
  intro p e s m args below meth c ls hx hb hml hr hown hts hlocks hP hK hD hZ hS hl
  have hl : lv_has ls 3 [(0, .ref (E 0)), (1, .ref q), (2, .int (iI place))] := hl
  have S0 : CallFix p m c cL_faults 3 s args wsL_faults RL := ⟨hx, hb, hml, hown, hts⟩
  refine lv_aload_n hx hb dL_faults_0 rfl (lv_at hl 0 rfl) ?_
  refine lv_aload_n hx hb dL_faults_1 rfl (lv_at hl 1 rfl) ?_
  refine l1_S (rest := []) (As := [.ref (E 0), .ref q]) S0 (kL_put l hst D E cI cC T M q t n g hn hg hT h60) (va_cwS 2 hts gL_faults_L_put rfl rfl rfl (by decide +kernel) ⟨(Nat.le_of_ble_eq_true rfl), (Nat.le_of_ble_eq_true rfl)⟩) (ZS_bl E cI cC T q t n g) (l1_Z (ZS_ok E cI cC T q t n g M) hS hZ.1) hK hP hD hS rfl hl.1 rfl (Nat.le_of_ble_eq_true rfl) dL_faults_2 ⟨by decide, by decide⟩ (fun H locs hP hD hS => ?_)
  refine lv_aload_n hx hb dL_faults_5 rfl (lv_at hl 0 rfl) ?_
  have hrun := kL_runs l hst D E cI cC T (fL_put M n g) hC1 hQ1 hT1 hH1
  rw [fL_runs, hR, r1_2] at hrun
  refine l1_SW (rest := []) (As := [.ref (E 0)]) S0 hrun (vx_cwSW 1 hts gL_faults_L_runs rfl rfl rfl (by decide +kernel) ⟨(Nat.le_of_ble_eq_true rfl), (Nat.le_of_ble_eq_true rfl)⟩) (ZL_bl E cI cC T) (l1_Z (ZL_ok E cI cC T M) hS ⟨hZ.1.1, hZ.2⟩) hK hP hD hS rfl hl.1 rfl (Nat.le_of_ble_eq_true rfl) dL_faults_6 ⟨by decide, by decide⟩ (fun H locs hP hD hS => ?_)
  refine z_iconst hx hb dL_faults_9 ?_
  refine z_icmp_ne hx hb dL_faults_10 (tgt := 25) rfl (by decide) (by decide) (fun h => absurd rfl h) (fun h => ?_)
  refine lv_aload_n hx hb dL_faults_13 rfl (lv_at hl 0 rfl) ?_
  have he : fX8_errorPosition M2 = (0, place) := by
    unfold fX8_errorPosition
    rw [hp, if_neg (by omega)]
  refine l1_VX (rest := []) (As := []) S0 (kX8_errorPosition l hst D E cI cC T M2 ⟨by omega, by omega⟩ 0 place he) (cwV 0 hts gL_faults_X8_errorPosition rfl rfl rfl (by decide +kernel) ⟨(Nat.le_of_ble_eq_true rfl), (Nat.le_of_ble_eq_true rfl)⟩) (ZC_bl E cI cC T) (l1_Z (ZC_ok E cI cC T M) hS hZ.1.1) hK hP hD hS rfl hl.1 rfl (Nat.le_of_ble_eq_true rfl) dL_faults_14 ⟨by decide, by decide⟩ (fun hk H locs hP hD hS => ?_) (fun hk => absurd rfl hk)
  refine lv_iload_n hx hb dL_faults_17 rfl (lv_at hl 2 rfl) ?_
  refine z_icmp_ne hx hb dL_faults_18 (tgt := 25) rfl ⟨by omega, by omega⟩ ⟨by omega, by omega⟩ (fun h => absurd rfl h) (fun h => ?_)
  refine z_iconst hx hb dL_faults_21 ?_
  refine lv_goto (tgt := 26) hx hb dL_faults_22 (by decide) ?_
  exact cn_i hx hb hr hlocks rfl nr_b1 hS hP (by decide) (by decide) dL_faults_26
