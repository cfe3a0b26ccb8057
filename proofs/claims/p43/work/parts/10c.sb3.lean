/-! STRINGBUILDER, going on: toString; a row that grows (written by mk10c.py). -/
section
variable {p : Program} {l : Launch} {e : Env} {R : Room} {s : State} {m : MethodId} {args : Array Value} {below : List Frame} {meth : Method} {c : Code} {H : Heap} {locs : List Loc} {cells slots : Nat} {Q : State → Prop}
variable {cc : ByteArray} {pc : Nat} {ls : Array Slot} {rest : List Value} {D : va_G} {V : Mem → va_W} {M M' : Mem} {A0 : Nat → Prop} {H0 : Heap} {st0 : List Value} {a : Array Value}
theorem ga_i {r : Int} (hr : va_Run p l e R s m args below meth c H locs cells slots 0 0 (F0 m pc ls st0) rest (ciQ D V M r M' a) (wA (V M))) (hS : va_S A0 H0 H locs) (hA : ∀ q, wA (V M) q → A0 q)
    (kk : ∀ (H1 : Heap) (locs1 : List Loc), va_P D vwCl (V M') H1 → va_S A0 H0 H1 locs1 → W p l e R s m args below meth c H1 locs1 cells slots Q (F0 m (pc + 3) ls (.int (iI r) :: rest))) : W p l e R s m args below meth c H locs cells slots Q (F0 m pc ls st0) := by
  refine va_calli (S := Unit) hr hS (fun q _ h => hA q h) hA (fun r' u t H1 locs1 ht hvm hp hB hz hk hS1 => ?_)
  rw [show r' = iI r from hp]
  rw [ht] at hB
  exact kk H1 locs1 hB hS1
theorem ga_v (hr : va_Run p l e R s m args below meth c H locs cells slots 0 0 (F0 m pc ls st0) rest (cvQ D V M M' a) (wA (V M))) (hS : va_S A0 H0 H locs) (hA : ∀ q, wA (V M) q → A0 q)
    (kk : ∀ (H1 : Heap) (locs1 : List Loc), va_P D vwCl (V M') H1 → va_S A0 H0 H1 locs1 → W p l e R s m args below meth c H1 locs1 cells slots Q (F0 m (pc + 3) ls rest)) : W p l e R s m args below meth c H locs cells slots Q (F0 m pc ls st0) := by
  refine va_callv (S := Unit) hr hS (fun q _ h => hA q h) hA (fun u t H1 locs1 ht hvm hp hB hz hk hS1 => ?_)
  rw [ht] at hB
  exact kk H1 locs1 hB hS1
theorem cr_any (hx : p.tables.exec = Jvm.exec) (hb : c.code = cc) {ty : FieldType} (hr : meth.sig.returnType = some ty) (hlocks : meth.locks = false) {v : Int} (hn : narrow ty (.int (iI v)) = .int (iI v)) (hS : va_S (wA (V M)) s.heap H locs) (hP : va_P D vwCl (V M') H) (hdg : decode cc pc = .ok (.ireturn, 1)) : W p l e R s m args below meth c H locs 0 0 (MQ below (crQ D V M (.int (iI v)) M') args s 0 0 (wA (V M))) (F0 m pc ls [.int (iI v)]) :=
  W.zret hx hb hr hn (fun t ht hW => ⟨⟨rfl, by rw [ht]; exact hP⟩, hS.F ht⟩) hS.2.2 hdg hlocks
theorem cr_arr (hx : p.tables.exec = Jvm.exec) (hb : c.code = cc) {ty : FieldType} (hr : meth.sig.returnType = some (.array ty)) (hlocks : meth.locks = false) {x : Nat} (hS : va_S (wA (V M)) s.heap H locs) (hP : va_P D vwCl (V M') H) (hdg : decode cc pc = .ok (.areturn, 1)) : W p l e R s m args below meth c H locs 0 0 (MQ below (crQ D V M (.ref x) M') args s 0 0 (wA (V M))) (F0 m pc ls [.ref x]) :=
  W.aret hx hb hr (Or.inr ⟨_, rfl⟩) (Or.inr ⟨_, rfl⟩) (fun t ht hW => ⟨⟨rfl, by rw [ht]; exact hP⟩, hS.F ht⟩) hS.2.2 hdg hlocks
end
theorem va_A_out {W0 : va_W} {sz q : Nat} (h1 : q < sz) (h2 : ¬ wA W0 q) : ¬ va_A W0 sz q := by
  rintro (⟨k, e, hk⟩ | h9)
  · exact h2 (List.mem_map.mpr ⟨_, List.mem_of_getElem? hk, rfl⟩)
  · exact absurd h9 (Nat.not_le.mpr h1)
/-- a new String hs beside a builder -/
def VS (hs h a : Nat) (cB : ClassId) (cap : Nat) (fs : List Value) (M : Mem) : va_W := [(hs, .inr (0, fs)), (h, .inr (9, [.ref a, .int (iI 0), .int (iI 0), .int (iI (M 0 0))])), (a, .inl (cB, cap, .inl (aI (M 1))))]
theorem VS_fix (hs h a : Nat) (cB : ClassId) (cap : Nat) (fs : List Value) : VFix (VS hs h a cB cap fs) := fun _ _ => rfl
theorem VS_1 {hs h a : Nat} {cB : ClassId} {cap : Nat} {fs : List Value} {M : Mem} : (VS hs h a cB cap fs M)[1]? = some (h, .inr (9, [.ref a, .int (iI 0), .int (iI 0), .int (iI (M 0 0))])) := rfl
abbrev fs0 : List Value := [.null, .int (iI 0), .int (iI 0), .int (iI 0)]
def AS (hs h a : Nat) : Nat → Prop := wA (VS hs h a 0 0 fs0 (fun _ _ => 0))
def ZS3 (hs h a : Nat) (U : State) : Prop := va_Z RJ0 "COMPACT_STRINGS" "Z" (.int (iI 1)) (AS hs h a) U U.heap ∧ va_Nw (.castable "[B" "java/lang/Cloneable") U
theorem ZS3.keep {hs h a : Nat} {s U : State} (hW : s.WarmedH U.vm) (hq : ∀ q : Nat, q < s.heap.size → ¬ AS hs h a q → U.heap[q]? = s.heap[q]?) (z : ZS3 hs h a s) : ZS3 hs h a U := ⟨va_Z.moved hW.alike (z.1.kept hq), va_Nw.warmC hW z.2⟩
theorem ZS3_ok (hs h a : Nat) (cB : ClassId) (cap : Nat) (fs : List Value) : ∀ M : Mem, ZOk (VS hs h a cB cap fs M) (ZS3 hs h a) := fun M s U hW _ hq hz => hz.keep hW (fun q h1 h2 => hq q h1 h2)
theorem ZS3_bl (hs h a : Nat) : ZBl (ZS3 hs h a) := fun x U g mk hz => hz.keep (s := U) (U := U.calling g mk x) (State.WarmedH.refl U) (fun _ _ _ => rfl)
set_option maxRecDepth 100000 in
set_option maxHeartbeats 4000000 in
theorem kT_getValue (l : Launch) (D : va_G) (hs h a : Nat) (cB : ClassId) (cap : Nat) (fs : List Value) (M : Mem) : Cr l yJ5_getValue_6d5f1 wsJ5_getValue_6d5f1 0 0 [.ref h] D (TYB cB) (VS hs h a cB cap fs) (ZS3 hs h a) M (.ref a) M := by
  refine Cr.of (cc := cJ5_getValue_6d5f1) (maxL := 1) (ret := (some (.array .byte))) (by decide +kernel) rfl (Nat.le_of_ble_eq_true rfl) ?_
  intro p e s m args below meth c ls hx hb hml hr hown hts hlocks hP hK hD hZ hS hl
  have hl : lv_has ls 1 [(0, .ref h)] := hl
  have S0 : CallFix p m c cJ5_getValue_6d5f1 1 s args wsJ5_getValue_6d5f1 RJ5 := ⟨hx, hb, hml, hown, hts⟩
  have hin4 : ∀ w ∈ u_ws RJ4 TJ4 4, w ∈ wsJ5_getValue_6d5f1 := by decide +kernel
  refine lv_aload_n hx hb dJ5_getValue_6d5f1_0 rfl (lv_at hl 0 rfl) ?_
  refine va_get (own := RJ5) (ref := "java/lang/AbstractStringBuilder") (C := RJ4) (T := TJ4) (N := 4) hx hb hts hin4 hown hK hP 1 VS_1 rfl 0 (Nat.le_of_ble_eq_true rfl) (hts (.fieldLink RJ5 15 "java/lang/AbstractStringBuilder" "value" "[B") (by decide +kernel)) (fun _ h => h) (v := .ref a) rfl dJ5_getValue_6d5f1_1 ?_
  exact cr_arr hx hb hr hlocks hS hP dJ5_getValue_6d5f1_4
set_option maxRecDepth 100000 in
set_option maxHeartbeats 4000000 in
theorem kT_length5 (l : Launch) (D : va_G) (hs h a : Nat) (cB : ClassId) (cap : Nat) (fs : List Value) (M : Mem) : Cr l yJ5_length_8abf5 wsJ5_length_8abf5 0 0 [.ref h] D (TYB cB) (VS hs h a cB cap fs) (ZS3 hs h a) M (.int (iI (M 0 0))) M := by
  refine Cr.of (cc := cJ5_length_8abf5) (maxL := 1) (ret := (some .int)) (by decide +kernel) rfl (Nat.le_of_ble_eq_true rfl) ?_
  intro p e s m args below meth c ls hx hb hml hr hown hts hlocks hP hK hD hZ hS hl
  have hl : lv_has ls 1 [(0, .ref h)] := hl
  have S0 : CallFix p m c cJ5_length_8abf5 1 s args wsJ5_length_8abf5 RJ5 := ⟨hx, hb, hml, hown, hts⟩
  have hin4 : ∀ w ∈ u_ws RJ4 TJ4 4, w ∈ wsJ5_length_8abf5 := by decide +kernel
  refine lv_aload_n hx hb dJ5_length_8abf5_0 rfl (lv_at hl 0 rfl) ?_
  refine va_get (own := RJ5) (ref := "java/lang/AbstractStringBuilder") (C := RJ4) (T := TJ4) (N := 4) hx hb hts hin4 hown hK hP 1 VS_1 rfl 3 (Nat.le_of_ble_eq_true rfl) (hts (.fieldLink RJ5 79 "java/lang/AbstractStringBuilder" "count" "I") (by decide +kernel)) (fun _ h => h) (v := .int (iI (M 0 0))) rfl dJ5_length_8abf5_1 ?_
  exact cr_any hx hb hr hlocks rfl hS hP dJ5_length_8abf5_4
set_option maxRecDepth 100000 in
set_option maxHeartbeats 4000000 in
theorem kT_length (l : Launch) (D : va_G) (hs h a : Nat) (cB : ClassId) (cap : Nat) (fs : List Value) (M : Mem) : Cr l yJ4_length_8abf5 wsJ4_length_8abf5 1 40 [.ref h] D (TYB cB) (VS hs h a cB cap fs) (ZS3 hs h a) M (.int (iI (M 0 0))) M := by
  refine Cr.of (cc := cJ4_length_8abf5) (maxL := 1) (ret := (some .int)) (by decide +kernel) rfl (Nat.le_of_ble_eq_true rfl) ?_
  intro p e s m args below meth c ls hx hb hml hr hown hts hlocks hP hK hD hZ hS hl
  have hl : lv_has ls 1 [(0, .ref h)] := hl
  have S0 : CallFix p m c cJ4_length_8abf5 1 s args wsJ4_length_8abf5 RJ4 := ⟨hx, hb, hml, hown, hts⟩
  refine lv_aload_n hx hb dJ4_length_8abf5_0 rfl (lv_at hl 0 rfl) ?_
  refine ct_SUr (As := []) (rest := []) (VS_fix hs h a cB cap fs) (ZS3_ok hs h a cB cap fs) (ZS3_bl hs h a) hZ S0 (kT_length5 l D hs h a cB cap fs M) (va_cwSU 0 hts gJ4_length_8abf5_J5_length_8abf5_s343 rfl rfl rfl (by decide +kernel) ⟨(Nat.le_of_ble_eq_true rfl), (Nat.le_of_ble_eq_true rfl)⟩) hK hP hD hS (va_recv hK hP (ci := 9) (q0 := 1) rfl VS_1) rfl hl.1 rfl (Nat.le_of_ble_eq_true rfl) dJ4_length_8abf5_1 ⟨Nat.zero_le _, Nat.zero_le _⟩ (fun H locs hP hD hS => ?_)
  exact cr_any hx hb hr hlocks rfl hS hP dJ4_length_8abf5_4
set_option maxRecDepth 100000 in
set_option maxHeartbeats 4000000 in
theorem kT_isLatin1 (l : Launch) (D : va_G) (hs h a : Nat) (cB : ClassId) (cap : Nat) (fs : List Value) (M : Mem) : Cr l yJ5_isLatin1_aae02 wsJ5_isLatin1_aae02 0 0 [.ref h] D (TYB cB) (VS hs h a cB cap fs) (ZS3 hs h a) M (.int (iI 1)) M := by
  refine Cr.of (cc := cJ5_isLatin1_aae02) (maxL := 1) (ret := (some .boolean)) (by decide +kernel) rfl (Nat.le_of_ble_eq_true rfl) ?_
  intro p e s m args below meth c ls hx hb hml hr hown hts hlocks hP hK hD hZ hS hl
  have hl : lv_has ls 1 [(0, .ref h)] := hl
  have S0 : CallFix p m c cJ5_isLatin1_aae02 1 s args wsJ5_isLatin1_aae02 RJ5 := ⟨hx, hb, hml, hown, hts⟩
  have hin4 : ∀ w ∈ u_ws RJ4 TJ4 4, w ∈ wsJ5_isLatin1_aae02 := by decide +kernel
  refine va_gets hx hb hZ.1 hS hown (hts (.fieldLink RJ5 18 "java/lang/String" "COMPACT_STRINGS" "Z") (by decide +kernel)) (fun _ h => h) dJ5_isLatin1_aae02_0 ?_
  refine z_if_eq hx hb dJ5_isLatin1_aae02_3 (tgt := 17) rfl (by decide) (fun hbr => absurd hbr (by decide)) (fun hbr => ?_)
  refine lv_aload_n hx hb dJ5_isLatin1_aae02_6 rfl (lv_at hl 0 rfl) ?_
  refine va_get (own := RJ5) (ref := "java/lang/AbstractStringBuilder") (C := RJ4) (T := TJ4) (N := 4) hx hb hts hin4 hown hK hP 1 VS_1 rfl 1 (Nat.le_of_ble_eq_true rfl) (hts (.fieldLink RJ5 22 "java/lang/AbstractStringBuilder" "coder" "B") (by decide +kernel)) (fun _ h => h) (v := .int (iI 0)) rfl dJ5_isLatin1_aae02_7 ?_
  refine z_if_ne hx hb dJ5_isLatin1_aae02_10 (tgt := 17) rfl (by decide) (fun hbr => absurd hbr (by decide)) (fun hbr => ?_)
  refine z_iconst hx hb dJ5_isLatin1_aae02_13 ?_
  refine lv_goto (tgt := 18) hx hb dJ5_isLatin1_aae02_14 (by decide) ?_
  exact cr_any hx hb hr hlocks nr_b1 hS hP dJ5_isLatin1_aae02_18
set_option maxRecDepth 100000 in
set_option maxHeartbeats 4000000 in
theorem kB_strI (l : Launch) (D : va_G) (hs h a : Nat) (cB : ClassId) (cap n : Nat) (M : Mem) (sz : Nat) (hk : M 0 0 = n) (hn : 0 < n ∧ n ≤ cap) (hcap : cap ≤ 65536) (hg : ∀ i : Int, 0 ≤ i → i < cap → 0 ≤ M 1 i ∧ M 1 i < 128) : Cg l yJ0_init_db425 wsJ0_init_db425 { frames := 70, cells := 1, slots := n, locals := 2300 } [.ref hs, .ref h, .null] D (TYB cB) (VS hs h a cB cap fs0 M) (ZS3 hs h a) (fun _ _ τ => ∀ j : Int, 0 ≤ j → j < n → τ j = M 1 j) (fun _ _ => none) (fun _ v τ => [(hs, .inr (0, [.ref v, .int (iI 0), .int (iI 0), .int (iI 0)])), (h, .inr (9, [.ref a, .int (iI 0), .int (iI 0), .int (iI (M 0 0))])), (a, .inl (cB, cap, .inl (aI (M 1)))), (v, .inl (cB, n, .inl (aI τ)))]) 1 n sz := by
  refine Cg.of (cc := cJ0_init_db425) (maxL := 5) (ret := none) (by decide +kernel) rfl (Nat.le_of_ble_eq_true rfl) ?_
  intro A p e s m args below meth c ls hx hb hml hr hown hts hlocks hin hP hK hD hZ hS hA hAe hl
  have hl : lv_has ls 5 [(0, .ref hs), (1, .ref h), (2, .null)] := hl
  have S0 : CallFix p m c cJ0_init_db425 5 s args wsJ0_init_db425 RJ0 := ⟨hx, hb, hml, hown, hts⟩
  have hin4 : ∀ w ∈ u_ws RJ4 TJ4 4, w ∈ wsJ0_init_db425 := by decide +kernel
  have hin0 : ∀ w ∈ u_ws RJ0 TJ0 4, w ∈ wsJ0_init_db425 := by decide +kernel
  have hin5 : ∀ q, AS hs h a q → A q := fun q h9 => wA_in hD q h9
  have hZU : ∀ U : State, s.WarmedH U.vm → (∀ q : Nat, q < s.heap.size → ¬ A q → U.heap[q]? = s.heap[q]?) → ZS3 hs h a U := fun U hW hq => hZ.keep hW (fun q h1 h2 => hq q h1 (by rw [hAe]; exact va_A_out h1 h2))
  refine lv_aload_n hx hb dJ0_init_db425_0 rfl (lv_at hl 0 rfl) ?_
  refine W.objInit hx hb hown (hts (.methodLink RJ0 1 objectInit) (by decide +kernel)) (hts (.instanceMethod objectInit) (by decide +kernel)) (hts (.code objectInit ⟨#[0xb1]⟩ 1 none) (by decide +kernel)) rfl (by rw [hml]; exact hl.1) rfl dJ0_init_db425_1 (Nat.le_of_ble_eq_true rfl) (Nat.le_of_ble_eq_true rfl) ?_
  refine W.eq (g2 := F0 m 4 ls []) rfl ?_
  refine lv_aload_n hx hb dJ0_init_db425_4 rfl (lv_at hl 1 rfl) ?_
  refine ct_run (rest := []) (va_runU (As := []) (rest := []) S0 (kT_getValue l D hs h a cB cap fs0 M) (va_cwU 0 hts gJ0_init_db425_J5_getValue_6d5f1_u552J4 rfl rfl rfl rfl (by decide +kernel) ⟨(Nat.le_of_ble_eq_true rfl), (Nat.le_of_ble_eq_true rfl)⟩) ⟨wr_blind (ZS3_bl hs h a), va_recv hK hP (ci := 9) (q0 := 1) rfl VS_1, fun U hU hW => ⟨rfl, by rw [hU]; exact hP, va_K.moved hW.alike hK, wA_any hD, hZU U hW (fun q h1 h2 => (congrArg (fun z => z[q]?) hU).trans (hS.2.1 q h1 h2))⟩⟩ rfl rfl hl.1 rfl (lv_room (Nat.le_of_ble_eq_true rfl)) dJ0_init_db425_5 ⟨Nat.zero_le _, Nat.zero_le _⟩) hS (fun q h => wA_in hD q h) (fun H locs hP hS => ?_)
  refine lv_astore_n (lv' := [(3, .ref a), (0, .ref hs), (1, .ref h), (2, .null)]) hx hb dJ0_init_db425_8 rfl hl (by decide) rfl (fun ls hl => ?_)
  refine lv_aload_n hx hb dJ0_init_db425_9 rfl (lv_at hl 2 rfl) ?_
  refine ct_run (rest := []) (va_runU (As := []) (rest := []) S0 (kT_length l D hs h a cB cap fs0 M) (va_cwO 0 hts gJ0_init_db425_J4_length_8abf5_u549J4 rfl rfl rfl (b0 := cJ5_length_8abf5) (m0 := 1) (r0 := some .int) (by decide +kernel) (by decide +kernel) ⟨(Nat.le_of_ble_eq_true rfl), (Nat.le_of_ble_eq_true rfl)⟩) ⟨wr_blind (ZS3_bl hs h a), va_recv hK hP (ci := 9) (q0 := 1) rfl VS_1, fun U hU hW => ⟨rfl, by rw [hU]; exact hP, va_K.moved hW.alike hK, wA_any hD, hZU U hW (fun q h1 h2 => (congrArg (fun z => z[q]?) hU).trans (hS.2.1 q h1 h2))⟩⟩ rfl rfl hl.1 rfl (lv_room (Nat.le_of_ble_eq_true rfl)) dJ0_init_db425_10 ⟨Nat.zero_le _, Nat.zero_le _⟩) hS (fun q h => wA_in hD q h) (fun H locs hP hS => ?_)
  rw [hk]
  refine lv_istore (lv' := [(4, .int (iI (n : Int))), (3, .ref a), (0, .ref hs), (1, .ref h), (2, .null)]) hx hb dJ0_init_db425_13 hl (by decide) rfl (fun ls hl => ?_)
  refine lv_aload_n hx hb dJ0_init_db425_15 rfl (lv_at hl 3 rfl) ?_
  refine ct_run (rest := []) (va_runU (As := []) (rest := []) S0 (kT_isLatin1 l D hs h a cB cap fs0 M) (va_cwU 0 hts gJ0_init_db425_J5_isLatin1_aae02_u1047J4 rfl rfl rfl rfl (by decide +kernel) ⟨(Nat.le_of_ble_eq_true rfl), (Nat.le_of_ble_eq_true rfl)⟩) ⟨wr_blind (ZS3_bl hs h a), va_recv hK hP (ci := 9) (q0 := 1) rfl VS_1, fun U hU hW => ⟨rfl, by rw [hU]; exact hP, va_K.moved hW.alike hK, wA_any hD, hZU U hW (fun q h1 h2 => (congrArg (fun z => z[q]?) hU).trans (hS.2.1 q h1 h2))⟩⟩ rfl rfl hl.1 rfl (lv_room (Nat.le_of_ble_eq_true rfl)) dJ0_init_db425_16 ⟨Nat.zero_le _, Nat.zero_le _⟩) hS (fun q h => wA_in hD q h) (fun H locs hP hS => ?_)
  refine z_if_eq hx hb dJ0_init_db425_19 (tgt := 41) rfl (by decide) (fun hbr => absurd hbr (by decide)) (fun hbr => ?_)
  refine lv_aload_n hx hb dJ0_init_db425_22 rfl (lv_at hl 2 rfl) ?_
  refine z_iconst hx hb dJ0_init_db425_23 ?_
  refine va_putF (D := D) (ci := 0) (v := .int (iI 0)) (ty := .byte) (C := RJ0) (T := TJ0) (N := 4) hx hb hts hin0 tyJ0 tyJ0_ok nmJ0 hown hK hP hD hS 0 rfl rfl 1 (by decide) (hts (.fieldLink RJ0 15 "java/lang/String" "coder" "B") (by decide +kernel)) (fun _ h9 => h9) rfl hin rfl (by decide +kernel) rfl rfl (Nat.le_of_ble_eq_true rfl) dJ0_init_db425_24 (fun H locs hP hD hS => ?_)
  have hP : va_P D vwCl (VS hs h a cB cap fs0 M) H := hP
  have hD : va_D A (VS hs h a cB cap fs0 M) := hD
  refine lv_aload_n hx hb dJ0_init_db425_27 rfl (lv_at hl 2 rfl) ?_
  refine lv_aload_n hx hb dJ0_init_db425_28 rfl (lv_at hl 1 rfl) ?_
  refine z_iconst hx hb dJ0_init_db425_29 ?_
  refine lv_iload hx hb dJ0_init_db425_30 (lv_at hl 0 rfl) ?_
  refine cg_call (wc := [(a, .inl (cB, cap, .inl (aI (M 1))))]) (wr := [(hs, .inr (0, fs0)), (h, .inr (9, [.ref a, .int (iI 0), .int (iI 0), .int (iI (M 0 0))]))]) [2] [0, 1] rfl rfl rfl rfl (by decide) hP hD hS hA (va_runS (As := [.ref a, .int (iI 0), .int (iI (n : Int))]) (rest := [.ref hs]) S0 (kB_copyR l D a cB cap n (M 1) H.size hn hcap hg) (va_cwS 3 hts gJ0_init_db425_J7_copyOfRange_39247 rfl rfl rfl (by decide +kernel) ⟨(Nat.le_of_ble_eq_true rfl), (Nat.le_of_ble_eq_true rfl)⟩) (cg_pre ZK2_bl (fun U hU hW => (hZU U hW (fun q h1 h2 => by rw [hU]; exact hS.2.1 q h1 h2)).2) hK hP hD [2] rfl rfl) rfl rfl hl.1 rfl (lv_room (Nat.le_of_ble_eq_true rfl)) dJ0_init_db425_32 ⟨(Nat.le_of_ble_eq_true rfl), by show 0 + n ≤ n; omega⟩) (fun v v2 τ H locs hτ hP hD hS => ?_)
  have hP : va_P D vwCl [(hs, .inr (0, fs0)), (h, .inr (9, [.ref a, .int (iI 0), .int (iI 0), .int (iI (M 0 0))])), (a, .inl (cB, cap, .inl (aI (M 1)))), (v, .inl (cB, n, .inl (aI τ)))] H := hP
  have hD : va_D A [(hs, .inr (0, fs0)), (h, .inr (9, [.ref a, .int (iI 0), .int (iI 0), .int (iI (M 0 0))])), (a, .inl (cB, cap, .inl (aI (M 1)))), (v, .inl (cB, n, .inl (aI τ)))] := hD
  refine va_putF (D := D) (ci := 0) (v := .ref v) (ty := .array .byte) (C := RJ0) (T := TJ0) (N := 4) hx hb hts hin0 tyJ0 tyJ0_ok nmJ0 hown hK hP hD hS 0 rfl rfl 0 (by decide) (hts (.fieldLink RJ0 9 "java/lang/String" "value" "[B") (by decide +kernel)) (fun _ h9 => h9) rfl hin rfl (by decide +kernel) rfl rfl (Nat.le_of_ble_eq_true rfl) dJ0_init_db425_35 (fun H locs hP hD hS => ?_)
  refine lv_goto hx hb dJ0_init_db425_38 (tgt := 97) rfl ?_
  rw [hk] at hP hD
  exact cg_void hx hb hr hlocks 0 v τ rfl hτ hP hD hS (by decide) (by omega) dJ0_init_db425_97
set_option maxRecDepth 100000 in
set_option maxHeartbeats 4000000 in
theorem kB_strS (l : Launch) (D : va_G) (hs h a : Nat) (cB : ClassId) (cap n : Nat) (M : Mem) (sz : Nat) (hk : M 0 0 = n) (hn : 0 < n ∧ n ≤ cap) (hcap : cap ≤ 65536) (hg : ∀ i : Int, 0 ≤ i → i < cap → 0 ≤ M 1 i ∧ M 1 i < 128) : Cg l yJ0_init_81219 wsJ0_init_81219 { frames := 71, cells := 1, slots := n, locals := 2400 } [.ref hs, .ref h] D (TYB cB) (VS hs h a cB cap fs0 M) (ZS3 hs h a) (fun _ _ τ => ∀ j : Int, 0 ≤ j → j < n → τ j = M 1 j) (fun _ _ => none) (fun _ v τ => [(hs, .inr (0, [.ref v, .int (iI 0), .int (iI 0), .int (iI 0)])), (h, .inr (9, [.ref a, .int (iI 0), .int (iI 0), .int (iI (M 0 0))])), (a, .inl (cB, cap, .inl (aI (M 1)))), (v, .inl (cB, n, .inl (aI τ)))]) 1 n sz := by
  refine Cg.of (cc := cJ0_init_81219) (maxL := 2) (ret := none) (by decide +kernel) rfl (Nat.le_of_ble_eq_true rfl) ?_
  intro A p e s m args below meth c ls hx hb hml hr hown hts hlocks hin hP hK hD hZ hS hA hAe hl
  have hl : lv_has ls 2 [(0, .ref hs), (1, .ref h)] := hl
  have S0 : CallFix p m c cJ0_init_81219 2 s args wsJ0_init_81219 RJ0 := ⟨hx, hb, hml, hown, hts⟩
  refine lv_aload_n hx hb dJ0_init_81219_0 rfl (lv_at hl 0 rfl) ?_
  refine lv_aload_n hx hb dJ0_init_81219_1 rfl (lv_at hl 1 rfl) ?_
  refine lv_null hx hb dJ0_init_81219_2 ?_
  refine cg_call (wc := VS hs h a cB cap fs0 M) (wr := []) [0, 1, 2] [] rfl rfl rfl rfl (by decide) hP hD hS hA (va_runI (As := [.ref h, .null]) (rest := []) S0 (kB_strI l D hs h a cB cap n M s.heap.size hk hn hcap hg) (cwI 2 hts gJ0_init_81219_J0_init_db425 rfl rfl rfl (hts (.initialized RJ0) (by decide +kernel)) (hts (.methodLink RJ0 489 yJ0_init_db425) (by decide +kernel)) (hts (.instanceMethod yJ0_init_db425) (by decide +kernel)) rfl (by decide +kernel) ⟨(Nat.le_of_ble_eq_true rfl), (Nat.le_of_ble_eq_true rfl)⟩) (cg_pre (ZS3_bl hs h a) (fun U hU hW => hZ.keep hW (fun q _ _ => by rw [hU])) hK hP hD [0, 1, 2] rfl rfl) rfl rfl hl.1 rfl (lv_room (Nat.le_of_ble_eq_true rfl)) dJ0_init_81219_3 ⟨(Nat.le_of_ble_eq_true rfl), by show 0 + n ≤ n; omega⟩) (fun u v τ H locs hτ hP hD hS => ?_)
  exact cg_void hx hb hr hlocks 0 v τ rfl hτ hP hD hS (by decide) (by omega) dJ0_init_81219_6
theorem ZT4_bl (h a : Nat) : ZBl (fun U => va_Z RJ0 "COMPACT_STRINGS" "Z" (.int (iI 1)) (AB h a) U U.heap ∧ va_Nw (.castable "[B" "java/lang/Cloneable") U) := fun x U g mk z => ⟨va_Z.moved (u := U) (U := U.calling g mk x) (Vm.Alike.refl U.vm) z.1, va_Nw.warmC (s := U) (U := U.calling g mk x) (State.WarmedH.refl U) z.2⟩
set_option maxRecDepth 100000 in
set_option maxHeartbeats 4000000 in
theorem kB_toString (l : Launch) (D : va_G) (h a : Nat) (cB : ClassId) (cap n : Nat) (M : Mem) (sz : Nat) (hk : M 0 0 = n) (hn : 0 < n ∧ n ≤ cap) (hcap : cap ≤ 65536) (hg : ∀ i : Int, 0 ≤ i → i < cap → 0 ≤ M 1 i ∧ M 1 i < 128) : Cg l yJ4_toString_0e30d wsJ4_toString_0e30d { frames := 72, cells := 2, slots := n + 4, locals := 2500 } [.ref h] D (TYB cB) (VB h a cB cap M) (fun U => va_Z RJ0 "COMPACT_STRINGS" "Z" (.int (iI 1)) (AB h a) U U.heap ∧ va_Nw (.castable "[B" "java/lang/Cloneable") U) (fun _ _ τ => ∀ j : Int, 0 ≤ j → j < n → τ j = M 1 j) (fun u _ => some (.ref u)) (fun u v τ => [(u, .inr (0, [.ref v, .int (iI 0), .int (iI 0), .int (iI 0)])), (h, .inr (9, [.ref a, .int (iI 0), .int (iI 0), .int (iI (M 0 0))])), (a, .inl (cB, cap, .inl (aI (M 1)))), (v, .inl (cB, n, .inl (aI τ)))]) 2 (n + 4) sz := by
  refine Cg.of (cc := cJ4_toString_0e30d) (maxL := 1) (ret := (some (.object "java/lang/String"))) (by decide +kernel) rfl (Nat.le_of_ble_eq_true rfl) ?_
  intro A p e s m args below meth c ls hx hb hml hr hown hts hlocks hin hP hK hD hZ hS hA hAe hl
  have hl : lv_has ls 1 [(0, .ref h)] := hl
  have S0 : CallFix p m c cJ4_toString_0e30d 1 s args wsJ4_toString_0e30d RJ4 := ⟨hx, hb, hml, hown, hts⟩
  refine va_new (ci := 0) (fs := fs0) (C := RJ0) (T := TJ0) (N := 4) hx hb hts (by decide +kernel) tyJ0 tyJ0_ok hown (hts (.classLink RJ4 18 RJ0) (by decide +kernel)) (hts (.instantiable RJ0 4) (by decide +kernel)) (hts (.initialized RJ0) (by decide +kernel)) hK hP hD hS hA rfl (fun j hj => by rcases (show j = 0 ∨ j = 1 ∨ j = 2 ∨ j = 3 by omega) with rfl | rfl | rfl | rfl <;> first | rfl | exact congrArg Value.int iI_0) (Nat.le_of_ble_eq_true rfl) (by show 0 + 4 ≤ n + 4; omega) dJ4_toString_0e30d_0 (fun u H hP hD hS => ?_)
  have hP : va_P D vwCl [(h, .inr (9, [.ref a, .int (iI 0), .int (iI 0), .int (iI (M 0 0))])), (a, .inl (cB, cap, .inl (aI (M 1)))), (u, .inr (0, fs0))] H := hP
  have hD : va_D A [(h, .inr (9, [.ref a, .int (iI 0), .int (iI 0), .int (iI (M 0 0))])), (a, .inl (cB, cap, .inl (aI (M 1)))), (u, .inr (0, fs0))] := hD
  refine lv_dup hx hb dJ4_toString_0e30d_3 rfl ?_
  refine lv_aload_n hx hb dJ4_toString_0e30d_4 rfl (lv_at hl 0 rfl) ?_
  have hne : ∀ q : Nat, q < s.heap.size → ¬ AB h a q → ¬ AS u h a q → ¬ A q := fun q h1 h2 _ => by rw [hAe]; exact va_A_out h1 h2
  have hZU : ∀ U : State, U.heap = H → s.WarmedH U.vm → ZS3 u h a U := fun U hU hW => by
    have hu : A u := hD.2 2 _ rfl
    obtain ⟨z1, z2⟩ := hZ
    obtain ⟨cf, kf, fi, f, x, cell, g1, g2, g3, g4, g5, g6, g7, g8⟩ := z1
    have hxs : x < s.heap.size := (Array.getElem?_eq_some_iff.mp g5).1
    have hxA : ¬ A x := by rw [hAe]; exact va_A_out hxs g8
    have g9 : va_Z RJ0 "COMPACT_STRINGS" "Z" (.int (iI 1)) (AS u h a) s s.heap := ⟨cf, kf, fi, f, x, cell, g1, g2, g3, g4, g5, g6, g7, fun g10 => by
      rcases List.mem_cons.mp (show x ∈ [u, h, a] from g10) with g11 | g11
      · exact hxA (by rw [g11]; exact hu)
      · exact g8 g11⟩
    exact ZS3.keep hW (fun q h1 h2 => by
      rw [hU]
      exact hS.2.1 q h1 (by rw [hAe]; exact va_A_out h1 (fun h3 => h2 (List.mem_cons_of_mem _ h3)))) ⟨g9, z2⟩
  refine cg_call (wc := VS u h a cB cap fs0 M) (wr := []) [2, 0, 1] [] rfl rfl rfl rfl (by decide) hP hD hS hA (va_runI (As := [.ref h]) (rest := [.ref u]) S0 (kB_strS l D u h a cB cap n M H.size hk hn hcap hg) (cwI 1 hts gJ4_toString_0e30d_J0_init_81219 rfl rfl rfl (hts (.initialized RJ0) (by decide +kernel)) (hts (.methodLink RJ4 137 yJ0_init_81219) (by decide +kernel)) (hts (.instanceMethod yJ0_init_81219) (by decide +kernel)) rfl (by decide +kernel) ⟨(Nat.le_of_ble_eq_true rfl), (Nat.le_of_ble_eq_true rfl)⟩) (cg_pre (ZS3_bl u h a) hZU hK hP hD [2, 0, 1] rfl rfl) rfl rfl hl.1 rfl (lv_room (Nat.le_of_ble_eq_true rfl)) dJ4_toString_0e30d_5 ⟨(Nat.le_of_ble_eq_true rfl), by show 0 + 4 + n ≤ n + 4; omega⟩) (fun u2 v τ H locs hτ hP hD hS => ?_)
  exact cg_ref hx hb hr (Or.inl ⟨_, rfl⟩) hlocks u v τ rfl hτ hP hD hS (by decide) (by omega) dJ4_toString_0e30d_8
theorem ZB.anyA {A B : Nat → Prop} {q t n tO : Nat} {g : Int → Int} {s : State} (h : ZB B q t n g tO s) (hAB : ∀ x, x < s.heap.size → ¬ B x → ¬ A x) : ZB A q t n g tO s := by
  have lt : ∀ {x : Nat} {cl : Cell}, s.heap[x]? = some cl → x < s.heap.size := fun hx => (Array.getElem?_eq_some_iff.mp hx).1
  obtain ⟨⟨a1, a2, a3, a4, a5, a6, a7, a8, a9, a10, a11, a12, a13, a14⟩, ⟨⟨b1, b2, b3, b4, b5⟩, ⟨c1, c2, c3, c4, c5, c6, c7, c8, c9, c10, c11⟩, ⟨d1, d2, d3, d4, d5, d6, d7, d8, d9, d10, d11⟩, ⟨e1, e2, e3, e4, e5, e6, e7, e8⟩⟩, ⟨f1, f2, f3, f4, f5, f6, f7, f8, f9, f10, f11, f12, f13, f14⟩, ⟨g1, g2, g3, g4, g5, g6, g7, g8⟩⟩ := h
  exact ⟨⟨a1, a2, a3, a4, a5, a6, a7, a8, a9, a10, a11, a12, a13, hAB _ (lt a11) a14⟩, ⟨⟨b1, b2, b3, b4, hAB _ (lt b2) b5⟩, ⟨c1, c2, c3, c4, c5, c6, c7, c8, c9, c10, hAB _ (lt c8) c11⟩, ⟨d1, d2, d3, d4, d5, d6, d7, d8, d9, d10, hAB _ (lt d8) d11⟩, ⟨e1, e2, e3, e4, e5, e6, e7, hAB _ (lt e2) e8⟩⟩, ⟨f1, f2, f3, f4, f5, f6, f7, f8, f9, f10, f11, f12, f13, hAB _ (lt f11) f14⟩, ⟨g1, g2, g3, g4, g5, g6, g7, hAB _ (lt g2) g8⟩⟩
theorem ZB.monoU {A B : Nat → Prop} {q t n tO : Nat} {g : Int → Int} {s U : State} (h : ZB A q t n g tO s) (hW : s.WarmedH U.vm) (hq : ∀ x : Nat, x < s.heap.size → ¬ A x → U.heap[x]? = s.heap[x]?) (hB : ∀ x, B x → A x) : ZB B q t n g tO U := (h.keep hW hq).narrow hB
/-- the builder's letters in another row -/
def mrp (M : Mem) (τ : Int → Int) : Mem := fun r => cond (Nat.beq r 1) τ (M r)
set_option maxRecDepth 100000 in
set_option maxHeartbeats 4000000 in
theorem kB_newLength (l : Launch) (D : va_G) (h a : Nat) (cB : ClassId) (cap : Nat) (M : Mem) (q t n : Nat) (g : Int → Int) (tO : Nat) (x y z : Int) (hx9 : 0 ≤ x ∧ x ≤ 65536) (hy9 : 0 < y ∧ y ≤ 65536) (hz9 : 0 ≤ z ∧ z ≤ y) : Ci l yJ8_newLength_cabcc wsJ8_newLength_cabcc 3 60 [.int (iI x), .int (iI y), .int (iI z)] D (TYB cB) (VB h a cB cap) (ZB (AB h a) q t n g tO) M (x + y) M := by
  refine Ci.of (cc := cJ8_newLength_cabcc) (maxL := 4) (ret := (some .int)) (by decide +kernel) rfl (Nat.le_of_ble_eq_true rfl) ?_
  intro p e s m args below meth c ls hx hb hml hr hown hts hlocks hP hK hD hZ hS hl
  have hl : lv_has ls 4 [(0, .int (iI x)), (1, .int (iI y)), (2, .int (iI z))] := hl
  have S0 : CallFix p m c cJ8_newLength_cabcc 4 s args wsJ8_newLength_cabcc RJ8 := ⟨hx, hb, hml, hown, hts⟩
  refine lv_iload_n hx hb dJ8_newLength_cabcc_0 rfl (lv_at hl 0 rfl) ?_
  refine lv_iload_n hx hb dJ8_newLength_cabcc_1 rfl (lv_at hl 1 rfl) ?_
  refine lv_iload_n hx hb dJ8_newLength_cabcc_2 rfl (lv_at hl 2 rfl) ?_
  refine z_mmax hx hb (hml.trans hl.1.symm) hown (hts (.methodLink RJ8 194 Lib.Math.max.name) (by decide +kernel)) (hts (.static Lib.Math.max.name) (by decide +kernel)) (hts (.initialized "java/lang/Math") (by decide +kernel)) (hts (.code Lib.Math.max.name Lib.Math.max.code 2 (some .int)) (by decide +kernel)) (Nat.le_of_ble_eq_true rfl) (Nat.le_of_ble_eq_true rfl) (Nat.zero_le _) (Nat.zero_le _) (by omega) (by omega) dJ8_newLength_cabcc_3 ?_
  rw [show zmax y z = y by unfold zmax; split <;> omega]
  refine z_iadd hx hb dJ8_newLength_cabcc_6 ?_
  refine lv_istore_n (lv' := [(3, .int (iI (x + y))), (0, .int (iI x)), (1, .int (iI y)), (2, .int (iI z))]) hx hb dJ8_newLength_cabcc_7 rfl hl (by decide) rfl (fun ls hl => ?_)
  refine z_iconst hx hb dJ8_newLength_cabcc_8 ?_
  refine lv_iload_n hx hb dJ8_newLength_cabcc_9 rfl (lv_at hl 0 rfl) ?_
  refine z_icmp_ge hx hb dJ8_newLength_cabcc_10 (tgt := 21) rfl (by decide) ⟨by omega, by omega⟩ (fun hbr => absurd hbr (by omega)) (fun hbr => ?_)
  refine lv_iload_n hx hb dJ8_newLength_cabcc_13 rfl (lv_at hl 0 rfl) ?_
  refine z_ldc (n := 2147483639) hx hb hown (hts (.constant RJ8 200 2147483639) (by decide +kernel)) (by decide +kernel) dJ8_newLength_cabcc_14 ?_
  refine z_icmp_gt hx hb dJ8_newLength_cabcc_16 (tgt := 21) rfl ⟨by omega, by omega⟩ (by decide) (fun hbr => absurd hbr (by omega)) (fun hbr => ?_)
  refine lv_iload_n hx hb dJ8_newLength_cabcc_19 rfl (lv_at hl 0 rfl) ?_
  exact ci_i hx hb hr hlocks rfl rfl hS hP dJ8_newLength_cabcc_20
set_option maxRecDepth 100000 in
set_option maxHeartbeats 4000000 in
theorem kB_newCap (l : Launch) (D : va_G) (h a : Nat) (cB : ClassId) (cap : Nat) (M : Mem) (q t n : Nat) (g : Int → Int) (tO : Nat) (k : Int) (hk : cap + (cap + 2) ≤ k ∧ k ≤ 65536) : Ci l yJ5_newCapacity_0f7a4 wsJ5_newCapacity_0f7a4 4 100 [.ref h, .int (iI k)] D (TYB cB) (VB h a cB cap) (ZB (AB h a) q t n g tO) M k M := by
  refine Ci.of (cc := cJ5_newCapacity_0f7a4) (maxL := 6) (ret := (some .int)) (by decide +kernel) rfl (Nat.le_of_ble_eq_true rfl) ?_
  intro p e s m args below meth c ls hx hb hml hr hown hts hlocks hP hK hD hZ hS hl
  have hl : lv_has ls 6 [(0, .ref h), (1, .int (iI k))] := hl
  have S0 : CallFix p m c cJ5_newCapacity_0f7a4 6 s args wsJ5_newCapacity_0f7a4 RJ5 := ⟨hx, hb, hml, hown, hts⟩
  have hin4 : ∀ w ∈ u_ws RJ4 TJ4 4, w ∈ wsJ5_newCapacity_0f7a4 := by decide +kernel
  refine lv_aload_n hx hb dJ5_newCapacity_0f7a4_0 rfl (lv_at hl 0 rfl) ?_
  refine va_get (own := RJ5) (ref := "java/lang/AbstractStringBuilder") (C := RJ4) (T := TJ4) (N := 4) hx hb hts hin4 hown hK hP 0 VB_0 rfl 0 (Nat.le_of_ble_eq_true rfl) (hts (.fieldLink RJ5 15 "java/lang/AbstractStringBuilder" "value" "[B") (by decide +kernel)) (fun _ h => h) (v := .ref a) rfl dJ5_newCapacity_0f7a4_1 ?_
  refine z_alenN hx hb hK hP 1 0 VB_1 rfl (v := (cap : Int)) rfl dJ5_newCapacity_0f7a4_4 ?_
  refine lv_istore_n (lv' := [(2, .int (iI (cap : Int))), (0, .ref h), (1, .int (iI k))]) hx hb dJ5_newCapacity_0f7a4_5 rfl hl (by decide) rfl (fun ls hl => ?_)
  refine lv_iload_n hx hb dJ5_newCapacity_0f7a4_6 rfl (lv_at hl 2 rfl) ?_
  refine lv_aload_n hx hb dJ5_newCapacity_0f7a4_7 rfl (lv_at hl 1 rfl) ?_
  refine va_get (own := RJ5) (ref := "java/lang/AbstractStringBuilder") (C := RJ4) (T := TJ4) (N := 4) hx hb hts hin4 hown hK hP 0 VB_0 rfl 1 (Nat.le_of_ble_eq_true rfl) (hts (.fieldLink RJ5 22 "java/lang/AbstractStringBuilder" "coder" "B") (by decide +kernel)) (fun _ h => h) (v := .int (iI 0)) rfl dJ5_newCapacity_0f7a4_8 ?_
  refine z_ishl hx hb dJ5_newCapacity_0f7a4_11 ?_
  rw [zshl0 ⟨by omega, by omega⟩]
  refine lv_istore_n (lv' := [(3, .int (iI k)), (2, .int (iI (cap : Int))), (0, .ref h), (1, .int (iI k))]) hx hb dJ5_newCapacity_0f7a4_12 rfl hl (by decide) rfl (fun ls hl => ?_)
  refine lv_iload_n hx hb dJ5_newCapacity_0f7a4_13 rfl (lv_at hl 0 rfl) ?_
  refine lv_iload_n hx hb dJ5_newCapacity_0f7a4_14 rfl (lv_at hl 1 rfl) ?_
  refine z_isub hx hb dJ5_newCapacity_0f7a4_15 ?_
  refine lv_istore (lv' := [(4, .int (iI (k - (cap : Int)))), (3, .int (iI k)), (2, .int (iI (cap : Int))), (0, .ref h), (1, .int (iI k))]) hx hb dJ5_newCapacity_0f7a4_16 hl (by decide) rfl (fun ls hl => ?_)
  refine lv_iload_n hx hb dJ5_newCapacity_0f7a4_18 rfl (lv_at hl 2 rfl) ?_
  refine lv_iload hx hb dJ5_newCapacity_0f7a4_19 (lv_at hl 0 rfl) ?_
  refine lv_iload_n hx hb dJ5_newCapacity_0f7a4_21 rfl (lv_at hl 2 rfl) ?_
  refine z_iconst hx hb dJ5_newCapacity_0f7a4_22 ?_
  refine lv_aload_n hx hb dJ5_newCapacity_0f7a4_23 rfl (lv_at hl 3 rfl) ?_
  refine va_get (own := RJ5) (ref := "java/lang/AbstractStringBuilder") (C := RJ4) (T := TJ4) (N := 4) hx hb hts hin4 hown hK hP 0 VB_0 rfl 1 (Nat.le_of_ble_eq_true rfl) (hts (.fieldLink RJ5 22 "java/lang/AbstractStringBuilder" "coder" "B") (by decide +kernel)) (fun _ h => h) (v := .int (iI 0)) rfl dJ5_newCapacity_0f7a4_24 ?_
  refine z_ishl hx hb dJ5_newCapacity_0f7a4_27 ?_
  rw [show zshl 2 0 = 2 from by decide +kernel]
  refine z_iadd hx hb dJ5_newCapacity_0f7a4_28 ?_
  refine ct_Si (As := [.int (iI (cap : Int)), .int (iI (k - (cap : Int))), .int (iI ((cap : Int) + 2))]) (rest := []) (VB_fix h a cB cap) (ZB_ok h a cB cap q t n g tO) (ZB_bl (AB h a) q t n g tO) hZ S0 (kB_newLength l D h a cB cap M q t n g tO (cap : Int) (k - (cap : Int)) ((cap : Int) + 2) ⟨by omega, by omega⟩ ⟨by omega, by omega⟩ ⟨by omega, by omega⟩) (va_cwS 3 hts gJ5_newCapacity_0f7a4_J8_newLength_cabcc rfl rfl rfl (by decide +kernel) ⟨(Nat.le_of_ble_eq_true rfl), (Nat.le_of_ble_eq_true rfl)⟩) hK hP hD hS rfl hl.1 rfl (Nat.le_of_ble_eq_true rfl) dJ5_newCapacity_0f7a4_29 ⟨Nat.zero_le _, Nat.zero_le _⟩ (fun H locs hP hD hS => ?_)
  rw [show ((cap : Int) + (k - (cap : Int))) = k by omega]
  refine lv_istore (lv' := [(5, .int (iI k)), (4, .int (iI (k - (cap : Int)))), (3, .int (iI k)), (2, .int (iI (cap : Int))), (0, .ref h), (1, .int (iI k))]) hx hb dJ5_newCapacity_0f7a4_32 hl (by decide) rfl (fun ls hl => ?_)
  refine lv_iload hx hb dJ5_newCapacity_0f7a4_34 (lv_at hl 0 rfl) ?_
  refine z_ldc (n := 2147483647) hx hb hown (hts (.constant RJ5 39 2147483647) (by decide +kernel)) (by decide +kernel) dJ5_newCapacity_0f7a4_36 ?_
  refine z_icmp_ne hx hb dJ5_newCapacity_0f7a4_38 (tgt := 51) rfl ⟨by omega, by omega⟩ (by decide) (fun hbr => ?_) (fun hbr => absurd hbr (by omega))
  refine lv_iload hx hb dJ5_newCapacity_0f7a4_51 (lv_at hl 0 rfl) ?_
  refine lv_aload_n hx hb dJ5_newCapacity_0f7a4_53 rfl (lv_at hl 4 rfl) ?_
  refine va_get (own := RJ5) (ref := "java/lang/AbstractStringBuilder") (C := RJ4) (T := TJ4) (N := 4) hx hb hts hin4 hown hK hP 0 VB_0 rfl 1 (Nat.le_of_ble_eq_true rfl) (hts (.fieldLink RJ5 22 "java/lang/AbstractStringBuilder" "coder" "B") (by decide +kernel)) (fun _ h => h) (v := .int (iI 0)) rfl dJ5_newCapacity_0f7a4_54 ?_
  refine z_ishr hx hb dJ5_newCapacity_0f7a4_57 ?_
  rw [zshr0 ⟨by omega, by omega⟩]
  exact ci_i hx hb hr hlocks rfl rfl hS hP dJ5_newCapacity_0f7a4_58
set_option maxRecDepth 100000 in
set_option maxHeartbeats 4000000 in
theorem kB_copyOf (l : Launch) (D : va_G) (a : Nat) (cB : ClassId) (cap n : Nat) (σ : Int → Int) (sz : Nat) (hn : cap < n ∧ n ≤ 65536) (hg : ∀ i : Int, 0 ≤ i → i < cap → 0 ≤ σ i ∧ σ i < 128) : Cg l yJ7_copyOf_9075b wsJ7_copyOf_9075b { frames := 4, cells := 1, slots := n, locals := 100 } [.ref a, .int (iI (n : Int))] D (TYB cB) [(a, .inl (cB, cap, .inl (aI σ)))] (fun _ => True) (fun _ _ τ => τ = cpI σ (fun _ => 0) 0 0 cap) (fun u _ => some (.ref u)) (fun u _ τ => [(a, .inl (cB, cap, .inl (aI σ))), (u, .inl (cB, n, .inl (aI τ)))]) 1 n sz := by
  refine Cg.of (cc := cJ7_copyOf_9075b) (maxL := 3) (ret := (some (.array .byte))) (by decide +kernel) rfl (Nat.le_of_ble_eq_true rfl) ?_
  intro A p e s m args below meth c ls hx hb hml hr hown hts hlocks hin hP hK hD hZ hS hA hAe hl
  have hl : lv_has ls 3 [(0, .ref a), (1, .int (iI (n : Int)))] := hl
  have S0 : CallFix p m c cJ7_copyOf_9075b 3 s args wsJ7_copyOf_9075b RJ7 := ⟨hx, hb, hml, hown, hts⟩
  refine lv_iload_n hx hb dJ7_copyOf_9075b_0 rfl (lv_at hl 1 rfl) ?_
  refine lv_aload_n hx hb dJ7_copyOf_9075b_1 rfl (lv_at hl 0 rfl) ?_
  refine z_alenN hx hb hK hP 0 0 rfl rfl (v := (cap : Int)) rfl dJ7_copyOf_9075b_2 ?_
  refine z_icmp_ne hx hb dJ7_copyOf_9075b_3 (tgt := 14) rfl ⟨by omega, by omega⟩ ⟨by omega, by omega⟩ (fun hbr => ?_) (fun hbr => absurd hbr (by omega))
  refine lv_iload_n hx hb dJ7_copyOf_9075b_14 rfl (lv_at hl 1 rfl) ?_
  refine z_newa (atype := .byte) (ty := .byte) (N' := n) (a0 := (n, .inl z0)) hx hb (fun _ h => h) rfl (hts (.arrayClass .byte) (by decide +kernel)) hK 0 rfl hP hD hS hA (nb_0 n) (fun q => by have := (iI_lt (a := (n : Int)) (b := 0) ⟨by omega, by omega⟩ (by decide)).mp q; omega) (by rw [iI_cl ⟨by omega, by omega⟩]; omega) (by show n * 1 ≤ 536870912; omega) (Nat.le_of_ble_eq_true rfl) (by show 0 + n ≤ n; omega) dJ7_copyOf_9075b_15 (fun u H hP hD hS => ?_)
  have hP : va_P D vwCl [(a, .inl (cB, cap, .inl (aI σ))), (u, .inl (cB, n, .inl (aI (fun _ => 0))))] H := hP
  have hD : va_D A [(a, .inl (cB, cap, .inl (aI σ))), (u, .inl (cB, n, .inl (aI (fun _ => 0))))] := hD
  refine lv_astore_n (lv' := [(2, .ref u), (0, .ref a), (1, .int (iI (n : Int)))]) hx hb dJ7_copyOf_9075b_17 rfl hl (by decide) rfl (fun ls hl => ?_)
  refine lv_aload_n hx hb dJ7_copyOf_9075b_18 rfl (lv_at hl 1 rfl) ?_
  refine z_iconst hx hb dJ7_copyOf_9075b_19 ?_
  refine lv_aload_n hx hb dJ7_copyOf_9075b_20 rfl (lv_at hl 0 rfl) ?_
  refine z_iconst hx hb dJ7_copyOf_9075b_21 ?_
  refine lv_aload_n hx hb dJ7_copyOf_9075b_22 rfl (lv_at hl 1 rfl) ?_
  refine z_alenN hx hb hK hP 0 0 rfl rfl (v := (cap : Int)) rfl dJ7_copyOf_9075b_23 ?_
  refine lv_iload_n hx hb dJ7_copyOf_9075b_24 rfl (lv_at hl 2 rfl) ?_
  refine z_mmin (a := (cap : Int)) (b := (n : Int)) hx hb (hml.trans hl.1.symm) hown (hts (.methodLink RJ7 304 Lib.Math.min.name) (by decide +kernel)) (hts (.static Lib.Math.min.name) (by decide +kernel)) (hts (.initialized "java/lang/Math") (by decide +kernel)) (hts (.code Lib.Math.min.name Lib.Math.min.code 2 (some .int)) (by decide +kernel)) (Nat.le_of_ble_eq_true rfl) (Nat.le_of_ble_eq_true rfl) (by show 0 + 1 ≤ 1; omega) (by show 0 + n ≤ n; omega) ⟨by omega, by omega⟩ ⟨by omega, by omega⟩ dJ7_copyOf_9075b_25 ?_
  rw [show zmin (cap : Int) (n : Int) = (cap : Int) by unfold zmin; (repeat' split) <;> omega]
  refine z_copyb hx hb (hml.trans hl.1.symm) hown (hts (.methodLink RJ7 150 arraycopyName) (by decide +kernel)) (hts (.native arraycopyName) (by decide +kernel)) (hts (.static arraycopyName) (by decide +kernel)) (hts (.initialized "java/lang/System") (by decide +kernel)) hK hP hD hS 0 1 0 rfl rfl rfl (by omega) (by omega) (by omega) (by omega) (by omega) (by omega) (by omega) (fun i h1 h2 => by rw [show (0 + i : Int) = i by omega]; exact hg i h1 (by omega)) (Nat.le_of_ble_eq_true rfl) (Nat.le_of_ble_eq_true rfl) dJ7_copyOf_9075b_28 (ws' := [(a, .inl (cB, cap, .inl (aI σ))), (u, .inl (cB, n, .inl (aI (cpI σ (fun _ => 0) 0 0 cap))))]) rfl (fun H locs hP hD hS => ?_)
  refine lv_aload_n hx hb dJ7_copyOf_9075b_31 rfl (lv_at hl 0 rfl) ?_
  exact cg_ref hx hb hr (Or.inr ⟨_, rfl⟩) hlocks u 0 (cpI σ (fun _ => 0) 0 0 cap) rfl rfl hP hD hS (by decide) (by omega) dJ7_copyOf_9075b_32
set_option maxRecDepth 100000 in
set_option maxHeartbeats 4000000 in
theorem kB_ensureG (l : Launch) (D : va_G) (h a : Nat) (cB : ClassId) (cap k : Nat) (M : Mem) (q t n : Nat) (g : Int → Int) (tO : Nat) (sz : Nat) (hk : cap + (cap + 2) ≤ k ∧ k ≤ 65536) (hg1 : ∀ i : Int, 0 ≤ i → i < cap → 0 ≤ M 1 i ∧ M 1 i < 128) : Cg l yJ5_ensureCapacityInternal_d00df wsJ5_ensureCapacityInternal_d00df { frames := 6, cells := 1, slots := k, locals := 200 } [.ref h, .int (iI (k : Int))] D (TYB cB) (VB h a cB cap M) (ZB (AB h a) q t n g tO) (fun _ _ τ => τ = cpI (M 1) (fun _ => 0) 0 0 cap) (fun _ _ => none) (fun u _ τ => VB h u cB k (mrp M τ)) 1 k sz := by
  refine Cg.of (cc := cJ5_ensureCapacityInternal_d00df) (maxL := 3) (ret := none) (by decide +kernel) rfl (Nat.le_of_ble_eq_true rfl) ?_
  intro A p e s m args below meth c ls hx hb hml hr hown hts hlocks hin hP hK hD hZ hS hA hAe hl
  have hl : lv_has ls 3 [(0, .ref h), (1, .int (iI (k : Int)))] := hl
  have S0 : CallFix p m c cJ5_ensureCapacityInternal_d00df 3 s args wsJ5_ensureCapacityInternal_d00df RJ5 := ⟨hx, hb, hml, hown, hts⟩
  have hin4 : ∀ w ∈ u_ws RJ4 TJ4 4, w ∈ wsJ5_ensureCapacityInternal_d00df := by decide +kernel
  have hZU : ∀ (H : Heap) (locs : List Loc), va_S A s.heap H locs → ∀ U : State, U.heap = H → s.WarmedH U.vm → ZB (AB h a) q t n g tO U := fun H locs hS U hU hW => hZ.keep hW (fun x h1 h2 => by rw [hU]; exact hS.2.1 x h1 (by rw [hAe]; exact va_A_out h1 h2))
  refine lv_aload_n hx hb dJ5_ensureCapacityInternal_d00df_0 rfl (lv_at hl 0 rfl) ?_
  refine va_get (own := RJ5) (ref := "java/lang/AbstractStringBuilder") (C := RJ4) (T := TJ4) (N := 4) hx hb hts hin4 hown hK hP 0 VB_0 rfl 0 (Nat.le_of_ble_eq_true rfl) (hts (.fieldLink RJ5 15 "java/lang/AbstractStringBuilder" "value" "[B") (by decide +kernel)) (fun _ h => h) (v := .ref a) rfl dJ5_ensureCapacityInternal_d00df_1 ?_
  refine z_alenN hx hb hK hP 1 0 VB_1 rfl (v := (cap : Int)) rfl dJ5_ensureCapacityInternal_d00df_4 ?_
  refine lv_aload_n hx hb dJ5_ensureCapacityInternal_d00df_5 rfl (lv_at hl 0 rfl) ?_
  refine va_get (own := RJ5) (ref := "java/lang/AbstractStringBuilder") (C := RJ4) (T := TJ4) (N := 4) hx hb hts hin4 hown hK hP 0 VB_0 rfl 1 (Nat.le_of_ble_eq_true rfl) (hts (.fieldLink RJ5 22 "java/lang/AbstractStringBuilder" "coder" "B") (by decide +kernel)) (fun _ h => h) (v := .int (iI 0)) rfl dJ5_ensureCapacityInternal_d00df_6 ?_
  refine z_ishr hx hb dJ5_ensureCapacityInternal_d00df_9 ?_
  rw [zshr0 ⟨by omega, by omega⟩]
  refine lv_istore_n (lv' := [(2, .int (iI (cap : Int))), (0, .ref h), (1, .int (iI (k : Int)))]) hx hb dJ5_ensureCapacityInternal_d00df_10 rfl hl (by decide) rfl (fun ls hl => ?_)
  refine lv_iload_n hx hb dJ5_ensureCapacityInternal_d00df_11 rfl (lv_at hl 2 rfl) ?_
  refine lv_iload_n hx hb dJ5_ensureCapacityInternal_d00df_12 rfl (lv_at hl 0 rfl) ?_
  refine z_isub hx hb dJ5_ensureCapacityInternal_d00df_13 ?_
  refine z_if_le hx hb dJ5_ensureCapacityInternal_d00df_14 (tgt := 38) rfl ⟨by omega, by omega⟩ (fun hbr => absurd hbr (by omega)) (fun hbr => ?_)
  refine lv_aload_n hx hb dJ5_ensureCapacityInternal_d00df_17 rfl (lv_at hl 1 rfl) ?_
  refine lv_aload_n hx hb dJ5_ensureCapacityInternal_d00df_18 rfl (lv_at hl 1 rfl) ?_
  refine va_get (own := RJ5) (ref := "java/lang/AbstractStringBuilder") (C := RJ4) (T := TJ4) (N := 4) hx hb hts hin4 hown hK hP 0 VB_0 rfl 0 (Nat.le_of_ble_eq_true rfl) (hts (.fieldLink RJ5 15 "java/lang/AbstractStringBuilder" "value" "[B") (by decide +kernel)) (fun _ h => h) (v := .ref a) rfl dJ5_ensureCapacityInternal_d00df_19 ?_
  refine lv_aload_n hx hb dJ5_ensureCapacityInternal_d00df_22 rfl (lv_at hl 1 rfl) ?_
  refine lv_iload_n hx hb dJ5_ensureCapacityInternal_d00df_23 rfl (lv_at hl 2 rfl) ?_
  refine ga_i (rest := [.ref a, .ref h]) (va_runU (As := [.int (iI (k : Int))]) (rest := [.ref a, .ref h]) S0 (kB_newCap l D h a cB cap M q t n g tO (k : Int) ⟨by omega, by omega⟩) (va_cwU 1 hts gJ5_ensureCapacityInternal_d00df_J5_newCapacity_0f7a4_u104J4 rfl rfl rfl rfl (by decide +kernel) ⟨(Nat.le_of_ble_eq_true rfl), (Nat.le_of_ble_eq_true rfl)⟩) ⟨wr_blind (ZB_bl (AB h a) q t n g tO), (va_recv hK hP (ci := 9) (q0 := 0) rfl VB_0), fun U hU hW => ⟨rfl, by rw [hU]; exact hP, va_K.moved hW.alike hK, wA_any hD, hZU _ _ hS U hU hW⟩⟩ rfl rfl hl.1 rfl (lv_room (Nat.le_of_ble_eq_true rfl)) dJ5_ensureCapacityInternal_d00df_24 ⟨Nat.zero_le _, Nat.zero_le _⟩) hS (fun x hx9 => wA_in hD x hx9) (fun H locs hP hS => ?_)
  refine lv_aload_n hx hb dJ5_ensureCapacityInternal_d00df_27 rfl (lv_at hl 1 rfl) ?_
  refine va_get (own := RJ5) (ref := "java/lang/AbstractStringBuilder") (C := RJ4) (T := TJ4) (N := 4) hx hb hts hin4 hown hK hP 0 VB_0 rfl 1 (Nat.le_of_ble_eq_true rfl) (hts (.fieldLink RJ5 22 "java/lang/AbstractStringBuilder" "coder" "B") (by decide +kernel)) (fun _ h => h) (v := .int (iI 0)) rfl dJ5_ensureCapacityInternal_d00df_28 ?_
  refine z_ishl hx hb dJ5_ensureCapacityInternal_d00df_31 ?_
  rw [zshl0 ⟨by omega, by omega⟩]
  refine cg_call (wc := [(a, .inl (cB, cap, .inl (aI (M 1))))]) (wr := [(h, .inr (9, [.ref a, .int (iI 0), .int (iI 0), .int (iI (M 0 0))]))]) [1] [0] rfl rfl rfl rfl (by decide) hP hD hS hA (va_runS (As := [.ref a, .int (iI (k : Int))]) (rest := [.ref h]) S0 (kB_copyOf l D a cB cap k (M 1) H.size ⟨by omega, by omega⟩ hg1) (va_cwS 2 hts gJ5_ensureCapacityInternal_d00df_J7_copyOf_9075b rfl rfl rfl (by decide +kernel) ⟨(Nat.le_of_ble_eq_true rfl), (Nat.le_of_ble_eq_true rfl)⟩) (cg_pre (fun _ _ _ _ _ => trivial) (fun _ _ _ => trivial) hK hP hD [1] rfl rfl) rfl rfl hl.1 rfl (lv_room (Nat.le_of_ble_eq_true rfl)) dJ5_ensureCapacityInternal_d00df_32 ⟨(Nat.le_of_ble_eq_true rfl), by show 0 + k ≤ k; omega⟩) (fun u v τ H locs hτ hP hD hS => ?_)
  refine va_put (own := RJ5) (ref := "java/lang/AbstractStringBuilder") (C := RJ4) (T := TJ4) (N := 4) hx hb hts hin4 tyJ4 tyJ4_ok nmJ4 hown hK hP hD hS 0 rfl rfl 0 (Nat.le_of_ble_eq_true rfl) (hts (.fieldLink RJ5 15 "java/lang/AbstractStringBuilder" "value" "[B") (by decide +kernel)) (fun _ h => h) rfl (ty := .array .byte) (v := .ref u) (by decide +kernel) rfl rfl (Nat.le_of_ble_eq_true rfl) dJ5_ensureCapacityInternal_d00df_35 (fun H locs hP hD hS => ?_)
  have hP : va_P D vwCl (VB h u cB k (mrp M τ)) H := hP.sub [0, 2] rfl
  have hD : va_D A (VB h u cB k (mrp M τ)) := hD.sub [0, 2] rfl rfl
  exact cg_void hx hb hr hlocks u 0 τ rfl hτ hP hD hS (by decide) (by omega) dJ5_ensureCapacityInternal_d00df_38
set_option maxRecDepth 100000 in
set_option maxHeartbeats 4000000 in
theorem kB_append5G (l : Launch) (D : va_G) (h a : Nat) (cB : ClassId) (cap k : Nat) (M : Mem) (q t n : Nat) (g : Int → Int) (tO : Nat) (sz : Nat) (hk0 : 0 ≤ M 0 0 ∧ M 0 0 ≤ cap) (hk : M 0 0 + n = k) (hk1 : cap + (cap + 2) ≤ k ∧ k ≤ 65536) (hg : ∀ i : Int, 0 ≤ i → i < n → 0 ≤ g i ∧ g i < 128) (hg1 : ∀ i : Int, 0 ≤ i → i < cap → 0 ≤ M 1 i ∧ M 1 i < 128) : Cg l yJ5_append_cf1ce wsJ5_append_cf1ce { frames := 8, cells := 1, slots := k, locals := 300 } [.ref h, .ref q] D (TYB cB) (VB h a cB cap M) (ZB (AB h a) q t n g tO) (fun _ _ τ => τ = cpI (M 1) (fun _ => 0) 0 0 cap) (fun _ _ => some (.ref h)) (fun u _ τ => VB h u cB k (fB_app (mrp M τ) n g)) 1 k sz := by
  refine Cg.of (cc := cJ5_append_cf1ce) (maxL := 3) (ret := (some (.object "java/lang/AbstractStringBuilder"))) (by decide +kernel) rfl (Nat.le_of_ble_eq_true rfl) ?_
  intro A p e s m args below meth c ls hx hb hml hr hown hts hlocks hin hP hK hD hZ hS hA hAe hl
  have hl : lv_has ls 3 [(0, .ref h), (1, .ref q)] := hl
  have S0 : CallFix p m c cJ5_append_cf1ce 3 s args wsJ5_append_cf1ce RJ5 := ⟨hx, hb, hml, hown, hts⟩
  have hin4 : ∀ w ∈ u_ws RJ4 TJ4 4, w ∈ wsJ5_append_cf1ce := by decide +kernel
  have hZU : ∀ (H : Heap) (locs : List Loc), va_S A s.heap H locs → ∀ U : State, U.heap = H → s.WarmedH U.vm → ZB (AB h a) q t n g tO U := fun H locs hS U hU hW => hZ.keep hW (fun x h1 h2 => by rw [hU]; exact hS.2.1 x h1 (by rw [hAe]; exact va_A_out h1 h2))
  have hrcq : ∀ (H : Heap) (locs : List Loc), va_S A s.heap H locs → ∃ cell : Cell, H[q]? = some cell ∧ cell.vm.isStatics = false ∧ s.vm.findClass RJ0 = some cell.cls := fun H locs hS => by
    obtain ⟨cell, g1, g2, g3, g4⟩ := hZ.2.1.1
    have h1 : q < s.heap.size := (Array.getElem?_eq_some_iff.mp g1).1
    exact ⟨cell, by rw [hS.2.1 q h1 (by rw [hAe]; exact va_A_out h1 g4)]; exact g1, g2, g3⟩
  refine lv_aload_n hx hb dJ5_append_cf1ce_0 rfl (lv_at hl 1 rfl) ?_
  refine lv_ifnonnull hx hb dJ5_append_cf1ce_1 (tgt := 9) rfl ?_
  refine lv_aload_n hx hb dJ5_append_cf1ce_9 rfl (lv_at hl 1 rfl) ?_
  refine ga_i (rest := []) (va_runV (As := []) (rest := []) S0 (kB_length l D h a cB cap M q t n g tO (by omega)) (cwV 0 hts gJ5_append_cf1ce_J0_length_8abf5 rfl rfl rfl (by decide +kernel) ⟨(Nat.le_of_ble_eq_true rfl), (Nat.le_of_ble_eq_true rfl)⟩) ⟨wr_blind (ZB_bl (AB h a) q t n g tO), hrcq _ _ hS, fun U hU hW => ⟨rfl, by rw [hU]; exact hP, va_K.moved hW.alike hK, wA_any hD, hZU _ _ hS U hU hW⟩⟩ rfl rfl hl.1 rfl (lv_room (Nat.le_of_ble_eq_true rfl)) dJ5_append_cf1ce_10 ⟨Nat.zero_le _, Nat.zero_le _⟩) hS (fun x hx9 => wA_in hD x hx9) (fun H locs hP hS => ?_)
  refine lv_istore_n (lv' := [(2, .int (iI (n : Int))), (0, .ref h), (1, .ref q)]) hx hb dJ5_append_cf1ce_13 rfl hl (by decide) rfl (fun ls hl => ?_)
  refine lv_aload_n hx hb dJ5_append_cf1ce_14 rfl (lv_at hl 1 rfl) ?_
  refine lv_aload_n hx hb dJ5_append_cf1ce_15 rfl (lv_at hl 1 rfl) ?_
  refine va_get (own := RJ5) (ref := "java/lang/AbstractStringBuilder") (C := RJ4) (T := TJ4) (N := 4) hx hb hts hin4 hown hK hP 0 VB_0 rfl 3 (Nat.le_of_ble_eq_true rfl) (hts (.fieldLink RJ5 79 "java/lang/AbstractStringBuilder" "count" "I") (by decide +kernel)) (fun _ h => h) (v := .int (iI (M 0 0))) rfl dJ5_append_cf1ce_16 ?_
  refine lv_iload_n hx hb dJ5_append_cf1ce_19 rfl (lv_at hl 0 rfl) ?_
  refine z_iadd hx hb dJ5_append_cf1ce_20 ?_
  rw [hk]
  refine cg_call (wc := VB h a cB cap M) (wr := []) [0, 1] [] rfl rfl rfl rfl (by decide) hP hD hS hA (va_runU (As := [.int (iI (k : Int))]) (rest := []) S0 (kB_ensureG l D h a cB cap k M q t n g tO H.size hk1 hg1) (va_cwU 1 hts gJ5_append_cf1ce_J5_ensureCapacityInternal_d00df_u100J4 rfl rfl rfl rfl (by decide +kernel) ⟨(Nat.le_of_ble_eq_true rfl), (Nat.le_of_ble_eq_true rfl)⟩) (cg_preV (va_recv hK hP (ci := 9) (q0 := 0) rfl VB_0) (ZB_bl (AB h a) q t n g tO) (hZU _ _ hS) hK hP hD [0, 1] rfl rfl) rfl rfl hl.1 rfl (lv_room (Nat.le_of_ble_eq_true rfl)) dJ5_append_cf1ce_21 ⟨(Nat.le_of_ble_eq_true rfl), by show 0 + k ≤ k; omega⟩) (fun u v τ H locs hτ hP hD hS => ?_)
  have hP : va_P D vwCl (VB h u cB k (mrp M τ)) H := hP
  have hD : va_D A (VB h u cB k (mrp M τ)) := hD
  have hu : A u := hD.2 1 _ rfl
  have hh : A h := hD.2 0 _ rfl
  have hZU2 : ∀ (H : Heap) (locs : List Loc), va_S A s.heap H locs → ∀ U : State, U.heap = H → s.WarmedH U.vm → ZB (AB h u) q t n g tO U := fun H locs hS U hU hW => (ZB.anyA (A := A) hZ (fun x h1 h2 => by rw [hAe]; exact va_A_out h1 h2)).monoU hW (fun x h1 h2 => by rw [hU]; exact hS.2.1 x h1 h2) (fun x hx9 => by rcases List.mem_cons.mp (show x ∈ [h, u] from hx9) with r | r; exact r ▸ hh; rw [List.mem_singleton.mp r]; exact hu)
  refine lv_aload_n hx hb dJ5_append_cf1ce_24 rfl (lv_at hl 1 rfl) ?_
  refine lv_aload_n hx hb dJ5_append_cf1ce_25 rfl (lv_at hl 1 rfl) ?_
  refine va_get (own := RJ5) (ref := "java/lang/AbstractStringBuilder") (C := RJ4) (T := TJ4) (N := 4) hx hb hts hin4 hown hK hP 0 VB_0 rfl 3 (Nat.le_of_ble_eq_true rfl) (hts (.fieldLink RJ5 79 "java/lang/AbstractStringBuilder" "count" "I") (by decide +kernel)) (fun _ h => h) (v := .int (iI (M 0 0))) rfl dJ5_append_cf1ce_26 ?_
  refine lv_aload_n hx hb dJ5_append_cf1ce_29 rfl (lv_at hl 2 rfl) ?_
  refine ga_v (rest := []) (va_runU (As := [.int (iI (M 0 0)), .ref q]) (rest := []) S0 (kB_putStr l D h u cB k (mrp M τ) q t n g tO ⟨hk0.1, by show M 0 0 + (n : Int) ≤ k; omega⟩ hk1.2 hg) (va_cwU 2 hts gJ5_append_cf1ce_J5_putStringAt_47b60_u208J4 rfl rfl rfl rfl (by decide +kernel) ⟨(Nat.le_of_ble_eq_true rfl), (Nat.le_of_ble_eq_true rfl)⟩) ⟨wr_blind (ZB_bl (AB h u) q t n g tO), (va_recv hK hP (ci := 9) (q0 := 0) rfl VB_0), fun U hU hW => ⟨rfl, by rw [hU]; exact hP, va_K.moved hW.alike hK, wA_any hD, hZU2 _ _ hS U hU hW⟩⟩ rfl rfl hl.1 rfl (lv_room (Nat.le_of_ble_eq_true rfl)) dJ5_append_cf1ce_30 ⟨(Nat.le_of_ble_eq_true rfl), by show 0 + k + 0 ≤ k; omega⟩) hS (fun x hx9 => wA_in hD x hx9) (fun H locs hP hS => ?_)
  have hD : va_D A (VB h u cB k (fB_str (mrp M τ) n g)) := wj_D hD (VB_fix h u cB k (mrp M τ) (fB_str (mrp M τ) n g))
  refine lv_aload_n hx hb dJ5_append_cf1ce_33 rfl (lv_at hl 1 rfl) ?_
  refine lv_dup hx hb dJ5_append_cf1ce_34 rfl ?_
  refine va_get (own := RJ5) (ref := "java/lang/AbstractStringBuilder") (C := RJ4) (T := TJ4) (N := 4) hx hb hts hin4 hown hK hP 0 VB_0 rfl 3 (Nat.le_of_ble_eq_true rfl) (hts (.fieldLink RJ5 79 "java/lang/AbstractStringBuilder" "count" "I") (by decide +kernel)) (fun _ h => h) (v := .int (iI (M 0 0))) rfl dJ5_append_cf1ce_35 ?_
  refine lv_iload_n hx hb dJ5_append_cf1ce_38 rfl (lv_at hl 0 rfl) ?_
  refine z_iadd hx hb dJ5_append_cf1ce_39 ?_
  refine va_put (own := RJ5) (ref := "java/lang/AbstractStringBuilder") (C := RJ4) (T := TJ4) (N := 4) hx hb hts hin4 tyJ4 tyJ4_ok nmJ4 hown hK hP hD hS 0 VB_0 rfl 3 (Nat.le_of_ble_eq_true rfl) (hts (.fieldLink RJ5 79 "java/lang/AbstractStringBuilder" "count" "I") (by decide +kernel)) (fun _ h => h) rfl (ty := .int) (v := .int (iI (M 0 0 + (n : Int)))) (by decide +kernel) rfl rfl (Nat.le_of_ble_eq_true rfl) dJ5_append_cf1ce_40 (fun H locs hP hD hS => ?_)
  have hP : va_P D vwCl (VB h u cB k (fB_app (mrp M τ) n g)) H := hP
  refine lv_aload_n hx hb dJ5_append_cf1ce_43 rfl (lv_at hl 1 rfl) ?_
  exact cg_ref hx hb hr (Or.inl ⟨_, rfl⟩) hlocks u 0 τ rfl hτ hP hD hS (by decide) (by omega) dJ5_append_cf1ce_44
set_option maxRecDepth 100000 in
set_option maxHeartbeats 4000000 in
theorem kB_appendG (l : Launch) (D : va_G) (h a : Nat) (cB : ClassId) (cap k : Nat) (M : Mem) (q t n : Nat) (g : Int → Int) (tO : Nat) (sz : Nat) (hk0 : 0 ≤ M 0 0 ∧ M 0 0 ≤ cap) (hk : M 0 0 + n = k) (hk1 : cap + (cap + 2) ≤ k ∧ k ≤ 65536) (hg : ∀ i : Int, 0 ≤ i → i < n → 0 ≤ g i ∧ g i < 128) (hg1 : ∀ i : Int, 0 ≤ i → i < cap → 0 ≤ M 1 i ∧ M 1 i < 128) : Cg l yJ4_append_15ec4 wsJ4_append_15ec4 { frames := 9, cells := 1, slots := k, locals := 400 } [.ref h, .ref q] D (TYB cB) (VB h a cB cap M) (ZB (AB h a) q t n g tO) (fun _ _ τ => τ = cpI (M 1) (fun _ => 0) 0 0 cap) (fun _ _ => some (.ref h)) (fun u _ τ => VB h u cB k (fB_app (mrp M τ) n g)) 1 k sz := by
  refine Cg.of (cc := cJ4_append_15ec4) (maxL := 2) (ret := (some (.object "java/lang/StringBuilder"))) (by decide +kernel) rfl (Nat.le_of_ble_eq_true rfl) ?_
  intro A p e s m args below meth c ls hx hb hml hr hown hts hlocks hin hP hK hD hZ hS hA hAe hl
  have hl : lv_has ls 2 [(0, .ref h), (1, .ref q)] := hl
  have S0 : CallFix p m c cJ4_append_15ec4 2 s args wsJ4_append_15ec4 RJ4 := ⟨hx, hb, hml, hown, hts⟩
  have hat : ClassAt s RJ4 (D.1 9) := (hK.1 9 (RJ4, TJ4, 4) rfl).2
  refine lv_aload_n hx hb dJ4_append_15ec4_0 rfl (lv_at hl 0 rfl) ?_
  refine lv_aload_n hx hb dJ4_append_15ec4_1 rfl (lv_at hl 1 rfl) ?_
  refine cg_call (wc := VB h a cB cap M) (wr := []) [0, 1] [] rfl rfl rfl rfl (by decide) hP hD hS hA (va_runSU (As := [.ref q]) (rest := []) (C := RJ4) hat S0 (kB_append5G l D h a cB cap k M q t n g tO s.heap.size hk0 hk hk1 hg hg1) (va_cwSU 1 hts gJ4_append_15ec4_J5_append_cf1ce_s29 rfl rfl rfl (by decide +kernel) ⟨(Nat.le_of_ble_eq_true rfl), (Nat.le_of_ble_eq_true rfl)⟩) (cg_preV (va_recv hK hP (ci := 9) (q0 := 0) rfl VB_0) (ZB_bl (AB h a) q t n g tO) (fun U hU hW => hZ.keep hW (fun x _ _ => by rw [hU])) hK hP hD [0, 1] rfl rfl) rfl rfl hl.1 rfl (lv_room (Nat.le_of_ble_eq_true rfl)) dJ4_append_15ec4_2 ⟨(Nat.le_of_ble_eq_true rfl), by show 0 + k ≤ k; omega⟩) (fun u v τ H locs hτ hP hD hS => ?_)
  refine lv_pop hx hb dJ4_append_15ec4_5 rfl ?_
  refine lv_aload_n hx hb dJ4_append_15ec4_6 rfl (lv_at hl 0 rfl) ?_
  exact cg_ref hx hb hr (Or.inl ⟨_, rfl⟩) hlocks u 0 τ rfl hτ hP hD hS (by decide) (by omega) dJ4_append_15ec4_7
