/-! STRINGBUILDER: VB h a cB cap: the builder h, its bytes a; M 0 0 letters, M 1 the letters (written by mk10a.py). -/
def VB (h a : Nat) (cB : ClassId) (cap : Nat) (M : Mem) : va_W := [(h, .inr (9, [.ref a, .int (iI 0), .int (iI 0), .int (iI (M 0 0))])), (a, .inl (cB, cap, .inl (aI (M 1))))]
theorem VB_fix (h a : Nat) (cB : ClassId) (cap : Nat) : VFix (VB h a cB cap) := fun _ _ => rfl
theorem VB_0 {h a : Nat} {cB : ClassId} {cap : Nat} {M : Mem} : (VB h a cB cap M)[0]? = some (h, .inr (9, [.ref a, .int (iI 0), .int (iI 0), .int (iI (M 0 0))])) := rfl
theorem VB_1 {h a : Nat} {cB : ClassId} {cap : Nat} {M : Mem} : (VB h a cB cap M)[1]? = some (a, .inl (cB, cap, .inl (aI (M 1)))) := rfl
abbrev TYB (cB : ClassId) : List (ClassId × FieldType) := [(cB, .byte)]
def AB (h a : Nat) : Nat → Prop := wA (VB h a 0 0 (fun _ _ => 0))
theorem AB_e (h a : Nat) (cB : ClassId) (cap : Nat) (M : Mem) : wA (VB h a cB cap M) = AB h a := rfl
def ZB (A : Nat → Prop) (q t n : Nat) (g : Int → Int) (tO : Nat) (U : State) : Prop := va_Z RJ0 "COMPACT_STRINGS" "Z" (.int (iI 1)) A U U.heap ∧ StrF q t n g A U ∧ va_Z RJ6 "DigitOnes" "[B" (.ref tO) A U U.heap ∧ va_T .byte tO 100 (fun j => .int (iI (48 + (j : Int) % 10))) A U U.heap
theorem ZB.keep {q t n tO : Nat} {g : Int → Int} {A : Nat → Prop} {s U : State} (hW : s.WarmedH U.vm) (hq : ∀ q : Nat, q < s.heap.size → ¬ A q → U.heap[q]? = s.heap[q]?) (h : ZB A q t n g tO s) : ZB A q t n g tO U :=
  ⟨va_Z.moved hW.alike (h.1.kept hq), h.2.1.keep hW hq, va_Z.moved hW.alike (h.2.2.1.kept hq), va_T.moved hW.alike (h.2.2.2.kept hq)⟩
theorem ZB_ok (h a : Nat) (cB : ClassId) (cap : Nat) (q t n : Nat) (g : Int → Int) (tO : Nat) : ∀ M : Mem, ZOk (VB h a cB cap M) (ZB (AB h a) q t n g tO) := fun M s U hW _ hq hz => hz.keep hW (fun q h1 h2 => hq q h1 (by rw [AB_e]; exact h2))
theorem ZB_bl (A : Nat → Prop) (q t n : Nat) (g : Int → Int) (tO : Nat) : ZBl (ZB A q t n g tO) := fun a U g' mk hz => hz.keep (s := U) (U := U.calling g' mk a) (State.WarmedH.refl U) (fun _ _ _ => rfl)
theorem ZB.narrow {q t n tO : Nat} {g : Int → Int} {A B : Nat → Prop} {U : State} (hAB : ∀ q, B q → A q) (h : ZB A q t n g tO U) : ZB B q t n g tO U := ⟨h.1.narrow hAB, h.2.1.narrow hAB, h.2.2.1.narrow hAB, h.2.2.2.narrow hAB⟩
theorem iI_neg (a : Int) : -(iI a) = iI (-a) := (Int32.ofInt_neg a).symm
theorem nar_b : ∀ v : Fin 128, vp_nar .byte (iI (v.val : Int)) = iI (v.val : Int) := by decide +kernel
theorem nar_be {v : Int} (h0 : 0 ≤ v) (h1 : v < 128) : vp_nar .byte (iI v) = iI v := by
  obtain ⟨k, rfl⟩ := Int.eq_ofNat_of_zero_le h0
  exact nar_b ⟨k, by omega⟩
theorem fits_b : ∀ v : Fin 128, fits .byte (.int (iI (v.val : Int))) = true := by decide +kernel
theorem fits_be {v : Int} (h0 : 0 ≤ v) (h1 : v < 128) : fits .byte (.int (iI v)) = true := by
  obtain ⟨k, rfl⟩ := Int.eq_ofNat_of_zero_le h0
  exact fits_b ⟨k, by omega⟩
theorem zshl0 {a : Int} (h : I32 a) : zshl a (0) = a := by
  unfold zshl
  rw [show (iI 0 &&& 31 : Int32) = 0 from by decide +kernel, show ∀ x : Int32, x <<< (0 : Int32) = x from fun x => sb_shl0 x]
  exact iI_ti h
section
variable {p : Program} {l : Launch} {e : Env} {R : Room} {s : State} {m : MethodId} {args : Array Value} {below : List Frame} {meth : Method} {c : Code} {H : Heap} {locs : List Loc} {cells slots : Nat} {Q : State → Prop}
variable {cc : ByteArray} {pc : Nat} {ls : Array Slot} {rest : List Value}
theorem z_ineg (hx : p.tables.exec = Jvm.exec) (hb : c.code = cc) {a : Int} (hdg : decode cc pc = .ok (.ineg, 1)) (k : W p l e R s m args below meth c H locs cells slots Q (F0 m (pc + 1) ls (.int (iI (-a)) :: rest))) : W p l e R s m args below meth c H locs cells slots Q (F0 m pc ls (.int (iI a) :: rest)) := by
  refine lv_ineg hx hb hdg ?_
  rw [iI_neg]
  exact k
variable {D : va_G} {tys : List (ClassId × FieldType)}
theorem ct_Uv {x y : MethodName} {bytes : ByteArray} {maxL nL n index fr lo : Nat} {ret : Option FieldType} {ws Ts : List Cond} {own C owner : String} {As stk : List Value} {V : Mem → va_W} {Z : State → Prop} {M0 M M' : Mem} {b : Addr}
    (hV : VFix V) (hZo : ∀ M : Mem, ZOk (V M) Z) (hZb : ZBl Z) (hZ : Z s) (S0 : CallFix p m c cc nL s args Ts own) (hM : Cv l y ws fr lo (.ref b :: As) D tys V Z M M') (cw : va_CU R s args own C owner index x y bytes maxL ret ws (zRm fr lo) 0 0 n) (hK : va_K D vwCl tys s) (hP : va_P D vwCl (V M) H) (hD : va_D (wA (V M0)) (V M)) (hS : va_S (wA (V M0)) s.heap H locs) (hrc : ∃ cell : Cell, H[b]? = some cell ∧ cell.vm.isStatics = false ∧ s.vm.findClass C = some cell.cls)
    (hn : As.length = n) (hsize : ls.size = nL) (hst : stk = As.reverse ++ .ref b :: rest) (hcat : (rest.map fun v => v.category).sum ≤ 8) (hdg : decode cc pc = .ok (.invokevirtual index, 3)) (hf : cells ≤ R.cells ∧ slots ≤ R.slots)
    (kk : ∀ (H1 : Heap) (locs1 : List Loc), va_P D vwCl (V M') H1 → va_D (wA (V M0)) (V M') → va_S (wA (V M0)) s.heap H1 locs1 → W p l e R s m args below meth c H1 locs1 cells slots Q (F0 m (pc + 3) ls rest)) : W p l e R s m args below meth c H locs cells slots Q (F0 m pc ls stk) := by
  subst hst
  refine va_callv (mc := 0) (ms := 0) (rest := rest) (va_runU (As := As) (rest := rest) S0 hM cw ⟨wr_blind hZb, hrc, fun U hU hW => ⟨rfl, by rw [hU]; exact hP, va_K.moved hW.alike hK, wA_any hD, hZo M0 s U hW (by rw [hU]; exact hS.1) (fun q h1 h2 => by rw [hU]; exact hS.2.1 q h1 h2) hZ⟩⟩ rfl hn hsize rfl (lv_room hcat) hdg hf) hS (fun q _ h => wA_in hD q h) (fun q h => wA_in hD q h) (fun u t H1 locs1 ht hvm hp hB hz hk hS1 => ?_)
  rw [ht] at hB
  exact kk H1 locs1 hB (wj_D hD (hV _ _)) hS1
theorem ct_SUr {y : MethodName} {bytes : ByteArray} {maxL nL n index fr lo : Nat} {ret : Option FieldType} {ws Ts : List Cond} {own : String} {As stk : List Value} {V : Mem → va_W} {Z : State → Prop} {M0 M M' : Mem} {rv : Value} {b : Addr}
    (hV : VFix V) (hZo : ∀ M : Mem, ZOk (V M) Z) (hZb : ZBl Z) (hZ : Z s) (S0 : CallFix p m c cc nL s args Ts own) (hM : Cr l y ws fr lo (.ref b :: As) D tys V Z M rv M') (cw : va_CS R s args own index y bytes maxL ret ws (zRm fr lo) 0 0 n) (hK : va_K D vwCl tys s) (hP : va_P D vwCl (V M) H) (hD : va_D (wA (V M0)) (V M)) (hS : va_S (wA (V M0)) s.heap H locs) (hrc : ∃ cell : Cell, H[b]? = some cell ∧ cell.vm.isStatics = false ∧ s.vm.findClass RJ4 = some cell.cls)
    (hn : As.length = n) (hsize : ls.size = nL) (hst : stk = As.reverse ++ .ref b :: rest) (hcat : (rest.map fun v => v.category).sum ≤ 8) (hdg : decode cc pc = .ok (.invokespecial index, 3)) (hf : cells ≤ R.cells ∧ slots ≤ R.slots)
    (kk : ∀ (H1 : Heap) (locs1 : List Loc), va_P D vwCl (V M') H1 → va_D (wA (V M0)) (V M') → va_S (wA (V M0)) s.heap H1 locs1 → W p l e R s m args below meth c H1 locs1 cells slots Q (F0 m (pc + 3) ls (rv :: rest))) : W p l e R s m args below meth c H locs cells slots Q (F0 m pc ls stk) := by
  subst hst
  have hat : ClassAt s RJ4 (D.1 9) := (hK.1 9 (RJ4, TJ4, 4) rfl).2
  exact ct_run (va_runSU (As := As) (rest := rest) (C := RJ4) hat S0 hM cw ⟨wr_blind hZb, hrc, fun U hU hW => ⟨rfl, by rw [hU]; exact hP, va_K.moved hW.alike hK, wA_any hD, hZo M0 s U hW (by rw [hU]; exact hS.1) (fun q h1 h2 => by rw [hU]; exact hS.2.1 q h1 h2) hZ⟩⟩ rfl hn hsize rfl (lv_room hcat) hdg hf) hS (fun q h => wA_in hD q h) (fun H1 locs1 h1 h2 => kk H1 locs1 h1 (wj_D hD (hV _ _)) h2)
end
set_option maxRecDepth 100000 in
set_option maxHeartbeats 4000000 in
theorem kB_stringSize (l : Launch) (D : va_G) (h a : Nat) (cB : ClassId) (cap : Nat) (M : Mem) (q t n : Nat) (g : Int → Int) (tO : Nat) (v : Int) (hv : 0 ≤ v ∧ v ≤ 9) : Ci l yJ6_stringSize_0f7a4 wsJ6_stringSize_0f7a4 0 0 [.int (iI v)] D (TYB cB) (VB h a cB cap) (ZB (AB h a) q t n g tO) M 1 M := by
  refine Ci.of (cc := cJ6_stringSize_0f7a4) (maxL := 4) (ret := (some .int)) (by decide +kernel) rfl (Nat.le_of_ble_eq_true rfl) ?_
  intro p e s m args below meth c ls hx hb hml hr hown hts hlocks hP hK hD hZ hS hl
  have hl : lv_has ls 4 [(0, .int (iI v))] := hl
  have S0 : CallFix p m c cJ6_stringSize_0f7a4 4 s args wsJ6_stringSize_0f7a4 RJ6 := ⟨hx, hb, hml, hown, hts⟩
  refine z_iconst hx hb dJ6_stringSize_0f7a4_0 ?_
  refine lv_istore_n (lv' := [(1, .int (iI 1)), (0, .int (iI v))]) hx hb dJ6_stringSize_0f7a4_1 rfl hl (by decide) rfl (fun ls hl => ?_)
  refine lv_iload_n hx hb dJ6_stringSize_0f7a4_2 rfl (lv_at hl 1 rfl) ?_
  refine z_if_lt hx hb dJ6_stringSize_0f7a4_3 (tgt := 11) rfl ⟨by omega, by omega⟩ (fun hbr => absurd hbr (by omega)) (fun hbr => ?_)
  refine z_iconst hx hb dJ6_stringSize_0f7a4_6 ?_
  refine lv_istore_n (lv' := [(1, .int (iI 0)), (0, .int (iI v))]) hx hb dJ6_stringSize_0f7a4_7 rfl hl (by decide) rfl (fun ls hl => ?_)
  refine lv_iload_n hx hb dJ6_stringSize_0f7a4_8 rfl (lv_at hl 1 rfl) ?_
  refine z_ineg hx hb dJ6_stringSize_0f7a4_9 ?_
  refine lv_istore_n (lv' := [(0, .int (iI (-v))), (1, .int (iI 0))]) hx hb dJ6_stringSize_0f7a4_10 rfl hl (by decide) rfl (fun ls hl => ?_)
  refine z_bipush hx hb dJ6_stringSize_0f7a4_11 (by decide +kernel) ?_
  refine lv_istore_n (lv' := [(2, .int (iI (-10))), (0, .int (iI (-v))), (1, .int (iI 0))]) hx hb dJ6_stringSize_0f7a4_13 rfl hl (by decide) rfl (fun ls hl => ?_)
  refine z_iconst hx hb dJ6_stringSize_0f7a4_14 ?_
  refine lv_istore_n (lv' := [(3, .int (iI 1)), (2, .int (iI (-10))), (0, .int (iI (-v))), (1, .int (iI 0))]) hx hb dJ6_stringSize_0f7a4_15 rfl hl (by decide) rfl (fun ls hl => ?_)
  refine lv_iload_n hx hb dJ6_stringSize_0f7a4_16 rfl (lv_at hl 0 rfl) ?_
  refine z_bipush hx hb dJ6_stringSize_0f7a4_17 (by decide +kernel) ?_
  refine z_icmp_ge hx hb dJ6_stringSize_0f7a4_19 (tgt := 42) rfl (by decide) (by decide) (fun hbr => absurd hbr (by decide)) (fun hbr => ?_)
  refine lv_iload_n hx hb dJ6_stringSize_0f7a4_22 rfl (lv_at hl 2 rfl) ?_
  refine lv_iload_n hx hb dJ6_stringSize_0f7a4_23 rfl (lv_at hl 1 rfl) ?_
  refine z_icmp_le hx hb dJ6_stringSize_0f7a4_24 (tgt := 31) rfl ⟨by omega, by omega⟩ (by decide) (fun hbr => absurd hbr (by omega)) (fun hbr => ?_)
  refine lv_iload_n hx hb dJ6_stringSize_0f7a4_27 rfl (lv_at hl 0 rfl) ?_
  refine lv_iload_n hx hb dJ6_stringSize_0f7a4_28 rfl (lv_at hl 3 rfl) ?_
  refine z_iadd hx hb dJ6_stringSize_0f7a4_29 ?_
  exact ci_i hx hb hr hlocks rfl rfl hS hP dJ6_stringSize_0f7a4_30
set_option maxRecDepth 100000 in
set_option maxHeartbeats 4000000 in
theorem kB_getChars (l : Launch) (D : va_G) (h a : Nat) (cB : ClassId) (cap : Nat) (M : Mem) (q t n : Nat) (g : Int → Int) (tO : Nat) (v k : Int) (hv : 0 ≤ v ∧ v ≤ 9) (hk : 1 ≤ k ∧ k ≤ cap) (hcap : cap ≤ 65536) : Ci l yJ6_getChars_ba4f3 wsJ6_getChars_ba4f3 0 0 [.int (iI v), .int (iI k), .ref a] D (TYB cB) (VB h a cB cap) (ZB (AB h a) q t n g tO) M (k - 1) (mst M 1 (k - 1) (48 + v)) := by
  refine Ci.of (cc := cJ6_getChars_ba4f3) (maxL := 7) (ret := (some .int)) (by decide +kernel) rfl (Nat.le_of_ble_eq_true rfl) ?_
  intro p e s m args below meth c ls hx hb hml hr hown hts hlocks hP hK hD hZ hS hl
  have hl : lv_has ls 7 [(0, .int (iI v)), (1, .int (iI k)), (2, .ref a)] := hl
  have S0 : CallFix p m c cJ6_getChars_ba4f3 7 s args wsJ6_getChars_ba4f3 RJ6 := ⟨hx, hb, hml, hown, hts⟩
  refine lv_iload_n hx hb dJ6_getChars_ba4f3_0 rfl (lv_at hl 1 rfl) ?_
  refine lv_istore (lv' := [(5, .int (iI k)), (0, .int (iI v)), (1, .int (iI k)), (2, .ref a)]) hx hb dJ6_getChars_ba4f3_1 hl (by decide) rfl (fun ls hl => ?_)
  refine lv_iload_n hx hb dJ6_getChars_ba4f3_3 rfl (lv_at hl 1 rfl) ?_
  refine z_if_ge hx hb dJ6_getChars_ba4f3_4 (tgt := 11) rfl ⟨by omega, by omega⟩ (fun hbr => ?_) (fun hbr => absurd (by omega) hbr)
  refine z_iconst hx hb dJ6_getChars_ba4f3_11 ?_
  refine lv_istore (lv' := [(6, .int (iI 0)), (5, .int (iI k)), (0, .int (iI v)), (1, .int (iI k)), (2, .ref a)]) hx hb dJ6_getChars_ba4f3_12 hl (by decide) rfl (fun ls hl => ?_)
  refine lv_iload hx hb dJ6_getChars_ba4f3_14 (lv_at hl 0 rfl) ?_
  refine z_if_ne hx hb dJ6_getChars_ba4f3_16 (tgt := 22) rfl (by decide) (fun hbr => absurd hbr (by decide)) (fun hbr => ?_)
  refine lv_iload_n hx hb dJ6_getChars_ba4f3_19 rfl (lv_at hl 2 rfl) ?_
  refine z_ineg hx hb dJ6_getChars_ba4f3_20 ?_
  refine lv_istore_n (lv' := [(0, .int (iI (-v))), (6, .int (iI 0)), (5, .int (iI k)), (1, .int (iI k)), (2, .ref a)]) hx hb dJ6_getChars_ba4f3_21 rfl hl (by decide) rfl (fun ls hl => ?_)
  refine lv_iload_n hx hb dJ6_getChars_ba4f3_22 rfl (lv_at hl 0 rfl) ?_
  refine z_bipush hx hb dJ6_getChars_ba4f3_23 (by decide +kernel) ?_
  refine z_icmp_gt hx hb dJ6_getChars_ba4f3_25 (tgt := 72) rfl ⟨by omega, by omega⟩ (by decide) (fun hbr => ?_) (fun hbr => absurd (by omega) hbr)
  refine lv_aload_n hx hb dJ6_getChars_ba4f3_72 rfl (lv_at hl 4 rfl) ?_
  refine z_iinc (k := 2) (n := (-1)) (lv' := [(5, .int (iI (k + (-1)))), (0, .int (iI (-v))), (6, .int (iI 0)), (1, .int (iI k)), (2, .ref a)]) hx hb dJ6_getChars_ba4f3_73 hl rfl (by decide) rfl (fun ls hl => ?_)
  refine lv_iload hx hb dJ6_getChars_ba4f3_76 (lv_at hl 0 rfl) ?_
  refine va_gets hx hb hZ.2.2.1 hS hown (hts (.fieldLink RJ6 83 "java/lang/Integer" "DigitOnes" "[B") (by decide +kernel)) (fun _ h => h) dJ6_getChars_ba4f3_78 ?_
  refine lv_iload_n hx hb dJ6_getChars_ba4f3_81 rfl (lv_at hl 1 rfl) ?_
  refine z_ineg hx hb dJ6_getChars_ba4f3_82 ?_
  rw [show (- -v : Int) = v by omega]
  refine z_tb hx hb hZ.2.2.2 hS (f := fun j => 48 + j % 10) (by omega) (by omega) (by decide) dJ6_getChars_ba4f3_83 ?_
  rw [show (48 + v % 10 : Int) = 48 + v by omega]
  rw [show (k + (-1) : Int) = k - 1 by omega]
  refine va_bast hx hb hK hP hD hS 1 0 VB_1 rfl (iI_in (by omega) (by omega) (by omega)) dJ6_getChars_ba4f3_84 (fun H locs hP hD hS => ?_)
  rw [nar_be (by omega) (by omega), aI_w (by omega) (by omega)] at hP hD
  have hP : va_P D vwCl (VB h a cB cap (mst M 1 (k - 1) (48 + v))) H := hP
  refine lv_iload_n hx hb dJ6_getChars_ba4f3_85 rfl (lv_at hl 1 rfl) ?_
  refine z_bipush hx hb dJ6_getChars_ba4f3_86 (by decide +kernel) ?_
  refine z_icmp_ge hx hb dJ6_getChars_ba4f3_88 (tgt := 104) rfl ⟨by omega, by omega⟩ (by decide) (fun hbr => ?_) (fun hbr => absurd (by omega) hbr)
  refine lv_iload hx hb dJ6_getChars_ba4f3_104 (lv_at hl 2 rfl) ?_
  refine z_if_eq hx hb dJ6_getChars_ba4f3_106 (tgt := 118) rfl (by decide) (fun hbr => ?_) (fun hbr => absurd (by decide) hbr)
  refine lv_iload hx hb dJ6_getChars_ba4f3_118 (lv_at hl 0 rfl) ?_
  exact ci_i hx hb hr hlocks (by omega) rfl hS hP dJ6_getChars_ba4f3_120
set_option maxRecDepth 100000 in
set_option maxHeartbeats 4000000 in
theorem kB_isLatin1 (l : Launch) (D : va_G) (h a : Nat) (cB : ClassId) (cap : Nat) (M : Mem) (q t n : Nat) (g : Int → Int) (tO : Nat) : Ci l yJ5_isLatin1_aae02 wsJ5_isLatin1_aae02 0 0 [.ref h] D (TYB cB) (VB h a cB cap) (ZB (AB h a) q t n g tO) M 1 M := by
  refine Ci.of (cc := cJ5_isLatin1_aae02) (maxL := 1) (ret := (some .boolean)) (by decide +kernel) rfl (Nat.le_of_ble_eq_true rfl) ?_
  intro p e s m args below meth c ls hx hb hml hr hown hts hlocks hP hK hD hZ hS hl
  have hl : lv_has ls 1 [(0, .ref h)] := hl
  have S0 : CallFix p m c cJ5_isLatin1_aae02 1 s args wsJ5_isLatin1_aae02 RJ5 := ⟨hx, hb, hml, hown, hts⟩
  have hin4 : ∀ w ∈ u_ws RJ4 TJ4 4, w ∈ wsJ5_isLatin1_aae02 := by decide +kernel
  refine va_gets hx hb hZ.1 hS hown (hts (.fieldLink RJ5 18 "java/lang/String" "COMPACT_STRINGS" "Z") (by decide +kernel)) (fun _ h => h) dJ5_isLatin1_aae02_0 ?_
  refine z_if_eq hx hb dJ5_isLatin1_aae02_3 (tgt := 17) rfl (by decide) (fun hbr => absurd hbr (by decide)) (fun hbr => ?_)
  refine lv_aload_n hx hb dJ5_isLatin1_aae02_6 rfl (lv_at hl 0 rfl) ?_
  refine va_get (own := RJ5) (ref := "java/lang/AbstractStringBuilder") (C := RJ4) (T := TJ4) (N := 4) hx hb hts hin4 hown hK hP 0 VB_0 rfl 1 (Nat.le_of_ble_eq_true rfl) (hts (.fieldLink RJ5 22 "java/lang/AbstractStringBuilder" "coder" "B") (by decide +kernel)) (fun _ h => h) (v := .int (iI 0)) rfl dJ5_isLatin1_aae02_7 ?_
  refine z_if_ne hx hb dJ5_isLatin1_aae02_10 (tgt := 17) rfl (by decide) (fun hbr => absurd hbr (by decide)) (fun hbr => ?_)
  refine z_iconst hx hb dJ5_isLatin1_aae02_13 ?_
  refine lv_goto (tgt := 18) hx hb dJ5_isLatin1_aae02_14 (by decide) ?_
  exact ci_i hx hb hr hlocks rfl nr_b1 hS hP dJ5_isLatin1_aae02_18
set_option maxRecDepth 100000 in
set_option maxHeartbeats 4000000 in
theorem kB_ensure (l : Launch) (D : va_G) (h a : Nat) (cB : ClassId) (cap : Nat) (M : Mem) (q t n : Nat) (g : Int → Int) (tO : Nat) (k : Int) (hk : 0 ≤ k ∧ k ≤ cap) (hcap : cap ≤ 65536) : Cv l yJ5_ensureCapacityInternal_d00df wsJ5_ensureCapacityInternal_d00df 0 0 [.ref h, .int (iI k)] D (TYB cB) (VB h a cB cap) (ZB (AB h a) q t n g tO) M M := by
  refine Cv.of (cc := cJ5_ensureCapacityInternal_d00df) (maxL := 3) (ret := none) (by decide +kernel) rfl (Nat.le_of_ble_eq_true rfl) ?_
  intro p e s m args below meth c ls hx hb hml hr hown hts hlocks hP hK hD hZ hS hl
  have hl : lv_has ls 3 [(0, .ref h), (1, .int (iI k))] := hl
  have S0 : CallFix p m c cJ5_ensureCapacityInternal_d00df 3 s args wsJ5_ensureCapacityInternal_d00df RJ5 := ⟨hx, hb, hml, hown, hts⟩
  have hin4 : ∀ w ∈ u_ws RJ4 TJ4 4, w ∈ wsJ5_ensureCapacityInternal_d00df := by decide +kernel
  refine lv_aload_n hx hb dJ5_ensureCapacityInternal_d00df_0 rfl (lv_at hl 0 rfl) ?_
  refine va_get (own := RJ5) (ref := "java/lang/AbstractStringBuilder") (C := RJ4) (T := TJ4) (N := 4) hx hb hts hin4 hown hK hP 0 VB_0 rfl 0 (Nat.le_of_ble_eq_true rfl) (hts (.fieldLink RJ5 15 "java/lang/AbstractStringBuilder" "value" "[B") (by decide +kernel)) (fun _ h => h) (v := .ref a) rfl dJ5_ensureCapacityInternal_d00df_1 ?_
  refine z_alenN hx hb hK hP 1 0 VB_1 rfl (v := (cap : Int)) rfl dJ5_ensureCapacityInternal_d00df_4 ?_
  refine lv_aload_n hx hb dJ5_ensureCapacityInternal_d00df_5 rfl (lv_at hl 0 rfl) ?_
  refine va_get (own := RJ5) (ref := "java/lang/AbstractStringBuilder") (C := RJ4) (T := TJ4) (N := 4) hx hb hts hin4 hown hK hP 0 VB_0 rfl 1 (Nat.le_of_ble_eq_true rfl) (hts (.fieldLink RJ5 22 "java/lang/AbstractStringBuilder" "coder" "B") (by decide +kernel)) (fun _ h => h) (v := .int (iI 0)) rfl dJ5_ensureCapacityInternal_d00df_6 ?_
  refine z_ishr hx hb dJ5_ensureCapacityInternal_d00df_9 ?_
  rw [zshr0 ⟨by omega, by omega⟩]
  refine lv_istore_n (lv' := [(2, .int (iI (cap : Int))), (0, .ref h), (1, .int (iI k))]) hx hb dJ5_ensureCapacityInternal_d00df_10 rfl hl (by decide) rfl (fun ls hl => ?_)
  refine lv_iload_n hx hb dJ5_ensureCapacityInternal_d00df_11 rfl (lv_at hl 2 rfl) ?_
  refine lv_iload_n hx hb dJ5_ensureCapacityInternal_d00df_12 rfl (lv_at hl 0 rfl) ?_
  refine z_isub hx hb dJ5_ensureCapacityInternal_d00df_13 ?_
  refine z_if_le hx hb dJ5_ensureCapacityInternal_d00df_14 (tgt := 38) rfl ⟨by omega, by omega⟩ (fun hbr => ?_) (fun hbr => absurd (by omega) hbr)
  exact cv_v hx hb hr hlocks hS hP dJ5_ensureCapacityInternal_d00df_38
set_option maxRecDepth 100000 in
set_option maxHeartbeats 4000000 in
theorem kB_coder (l : Launch) (D : va_G) (h a : Nat) (cB : ClassId) (cap : Nat) (M : Mem) (q t n : Nat) (g : Int → Int) (tO : Nat) : Ci l yJ0_coder_7d493 wsJ0_coder_7d493 0 0 [.ref q] D (TYB cB) (VB h a cB cap) (ZB (AB h a) q t n g tO) M 0 M := by
  refine Ci.of (cc := cJ0_coder_7d493) (maxL := 1) (ret := (some .byte)) (by decide +kernel) rfl (Nat.le_of_ble_eq_true rfl) ?_
  intro p e s m args below meth c ls hx hb hml hr hown hts hlocks hP hK hD hZ hS hl
  have hl : lv_has ls 1 [(0, .ref q)] := hl
  have S0 : CallFix p m c cJ0_coder_7d493 1 s args wsJ0_coder_7d493 RJ0 := ⟨hx, hb, hml, hown, hts⟩
  refine va_gets hx hb hZ.1 hS hown (hts (.fieldLink RJ0 38 "java/lang/String" "COMPACT_STRINGS" "Z") (by decide +kernel)) (fun _ h => h) dJ0_coder_7d493_0 ?_
  refine z_if_eq hx hb dJ0_coder_7d493_3 (tgt := 13) rfl (by omega) (fun hbr => absurd hbr (by decide)) (fun hbr => ?_)
  refine lv_aload_n hx hb dJ0_coder_7d493_6 rfl (lv_at hl 0 rfl) ?_
  refine vk_getf hx hb hZ.2.1.2.2.1 hS hown (hts (.fieldLink RJ0 15 "java/lang/String" "coder" "B") (by decide +kernel)) (fun _ h => h) dJ0_coder_7d493_7 ?_
  refine lv_goto hx hb dJ0_coder_7d493_10 (tgt := 14) rfl ?_
  exact ci_i hx hb hr hlocks rfl nr_y0 hS hP dJ0_coder_7d493_14
set_option maxRecDepth 100000 in
set_option maxHeartbeats 4000000 in
theorem kB_length (l : Launch) (D : va_G) (h a : Nat) (cB : ClassId) (cap : Nat) (M : Mem) (q t n : Nat) (g : Int → Int) (tO : Nat) (hn : n ≤ 65536) : Ci l yJ0_length_8abf5 wsJ0_length_8abf5 1 20 [.ref q] D (TYB cB) (VB h a cB cap) (ZB (AB h a) q t n g tO) M (n : Int) M := by
  refine Ci.of (cc := cJ0_length_8abf5) (maxL := 1) (ret := (some .int)) (by decide +kernel) rfl (Nat.le_of_ble_eq_true rfl) ?_
  intro p e s m args below meth c ls hx hb hml hr hown hts hlocks hP hK hD hZ hS hl
  have hl : lv_has ls 1 [(0, .ref q)] := hl
  have S0 : CallFix p m c cJ0_length_8abf5 1 s args wsJ0_length_8abf5 RJ0 := ⟨hx, hb, hml, hown, hts⟩
  refine lv_aload_n hx hb dJ0_length_8abf5_0 rfl (lv_at hl 0 rfl) ?_
  refine vk_getf hx hb hZ.2.1.2.1 hS hown (hts (.fieldLink RJ0 9 "java/lang/String" "value" "[B") (by decide +kernel)) (fun _ h => h) dJ0_length_8abf5_1 ?_
  refine z_tlen hx hb hZ.2.1.2.2.2 hS (v := (n : Int)) rfl dJ0_length_8abf5_4 ?_
  refine lv_aload_n hx hb dJ0_length_8abf5_5 rfl (lv_at hl 0 rfl) ?_
  refine ct_Oi (VB_fix h a cB cap) (ZB_ok h a cB cap q t n g tO) (ZB_bl (AB h a) q t n g tO) hZ S0 (kB_coder l D h a cB cap M q t n g tO) (cwV 0 hts gJ0_length_8abf5_J0_coder_7d493 rfl rfl rfl (by decide +kernel) ⟨(Nat.le_of_ble_eq_true rfl), (Nat.le_of_ble_eq_true rfl)⟩) hK hP hD hS (va_Orecv hZ.2.1.1 hS) rfl hl.1 rfl (Nat.le_of_ble_eq_true rfl) dJ0_length_8abf5_6 ⟨Nat.zero_le _, Nat.zero_le _⟩ (fun H locs hP hD hS => ?_)
  refine z_ishr hx hb dJ0_length_8abf5_9 ?_
  exact ci_i hx hb hr hlocks (zshr0 ⟨by omega, by omega⟩) rfl hS hP dJ0_length_8abf5_10
section
variable {p : Program} {l : Launch} {e : Env} {R : Room} {s : State} {m : MethodId} {args : Array Value} {below : List Frame} {meth : Method} {c : Code} {H : Heap} {locs : List Loc} {cells slots : Nat} {Q : State → Prop}
variable {cc : ByteArray} {pc : Nat} {ls : Array Slot} {rest : List Value} {D : va_G} {cl : List vw_C} {tys : List (ClassId × FieldType)} {A : Nat → Prop} {ws : va_W} {a : Nat}
/-- letters of a frozen text, into a row of bytes -/
theorem z_copyt (hx : p.tables.exec = Jvm.exec) (hb : c.code = cc) (hml : c.maxLocals = ls.size) {own : String} {index : Nat} (hown : s.vm.findClass own = some m.cls) (hlink : (Cond.methodLink own index arraycopyName).before args s = true) (hnat : (Cond.native arraycopyName).before args s = true) (hstat : (Cond.static arraycopyName).before args s = true) (hini : (Cond.initialized "java/lang/System").before args s = true)
    (hK : va_K D cl tys s) (hP : va_P D cl ws H) (hD : va_D A ws) (hS : va_S A s.heap H locs) {b0 n0 : Nat} {σ τ : Int → Int} {ws' : va_W} (hX : va_T .byte b0 n0 (fun j => .int (iI (σ (j : Int)))) A s s.heap) (q1 t1 : Nat) {c1 : ClassId} {n1 : Nat} (ha1 : ws[q1]? = some (a, .inl (c1, n1, .inl (aI τ)))) (ht1 : tys[t1]? = some (c1, .byte))
    {dp n : Int} (h2 : 0 ≤ dp) (h3 : 0 ≤ n) (h4 : n ≤ n0) (h5 : dp + n ≤ n1) (hn0 : n0 < 2147483648) (hn1 : n1 < 2147483648) (hfit : ∀ i : Int, 0 ≤ i → i < n → 0 ≤ σ i ∧ σ i < 128)
    (hframes : 1 ≤ R.frames) (hlocals : (rest.map fun v => v.category).sum + 18 ≤ R.locals) (hdg : decode cc pc = .ok (.invokestatic index, 3))
    (hw : ws.set q1 (a, .inl (c1, n1, .inl (aI (cpI σ τ 0 dp n)))) = ws')
    (kk : ∀ (H1 : Heap) (locs1 : List Loc), va_P D cl ws' H1 → va_D A ws' → va_S A s.heap H1 locs1 → W p l e R s m args below meth c H1 locs1 cells slots Q (F0 m (pc + 3) ls rest)) : W p l e R s m args below meth c H locs cells slots Q (F0 m pc ls (.int (iI n) :: .int (iI dp) :: .ref a :: .int (iI 0) :: .ref b0 :: rest)) := by
  have i2 : I32 dp := ⟨by omega, by omega⟩
  have i3 : I32 n := ⟨by omega, by omega⟩
  have ng : ∀ {z : Int}, 0 ≤ z → I32 z → ¬ iI z < 0 := fun {z} h0 hz q => by have := (iI_lt (b := 0) hz (by decide)).mp q; omega
  have i0 : (iI 0).toNatClampNeg = 0 := by rw [iI_cl (by decide)]; rfl
  refine vk_copyt hx hb hml hown hlink hnat hstat hini hK hP hD hS (f := aI σ) (g := aI τ) hX q1 t1 ha1 ht1 (by decide) (ng h2 i2) (ng h3 i3) (by rw [i0, iI_cl i3]; omega) (by rw [iI_cl i2, iI_cl i3]; omega) (fun i hi => ?_) hframes hlocals hdg (fun H1 locs1 p1 d1 s1 => ?_)
  · rw [iI_cl i3] at hi
    rw [i0]
    have h9 := hfit ((0 + i : Nat) : Int) (by omega) (by omega)
    exact fits_be h9.1 h9.2
  · rw [i0, iI_cl i2, iI_cl i3, show (0 : Nat) = (0 : Int).toNat from rfl, cpI_e (by decide) h2 h3, hw] at p1 d1
    exact kk H1 locs1 p1 d1 s1
end
def fB_str (M : Mem) (n : Nat) (g : Int → Int) : Mem := fun r => cond (Nat.beq r 1) (cpI g (M 1) 0 (M 0 0) n) (M r)
set_option maxRecDepth 100000 in
set_option maxHeartbeats 4000000 in
theorem kB_getBytes (l : Launch) (D : va_G) (h a : Nat) (cB : ClassId) (cap : Nat) (M : Mem) (q t n : Nat) (g : Int → Int) (tO : Nat) (hk : 0 ≤ M 0 0 ∧ M 0 0 + n ≤ cap) (hcap : cap ≤ 65536) (hg : ∀ i : Int, 0 ≤ i → i < n → 0 ≤ g i ∧ g i < 128) : Cv l yJ0_getBytes_840e7 wsJ0_getBytes_840e7 2 60 [.ref q, .ref a, .int (iI (M 0 0)), .int (iI 0)] D (TYB cB) (VB h a cB cap) (ZB (AB h a) q t n g tO) M (fB_str M n g) := by
  refine Cv.of (cc := cJ0_getBytes_840e7) (maxL := 4) (ret := none) (by decide +kernel) rfl (Nat.le_of_ble_eq_true rfl) ?_
  intro p e s m args below meth c ls hx hb hml hr hown hts hlocks hP hK hD hZ hS hl
  have hl : lv_has ls 4 [(0, .ref q), (1, .ref a), (2, .int (iI (M 0 0))), (3, .int (iI 0))] := hl
  have S0 : CallFix p m c cJ0_getBytes_840e7 4 s args wsJ0_getBytes_840e7 RJ0 := ⟨hx, hb, hml, hown, hts⟩
  refine lv_aload_n hx hb dJ0_getBytes_840e7_0 rfl (lv_at hl 0 rfl) ?_
  refine ct_Oi (VB_fix h a cB cap) (ZB_ok h a cB cap q t n g tO) (ZB_bl (AB h a) q t n g tO) hZ S0 (kB_coder l D h a cB cap M q t n g tO) (cwV 0 hts gJ0_getBytes_840e7_J0_coder_7d493 rfl rfl rfl (by decide +kernel) ⟨(Nat.le_of_ble_eq_true rfl), (Nat.le_of_ble_eq_true rfl)⟩) hK hP hD hS (va_Orecv hZ.2.1.1 hS) rfl hl.1 rfl (Nat.le_of_ble_eq_true rfl) dJ0_getBytes_840e7_1 ⟨Nat.zero_le _, Nat.zero_le _⟩ (fun H locs hP hD hS => ?_)
  refine lv_iload_n hx hb dJ0_getBytes_840e7_4 rfl (lv_at hl 3 rfl) ?_
  refine z_icmp_ne hx hb dJ0_getBytes_840e7_5 (tgt := 28) rfl (by decide) (by decide) (fun hbr => absurd rfl hbr) (fun hbr => ?_)
  refine lv_aload_n hx hb dJ0_getBytes_840e7_8 rfl (lv_at hl 0 rfl) ?_
  refine vk_getf hx hb hZ.2.1.2.1 hS hown (hts (.fieldLink RJ0 9 "java/lang/String" "value" "[B") (by decide +kernel)) (fun _ h => h) dJ0_getBytes_840e7_9 ?_
  refine z_iconst hx hb dJ0_getBytes_840e7_12 ?_
  refine lv_aload_n hx hb dJ0_getBytes_840e7_13 rfl (lv_at hl 1 rfl) ?_
  refine lv_iload_n hx hb dJ0_getBytes_840e7_14 rfl (lv_at hl 2 rfl) ?_
  refine lv_iload_n hx hb dJ0_getBytes_840e7_15 rfl (lv_at hl 3 rfl) ?_
  refine z_ishl hx hb dJ0_getBytes_840e7_16 ?_
  rw [zshl0 ⟨by omega, by omega⟩]
  refine lv_aload_n hx hb dJ0_getBytes_840e7_17 rfl (lv_at hl 0 rfl) ?_
  refine vk_getf hx hb hZ.2.1.2.1 hS hown (hts (.fieldLink RJ0 9 "java/lang/String" "value" "[B") (by decide +kernel)) (fun _ h => h) dJ0_getBytes_840e7_18 ?_
  refine z_tlen hx hb hZ.2.1.2.2.2 hS (v := (n : Int)) rfl dJ0_getBytes_840e7_21 ?_
  refine z_copyt hx hb (hml.trans hl.1.symm) hown (hts (.methodLink RJ0 212 arraycopyName) (by decide +kernel)) (hts (.native arraycopyName) (by decide +kernel)) (hts (.static arraycopyName) (by decide +kernel)) (hts (.initialized "java/lang/System") (by decide +kernel)) hK hP hD hS hZ.2.1.2.2.2 1 0 VB_1 rfl hk.1 (by omega) (by omega) (by omega) (by omega) (by omega) hg (Nat.le_of_ble_eq_true rfl) (Nat.le_of_ble_eq_true rfl) dJ0_getBytes_840e7_22 (ws' := VB h a cB cap (fB_str M n g)) rfl (fun H locs hP hD hS => ?_)
  refine lv_goto hx hb dJ0_getBytes_840e7_25 (tgt := 43) rfl ?_
  exact cv_v hx hb hr hlocks hS hP dJ0_getBytes_840e7_43
set_option maxRecDepth 100000 in
set_option maxHeartbeats 4000000 in
theorem kB_inflateIf (l : Launch) (D : va_G) (h a : Nat) (cB : ClassId) (cap : Nat) (M : Mem) (q t n : Nat) (g : Int → Int) (tO : Nat) : Cv l yJ5_inflateIfNeededFor_a7421 wsJ5_inflateIfNeededFor_a7421 1 40 [.ref h, .ref q] D (TYB cB) (VB h a cB cap) (ZB (AB h a) q t n g tO) M M := by
  refine Cv.of (cc := cJ5_inflateIfNeededFor_a7421) (maxL := 2) (ret := none) (by decide +kernel) rfl (Nat.le_of_ble_eq_true rfl) ?_
  intro p e s m args below meth c ls hx hb hml hr hown hts hlocks hP hK hD hZ hS hl
  have hl : lv_has ls 2 [(0, .ref h), (1, .ref q)] := hl
  have S0 : CallFix p m c cJ5_inflateIfNeededFor_a7421 2 s args wsJ5_inflateIfNeededFor_a7421 RJ5 := ⟨hx, hb, hml, hown, hts⟩
  have hin4 : ∀ w ∈ u_ws RJ4 TJ4 4, w ∈ wsJ5_inflateIfNeededFor_a7421 := by decide +kernel
  refine va_gets hx hb hZ.1 hS hown (hts (.fieldLink RJ5 18 "java/lang/String" "COMPACT_STRINGS" "Z") (by decide +kernel)) (fun _ h => h) dJ5_inflateIfNeededFor_a7421_0 ?_
  refine z_if_eq hx hb dJ5_inflateIfNeededFor_a7421_3 (tgt := 21) rfl (by decide) (fun hbr => absurd hbr (by decide)) (fun hbr => ?_)
  refine lv_aload_n hx hb dJ5_inflateIfNeededFor_a7421_6 rfl (lv_at hl 0 rfl) ?_
  refine va_get (own := RJ5) (ref := "java/lang/AbstractStringBuilder") (C := RJ4) (T := TJ4) (N := 4) hx hb hts hin4 hown hK hP 0 VB_0 rfl 1 (Nat.le_of_ble_eq_true rfl) (hts (.fieldLink RJ5 22 "java/lang/AbstractStringBuilder" "coder" "B") (by decide +kernel)) (fun _ h => h) (v := .int (iI 0)) rfl dJ5_inflateIfNeededFor_a7421_7 ?_
  refine lv_aload_n hx hb dJ5_inflateIfNeededFor_a7421_10 rfl (lv_at hl 1 rfl) ?_
  refine ct_Oi (rest := [.int (iI 0)]) (VB_fix h a cB cap) (ZB_ok h a cB cap q t n g tO) (ZB_bl (AB h a) q t n g tO) hZ S0 (kB_coder l D h a cB cap M q t n g tO) (cwV 0 hts gJ5_inflateIfNeededFor_a7421_J0_coder_7d493 rfl rfl rfl (by decide +kernel) ⟨(Nat.le_of_ble_eq_true rfl), (Nat.le_of_ble_eq_true rfl)⟩) hK hP hD hS (va_Orecv hZ.2.1.1 hS) rfl hl.1 rfl (Nat.le_of_ble_eq_true rfl) dJ5_inflateIfNeededFor_a7421_11 ⟨Nat.zero_le _, Nat.zero_le _⟩ (fun H locs hP hD hS => ?_)
  refine z_icmp_eq hx hb dJ5_inflateIfNeededFor_a7421_14 (tgt := 21) rfl (by decide) (by decide) (fun hbr => ?_) (fun hbr => absurd rfl hbr)
  exact cv_v hx hb hr hlocks hS hP dJ5_inflateIfNeededFor_a7421_21
set_option maxRecDepth 100000 in
set_option maxHeartbeats 4000000 in
theorem kB_putStr (l : Launch) (D : va_G) (h a : Nat) (cB : ClassId) (cap : Nat) (M : Mem) (q t n : Nat) (g : Int → Int) (tO : Nat) (hk : 0 ≤ M 0 0 ∧ M 0 0 + n ≤ cap) (hcap : cap ≤ 65536) (hg : ∀ i : Int, 0 ≤ i → i < n → 0 ≤ g i ∧ g i < 128) : Cv l yJ5_putStringAt_47b60 wsJ5_putStringAt_47b60 3 100 [.ref h, .int (iI (M 0 0)), .ref q] D (TYB cB) (VB h a cB cap) (ZB (AB h a) q t n g tO) M (fB_str M n g) := by
  refine Cv.of (cc := cJ5_putStringAt_47b60) (maxL := 3) (ret := none) (by decide +kernel) rfl (Nat.le_of_ble_eq_true rfl) ?_
  intro p e s m args below meth c ls hx hb hml hr hown hts hlocks hP hK hD hZ hS hl
  have hl : lv_has ls 3 [(0, .ref h), (1, .int (iI (M 0 0))), (2, .ref q)] := hl
  have S0 : CallFix p m c cJ5_putStringAt_47b60 3 s args wsJ5_putStringAt_47b60 RJ5 := ⟨hx, hb, hml, hown, hts⟩
  have hin4 : ∀ w ∈ u_ws RJ4 TJ4 4, w ∈ wsJ5_putStringAt_47b60 := by decide +kernel
  refine lv_aload_n hx hb dJ5_putStringAt_47b60_0 rfl (lv_at hl 0 rfl) ?_
  refine lv_aload_n hx hb dJ5_putStringAt_47b60_1 rfl (lv_at hl 2 rfl) ?_
  refine ct_Uv (As := [.ref q]) (rest := []) (VB_fix h a cB cap) (ZB_ok h a cB cap q t n g tO) (ZB_bl (AB h a) q t n g tO) hZ S0 (kB_inflateIf l D h a cB cap M q t n g tO) (va_cwU 1 hts gJ5_putStringAt_47b60_J5_inflateIfNeededFor_a7421_u397J4 rfl rfl rfl rfl (by decide +kernel) ⟨(Nat.le_of_ble_eq_true rfl), (Nat.le_of_ble_eq_true rfl)⟩) hK hP hD hS (va_recv hK hP (ci := 9) (q0 := 0) rfl VB_0) rfl hl.1 rfl (Nat.le_of_ble_eq_true rfl) dJ5_putStringAt_47b60_2 ⟨Nat.zero_le _, Nat.zero_le _⟩ (fun H locs hP hD hS => ?_)
  refine lv_aload_n hx hb dJ5_putStringAt_47b60_5 rfl (lv_at hl 2 rfl) ?_
  refine lv_aload_n hx hb dJ5_putStringAt_47b60_6 rfl (lv_at hl 0 rfl) ?_
  refine va_get (own := RJ5) (ref := "java/lang/AbstractStringBuilder") (C := RJ4) (T := TJ4) (N := 4) hx hb hts hin4 hown hK hP 0 VB_0 rfl 0 (Nat.le_of_ble_eq_true rfl) (hts (.fieldLink RJ5 15 "java/lang/AbstractStringBuilder" "value" "[B") (by decide +kernel)) (fun _ h => h) (v := .ref a) rfl dJ5_putStringAt_47b60_7 ?_
  refine lv_iload_n hx hb dJ5_putStringAt_47b60_10 rfl (lv_at hl 1 rfl) ?_
  refine lv_aload_n hx hb dJ5_putStringAt_47b60_11 rfl (lv_at hl 0 rfl) ?_
  refine va_get (own := RJ5) (ref := "java/lang/AbstractStringBuilder") (C := RJ4) (T := TJ4) (N := 4) hx hb hts hin4 hown hK hP 0 VB_0 rfl 1 (Nat.le_of_ble_eq_true rfl) (hts (.fieldLink RJ5 22 "java/lang/AbstractStringBuilder" "coder" "B") (by decide +kernel)) (fun _ h => h) (v := .int (iI 0)) rfl dJ5_putStringAt_47b60_12 ?_
  refine ct_Ov (As := [.ref a, .int (iI (M 0 0)), .int (iI 0)]) (rest := []) (VB_fix h a cB cap) (ZB_ok h a cB cap q t n g tO) (ZB_bl (AB h a) q t n g tO) hZ S0 (kB_getBytes l D h a cB cap M q t n g tO hk hcap hg) (cwV 3 hts gJ5_putStringAt_47b60_J0_getBytes_840e7 rfl rfl rfl (by decide +kernel) ⟨(Nat.le_of_ble_eq_true rfl), (Nat.le_of_ble_eq_true rfl)⟩) hK hP hD hS (va_Orecv hZ.2.1.1 hS) rfl hl.1 rfl (Nat.le_of_ble_eq_true rfl) dJ5_putStringAt_47b60_15 ⟨Nat.zero_le _, Nat.zero_le _⟩ (fun H locs hP hD hS => ?_)
  exact cv_v hx hb hr hlocks hS hP dJ5_putStringAt_47b60_18
/-- behind append(String), append(int) -/
def fB_app (M : Mem) (n : Nat) (g : Int → Int) : Mem := msf (fB_str M n g) 0 (M 0 0 + n)
def fB_int (M : Mem) (v : Int) : Mem := msf (mst M 1 (M 0 0) (48 + v)) 0 (M 0 0 + 1)
theorem ccr_r {p : Program} {l : Launch} {e : Env} {R : Room} {s : State} {m : MethodId} {args : Array Value} {below : List Frame} {meth : Method} {c : Code} {H : Heap} {locs : List Loc} {cc : ByteArray} {pc : Nat} {ls : Array Slot} {D : va_G} {V : Mem → va_W} {M M' : Mem} {x : Nat} {C : String} (hx : p.tables.exec = Jvm.exec) (hb : c.code = cc) (hr : meth.sig.returnType = some (.object C)) (hlocks : meth.locks = false) (hS : va_S (wA (V M)) s.heap H locs) (hP : va_P D vwCl (V M') H) (hdg : decode cc pc = .ok (.areturn, 1)) : W p l e R s m args below meth c H locs 0 0 (MQ below (crQ D V M (.ref x) M') args s 0 0 (wA (V M))) (F0 m pc ls [.ref x]) :=
  W.aret hx hb hr (Or.inl ⟨_, rfl⟩) (Or.inr ⟨_, rfl⟩) (fun t ht hW => ⟨⟨rfl, by rw [ht]; exact hP⟩, hS.F ht⟩) hS.2.2 hdg hlocks
set_option maxRecDepth 100000 in
set_option maxHeartbeats 4000000 in
theorem kB_append5 (l : Launch) (D : va_G) (h a : Nat) (cB : ClassId) (cap : Nat) (M : Mem) (q t n : Nat) (g : Int → Int) (tO : Nat) (hk : 0 ≤ M 0 0 ∧ M 0 0 + n ≤ cap) (hcap : cap ≤ 65536) (hg : ∀ i : Int, 0 ≤ i → i < n → 0 ≤ g i ∧ g i < 128) : Cr l yJ5_append_cf1ce wsJ5_append_cf1ce 4 140 [.ref h, .ref q] D (TYB cB) (VB h a cB cap) (ZB (AB h a) q t n g tO) M (.ref h) (fB_app M n g) := by
  refine Cr.of (cc := cJ5_append_cf1ce) (maxL := 3) (ret := (some (.object "java/lang/AbstractStringBuilder"))) (by decide +kernel) rfl (Nat.le_of_ble_eq_true rfl) ?_
  intro p e s m args below meth c ls hx hb hml hr hown hts hlocks hP hK hD hZ hS hl
  have hl : lv_has ls 3 [(0, .ref h), (1, .ref q)] := hl
  have S0 : CallFix p m c cJ5_append_cf1ce 3 s args wsJ5_append_cf1ce RJ5 := ⟨hx, hb, hml, hown, hts⟩
  have hin4 : ∀ w ∈ u_ws RJ4 TJ4 4, w ∈ wsJ5_append_cf1ce := by decide +kernel
  refine lv_aload_n hx hb dJ5_append_cf1ce_0 rfl (lv_at hl 1 rfl) ?_
  refine lv_ifnonnull hx hb dJ5_append_cf1ce_1 (tgt := 9) rfl ?_
  refine lv_aload_n hx hb dJ5_append_cf1ce_9 rfl (lv_at hl 1 rfl) ?_
  refine ct_Oi (As := []) (rest := []) (VB_fix h a cB cap) (ZB_ok h a cB cap q t n g tO) (ZB_bl (AB h a) q t n g tO) hZ S0 (kB_length l D h a cB cap M q t n g tO (by omega)) (cwV 0 hts gJ5_append_cf1ce_J0_length_8abf5 rfl rfl rfl (by decide +kernel) ⟨(Nat.le_of_ble_eq_true rfl), (Nat.le_of_ble_eq_true rfl)⟩) hK hP hD hS (va_Orecv hZ.2.1.1 hS) rfl hl.1 rfl (Nat.le_of_ble_eq_true rfl) dJ5_append_cf1ce_10 ⟨Nat.zero_le _, Nat.zero_le _⟩ (fun H locs hP hD hS => ?_)
  refine lv_istore_n (lv' := [(2, .int (iI (n : Int))), (0, .ref h), (1, .ref q)]) hx hb dJ5_append_cf1ce_13 rfl hl (by decide) rfl (fun ls hl => ?_)
  refine lv_aload_n hx hb dJ5_append_cf1ce_14 rfl (lv_at hl 1 rfl) ?_
  refine lv_aload_n hx hb dJ5_append_cf1ce_15 rfl (lv_at hl 1 rfl) ?_
  refine va_get (own := RJ5) (ref := "java/lang/AbstractStringBuilder") (C := RJ4) (T := TJ4) (N := 4) hx hb hts hin4 hown hK hP 0 VB_0 rfl 3 (Nat.le_of_ble_eq_true rfl) (hts (.fieldLink RJ5 79 "java/lang/AbstractStringBuilder" "count" "I") (by decide +kernel)) (fun _ h => h) (v := .int (iI (M 0 0))) rfl dJ5_append_cf1ce_16 ?_
  refine lv_iload_n hx hb dJ5_append_cf1ce_19 rfl (lv_at hl 0 rfl) ?_
  refine z_iadd hx hb dJ5_append_cf1ce_20 ?_
  refine ct_Uv (As := [.int (iI (M 0 0 + (n : Int)))]) (rest := []) (VB_fix h a cB cap) (ZB_ok h a cB cap q t n g tO) (ZB_bl (AB h a) q t n g tO) hZ S0 (kB_ensure l D h a cB cap M q t n g tO (M 0 0 + (n : Int)) ⟨by omega, by omega⟩ hcap) (va_cwU 1 hts gJ5_append_cf1ce_J5_ensureCapacityInternal_d00df_u100J4 rfl rfl rfl rfl (by decide +kernel) ⟨(Nat.le_of_ble_eq_true rfl), (Nat.le_of_ble_eq_true rfl)⟩) hK hP hD hS (va_recv hK hP (ci := 9) (q0 := 0) rfl VB_0) rfl hl.1 rfl (Nat.le_of_ble_eq_true rfl) dJ5_append_cf1ce_21 ⟨Nat.zero_le _, Nat.zero_le _⟩ (fun H locs hP hD hS => ?_)
  refine lv_aload_n hx hb dJ5_append_cf1ce_24 rfl (lv_at hl 1 rfl) ?_
  refine lv_aload_n hx hb dJ5_append_cf1ce_25 rfl (lv_at hl 1 rfl) ?_
  refine va_get (own := RJ5) (ref := "java/lang/AbstractStringBuilder") (C := RJ4) (T := TJ4) (N := 4) hx hb hts hin4 hown hK hP 0 VB_0 rfl 3 (Nat.le_of_ble_eq_true rfl) (hts (.fieldLink RJ5 79 "java/lang/AbstractStringBuilder" "count" "I") (by decide +kernel)) (fun _ h => h) (v := .int (iI (M 0 0))) rfl dJ5_append_cf1ce_26 ?_
  refine lv_aload_n hx hb dJ5_append_cf1ce_29 rfl (lv_at hl 2 rfl) ?_
  refine ct_Uv (As := [.int (iI (M 0 0)), .ref q]) (rest := []) (VB_fix h a cB cap) (ZB_ok h a cB cap q t n g tO) (ZB_bl (AB h a) q t n g tO) hZ S0 (kB_putStr l D h a cB cap M q t n g tO hk hcap hg) (va_cwU 2 hts gJ5_append_cf1ce_J5_putStringAt_47b60_u208J4 rfl rfl rfl rfl (by decide +kernel) ⟨(Nat.le_of_ble_eq_true rfl), (Nat.le_of_ble_eq_true rfl)⟩) hK hP hD hS (va_recv hK hP (ci := 9) (q0 := 0) rfl VB_0) rfl hl.1 rfl (Nat.le_of_ble_eq_true rfl) dJ5_append_cf1ce_30 ⟨Nat.zero_le _, Nat.zero_le _⟩ (fun H locs hP hD hS => ?_)
  refine lv_aload_n hx hb dJ5_append_cf1ce_33 rfl (lv_at hl 1 rfl) ?_
  refine lv_dup hx hb dJ5_append_cf1ce_34 rfl ?_
  refine va_get (own := RJ5) (ref := "java/lang/AbstractStringBuilder") (C := RJ4) (T := TJ4) (N := 4) hx hb hts hin4 hown hK hP 0 VB_0 rfl 3 (Nat.le_of_ble_eq_true rfl) (hts (.fieldLink RJ5 79 "java/lang/AbstractStringBuilder" "count" "I") (by decide +kernel)) (fun _ h => h) (v := .int (iI (M 0 0))) rfl dJ5_append_cf1ce_35 ?_
  refine lv_iload_n hx hb dJ5_append_cf1ce_38 rfl (lv_at hl 0 rfl) ?_
  refine z_iadd hx hb dJ5_append_cf1ce_39 ?_
  refine va_put (own := RJ5) (ref := "java/lang/AbstractStringBuilder") (C := RJ4) (T := TJ4) (N := 4) hx hb hts hin4 tyJ4 tyJ4_ok nmJ4 hown hK hP hD hS 0 VB_0 rfl 3 (Nat.le_of_ble_eq_true rfl) (hts (.fieldLink RJ5 79 "java/lang/AbstractStringBuilder" "count" "I") (by decide +kernel)) (fun _ h => h) rfl (ty := .int) (v := .int (iI (M 0 0 + (n : Int)))) (by decide +kernel) rfl rfl (Nat.le_of_ble_eq_true rfl) dJ5_append_cf1ce_40 (fun H locs hP hD hS => ?_)
  have hP : va_P D vwCl (VB h a cB cap (fB_app M n g)) H := hP
  refine lv_aload_n hx hb dJ5_append_cf1ce_43 rfl (lv_at hl 1 rfl) ?_
  exact ccr_r hx hb hr hlocks hS hP dJ5_append_cf1ce_44
set_option maxRecDepth 100000 in
set_option maxHeartbeats 4000000 in
theorem kB_appendI5 (l : Launch) (D : va_G) (h a : Nat) (cB : ClassId) (cap : Nat) (M : Mem) (q t n : Nat) (g : Int → Int) (tO : Nat) (v : Int) (hv : 0 ≤ v ∧ v ≤ 9) (hk : 0 ≤ M 0 0 ∧ M 0 0 + 1 ≤ cap) (hcap : cap ≤ 65536) : Cr l yJ5_append_c97b9 wsJ5_append_c97b9 4 140 [.ref h, .int (iI v)] D (TYB cB) (VB h a cB cap) (ZB (AB h a) q t n g tO) M (.ref h) (fB_int M v) := by
  refine Cr.of (cc := cJ5_append_c97b9) (maxL := 4) (ret := (some (.object "java/lang/AbstractStringBuilder"))) (by decide +kernel) rfl (Nat.le_of_ble_eq_true rfl) ?_
  intro p e s m args below meth c ls hx hb hml hr hown hts hlocks hP hK hD hZ hS hl
  have hl : lv_has ls 4 [(0, .ref h), (1, .int (iI v))] := hl
  have S0 : CallFix p m c cJ5_append_c97b9 4 s args wsJ5_append_c97b9 RJ5 := ⟨hx, hb, hml, hown, hts⟩
  have hin4 : ∀ w ∈ u_ws RJ4 TJ4 4, w ∈ wsJ5_append_c97b9 := by decide +kernel
  refine lv_aload_n hx hb dJ5_append_c97b9_0 rfl (lv_at hl 0 rfl) ?_
  refine va_get (own := RJ5) (ref := "java/lang/AbstractStringBuilder") (C := RJ4) (T := TJ4) (N := 4) hx hb hts hin4 hown hK hP 0 VB_0 rfl 3 (Nat.le_of_ble_eq_true rfl) (hts (.fieldLink RJ5 79 "java/lang/AbstractStringBuilder" "count" "I") (by decide +kernel)) (fun _ h => h) (v := .int (iI (M 0 0))) rfl dJ5_append_c97b9_1 ?_
  refine lv_istore_n (lv' := [(2, .int (iI (M 0 0))), (0, .ref h), (1, .int (iI v))]) hx hb dJ5_append_c97b9_4 rfl hl (by decide) rfl (fun ls hl => ?_)
  refine lv_iload_n hx hb dJ5_append_c97b9_5 rfl (lv_at hl 0 rfl) ?_
  refine lv_iload_n hx hb dJ5_append_c97b9_6 rfl (lv_at hl 2 rfl) ?_
  refine ct_Si (As := [.int (iI v)]) (rest := [.int (iI (M 0 0))]) (VB_fix h a cB cap) (ZB_ok h a cB cap q t n g tO) (ZB_bl (AB h a) q t n g tO) hZ S0 (kB_stringSize l D h a cB cap M q t n g tO v hv) (va_cwS 1 hts gJ5_append_c97b9_J6_stringSize_0f7a4 rfl rfl rfl (by decide +kernel) ⟨(Nat.le_of_ble_eq_true rfl), (Nat.le_of_ble_eq_true rfl)⟩) hK hP hD hS rfl hl.1 rfl (Nat.le_of_ble_eq_true rfl) dJ5_append_c97b9_7 ⟨Nat.zero_le _, Nat.zero_le _⟩ (fun H locs hP hD hS => ?_)
  refine z_iadd hx hb dJ5_append_c97b9_10 ?_
  refine lv_istore_n (lv' := [(3, .int (iI ((M 0 0) + 1))), (2, .int (iI (M 0 0))), (0, .ref h), (1, .int (iI v))]) hx hb dJ5_append_c97b9_11 rfl hl (by decide) rfl (fun ls hl => ?_)
  refine lv_aload_n hx hb dJ5_append_c97b9_12 rfl (lv_at hl 2 rfl) ?_
  refine lv_iload_n hx hb dJ5_append_c97b9_13 rfl (lv_at hl 0 rfl) ?_
  refine ct_Uv (As := [.int (iI (M 0 0 + 1))]) (rest := []) (VB_fix h a cB cap) (ZB_ok h a cB cap q t n g tO) (ZB_bl (AB h a) q t n g tO) hZ S0 (kB_ensure l D h a cB cap M q t n g tO (M 0 0 + 1) ⟨by omega, by omega⟩ hcap) (va_cwU 1 hts gJ5_append_c97b9_J5_ensureCapacityInternal_d00df_u100J4 rfl rfl rfl rfl (by decide +kernel) ⟨(Nat.le_of_ble_eq_true rfl), (Nat.le_of_ble_eq_true rfl)⟩) hK hP hD hS (va_recv hK hP (ci := 9) (q0 := 0) rfl VB_0) rfl hl.1 rfl (Nat.le_of_ble_eq_true rfl) dJ5_append_c97b9_14 ⟨Nat.zero_le _, Nat.zero_le _⟩ (fun H locs hP hD hS => ?_)
  refine lv_aload_n hx hb dJ5_append_c97b9_17 rfl (lv_at hl 2 rfl) ?_
  refine ct_Ui (As := []) (rest := []) (VB_fix h a cB cap) (ZB_ok h a cB cap q t n g tO) (ZB_bl (AB h a) q t n g tO) hZ S0 (kB_isLatin1 l D h a cB cap M q t n g tO) (va_cwU 0 hts gJ5_append_c97b9_J5_isLatin1_aae02_u83J4 rfl rfl rfl rfl (by decide +kernel) ⟨(Nat.le_of_ble_eq_true rfl), (Nat.le_of_ble_eq_true rfl)⟩) hK hP hD hS (va_recv hK hP (ci := 9) (q0 := 0) rfl VB_0) rfl hl.1 rfl (Nat.le_of_ble_eq_true rfl) dJ5_append_c97b9_18 ⟨Nat.zero_le _, Nat.zero_le _⟩ (fun H locs hP hD hS => ?_)
  refine z_if_eq hx hb dJ5_append_c97b9_21 (tgt := 37) rfl (by decide) (fun hbr => absurd hbr (by decide)) (fun hbr => ?_)
  refine lv_iload_n hx hb dJ5_append_c97b9_24 rfl (lv_at hl 3 rfl) ?_
  refine lv_iload_n hx hb dJ5_append_c97b9_25 rfl (lv_at hl 0 rfl) ?_
  refine lv_aload_n hx hb dJ5_append_c97b9_26 rfl (lv_at hl 2 rfl) ?_
  refine va_get (own := RJ5) (ref := "java/lang/AbstractStringBuilder") (C := RJ4) (T := TJ4) (N := 4) hx hb hts hin4 hown hK hP 0 VB_0 rfl 0 (Nat.le_of_ble_eq_true rfl) (hts (.fieldLink RJ5 15 "java/lang/AbstractStringBuilder" "value" "[B") (by decide +kernel)) (fun _ h => h) (v := .ref a) rfl dJ5_append_c97b9_27 ?_
  refine ct_Si (As := [.int (iI v), .int (iI (M 0 0 + 1)), .ref a]) (rest := []) (VB_fix h a cB cap) (ZB_ok h a cB cap q t n g tO) (ZB_bl (AB h a) q t n g tO) hZ S0 (kB_getChars l D h a cB cap M q t n g tO v (M 0 0 + 1) hv ⟨by omega, by omega⟩ hcap) (va_cwS 3 hts gJ5_append_c97b9_J6_getChars_ba4f3 rfl rfl rfl (by decide +kernel) ⟨(Nat.le_of_ble_eq_true rfl), (Nat.le_of_ble_eq_true rfl)⟩) hK hP hD hS rfl hl.1 rfl (Nat.le_of_ble_eq_true rfl) dJ5_append_c97b9_30 ⟨Nat.zero_le _, Nat.zero_le _⟩ (fun H locs hP hD hS => ?_)
  rw [show (M 0 0 + 1 - 1 : Int) = M 0 0 by omega] at hP hD
  refine lv_pop hx hb dJ5_append_c97b9_33 rfl ?_
  refine lv_goto (tgt := 48) hx hb dJ5_append_c97b9_34 (by decide) ?_
  refine lv_aload_n hx hb dJ5_append_c97b9_48 rfl (lv_at hl 2 rfl) ?_
  refine lv_iload_n hx hb dJ5_append_c97b9_49 rfl (lv_at hl 0 rfl) ?_
  have hP : va_P D vwCl (VB h a cB cap (mst M 1 (M 0 0) (48 + v))) H := hP
  refine va_put (own := RJ5) (ref := "java/lang/AbstractStringBuilder") (C := RJ4) (T := TJ4) (N := 4) hx hb hts hin4 tyJ4 tyJ4_ok nmJ4 hown hK hP hD hS 0 VB_0 rfl 3 (Nat.le_of_ble_eq_true rfl) (hts (.fieldLink RJ5 79 "java/lang/AbstractStringBuilder" "count" "I") (by decide +kernel)) (fun _ h => h) rfl (ty := .int) (v := .int (iI (M 0 0 + 1))) (by decide +kernel) rfl rfl (Nat.le_of_ble_eq_true rfl) dJ5_append_c97b9_50 (fun H locs hP hD hS => ?_)
  have hP : va_P D vwCl (VB h a cB cap (fB_int M v)) H := hP
  refine lv_aload_n hx hb dJ5_append_c97b9_53 rfl (lv_at hl 2 rfl) ?_
  exact ccr_r hx hb hr hlocks hS hP dJ5_append_c97b9_54
set_option maxRecDepth 100000 in
set_option maxHeartbeats 4000000 in
theorem kB_append (l : Launch) (D : va_G) (h a : Nat) (cB : ClassId) (cap : Nat) (M : Mem) (q t n : Nat) (g : Int → Int) (tO : Nat) (hk : 0 ≤ M 0 0 ∧ M 0 0 + n ≤ cap) (hcap : cap ≤ 65536) (hg : ∀ i : Int, 0 ≤ i → i < n → 0 ≤ g i ∧ g i < 128) : Cr l yJ4_append_15ec4 wsJ4_append_15ec4 5 180 [.ref h, .ref q] D (TYB cB) (VB h a cB cap) (ZB (AB h a) q t n g tO) M (.ref h) (fB_app M n g) := by
  refine Cr.of (cc := cJ4_append_15ec4) (maxL := 2) (ret := (some (.object "java/lang/StringBuilder"))) (by decide +kernel) rfl (Nat.le_of_ble_eq_true rfl) ?_
  intro p e s m args below meth c ls hx hb hml hr hown hts hlocks hP hK hD hZ hS hl
  have hl : lv_has ls 2 [(0, .ref h), (1, .ref q)] := hl
  have S0 : CallFix p m c cJ4_append_15ec4 2 s args wsJ4_append_15ec4 RJ4 := ⟨hx, hb, hml, hown, hts⟩
  refine lv_aload_n hx hb dJ4_append_15ec4_0 rfl (lv_at hl 0 rfl) ?_
  refine lv_aload_n hx hb dJ4_append_15ec4_1 rfl (lv_at hl 1 rfl) ?_
  refine ct_SUr (As := [.ref q]) (rest := []) (VB_fix h a cB cap) (ZB_ok h a cB cap q t n g tO) (ZB_bl (AB h a) q t n g tO) hZ S0 (kB_append5 l D h a cB cap M q t n g tO hk hcap hg) (va_cwSU 1 hts gJ4_append_15ec4_J5_append_cf1ce_s29 rfl rfl rfl (by decide +kernel) ⟨(Nat.le_of_ble_eq_true rfl), (Nat.le_of_ble_eq_true rfl)⟩) hK hP hD hS (va_recv hK hP (ci := 9) (q0 := 0) rfl VB_0) rfl hl.1 rfl (Nat.le_of_ble_eq_true rfl) dJ4_append_15ec4_2 ⟨Nat.zero_le _, Nat.zero_le _⟩ (fun H locs hP hD hS => ?_)
  refine lv_pop hx hb dJ4_append_15ec4_5 rfl ?_
  refine lv_aload_n hx hb dJ4_append_15ec4_6 rfl (lv_at hl 0 rfl) ?_
  exact ccr_r hx hb hr hlocks hS hP dJ4_append_15ec4_7
set_option maxRecDepth 100000 in
set_option maxHeartbeats 4000000 in
theorem kB_appendI (l : Launch) (D : va_G) (h a : Nat) (cB : ClassId) (cap : Nat) (M : Mem) (q t n : Nat) (g : Int → Int) (tO : Nat) (v : Int) (hv : 0 ≤ v ∧ v ≤ 9) (hk : 0 ≤ M 0 0 ∧ M 0 0 + 1 ≤ cap) (hcap : cap ≤ 65536) : Cr l yJ4_append_bf812 wsJ4_append_bf812 5 180 [.ref h, .int (iI v)] D (TYB cB) (VB h a cB cap) (ZB (AB h a) q t n g tO) M (.ref h) (fB_int M v) := by
  refine Cr.of (cc := cJ4_append_bf812) (maxL := 2) (ret := (some (.object "java/lang/StringBuilder"))) (by decide +kernel) rfl (Nat.le_of_ble_eq_true rfl) ?_
  intro p e s m args below meth c ls hx hb hml hr hown hts hlocks hP hK hD hZ hS hl
  have hl : lv_has ls 2 [(0, .ref h), (1, .int (iI v))] := hl
  have S0 : CallFix p m c cJ4_append_bf812 2 s args wsJ4_append_bf812 RJ4 := ⟨hx, hb, hml, hown, hts⟩
  refine lv_aload_n hx hb dJ4_append_bf812_0 rfl (lv_at hl 0 rfl) ?_
  refine lv_iload_n hx hb dJ4_append_bf812_1 rfl (lv_at hl 1 rfl) ?_
  refine ct_SUr (As := [.int (iI v)]) (rest := []) (VB_fix h a cB cap) (ZB_ok h a cB cap q t n g tO) (ZB_bl (AB h a) q t n g tO) hZ S0 (kB_appendI5 l D h a cB cap M q t n g tO v hv hk hcap) (va_cwSU 1 hts gJ4_append_bf812_J5_append_c97b9_s53 rfl rfl rfl (by decide +kernel) ⟨(Nat.le_of_ble_eq_true rfl), (Nat.le_of_ble_eq_true rfl)⟩) hK hP hD hS (va_recv hK hP (ci := 9) (q0 := 0) rfl VB_0) rfl hl.1 rfl (Nat.le_of_ble_eq_true rfl) dJ4_append_bf812_2 ⟨Nat.zero_le _, Nat.zero_le _⟩ (fun H locs hP hD hS => ?_)
  refine lv_pop hx hb dJ4_append_bf812_5 rfl ?_
  refine lv_aload_n hx hb dJ4_append_bf812_6 rfl (lv_at hl 0 rfl) ?_
  exact ccr_r hx hb hr hlocks hS hP dJ4_append_bf812_7
