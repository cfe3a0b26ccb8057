/-! STRINGBUILDER, going on: a row that grows, new builders, toString (written by mk10b.py). -/
/-- contracts of methods that make cells: u, v new addresses, τ letters -/
def cgP (As : List Value) (D : va_G) (tys : List (ClassId × FieldType)) (W0 : va_W) (Z : State → Prop) (sz : Nat) : Array Value → State → Prop := va_Pc As (fun U => U.heap.size = sz ∧ va_P D vwCl W0 U.heap ∧ va_K D vwCl tys U ∧ va_D (fun _ => True) W0 ∧ Z U)
def cgQ (D : va_G) (A : Nat → Prop) (P : Nat → Nat → (Int → Int) → Prop) (ov : Nat → Nat → Option Value) (W1 : Nat → Nat → (Int → Int) → va_W) : Array Value → State → Outcome → State → Prop := fun _ st oc t => (∃ (u v : Nat) (τ : Int → Int), oc = .returned (ov u v) ∧ P u v τ ∧ va_P D vwCl (W1 u v τ) t.heap ∧ va_D A (W1 u v τ)) ∧ va_F A st t
def Cg (l : Launch) (y : MethodName) (ws : List Cond) (rm : Room) (As : List Value) (D : va_G) (tys : List (ClassId × FieldType)) (W0 : va_W) (Z : State → Prop) (P : Nat → Nat → (Int → Int) → Prop) (ov : Nat → Nat → Option Value) (W1 : Nat → Nat → (Int → Int) → va_W) (mc ms sz : Nat) : Prop :=
  Met l y ws rm (cgP As D tys W0 Z sz) (cgQ D (va_A W0 sz) P ov W1) mc ms (va_A W0 sz)
section
variable {p : Program} {l : Launch} {e : Env} {R : Room} {s : State} {m : MethodId} {args : Array Value} {below : List Frame} {meth : Method} {c : Code} {H : Heap} {locs : List Loc} {cells slots : Nat} {Q : State → Prop}
variable {cc : ByteArray} {pc : Nat} {ls : Array Slot} {rest : List Value}
variable {D : va_G} {tys : List (ClassId × FieldType)} {A : Nat → Prop} {H0 : Heap} {P : Nat → Nat → (Int → Int) → Prop} {ov : Nat → Nat → Option Value} {W1 : Nat → Nat → (Int → Int) → va_W}
theorem Cg.of {y : MethodName} {ws ws' : List Cond} {rm : Room} {As : List Value} {W0 : va_W} {Z : State → Prop} {mc ms sz : Nat} {cc : ByteArray} {maxL : Nat} {ret : Option FieldType} (hy : plainName y.cls = true) (hw : ws = Cond.code y cc maxL ret :: ws') (hn : (lg_sl As).length ≤ maxL)
    (body : ∀ (A : Nat → Prop) (p : Program) (e : Env) (s : State) (m : MethodId) (args : Array Value) (below : List Frame) (meth : Method) (c : Code) (ls : Array Slot), p.tables.exec = Jvm.exec → c.code = cc → c.maxLocals = maxL → meth.sig.returnType = ret → s.vm.findClass y.cls = some m.cls → (∀ w ∈ ws, w.before args s = true) → meth.locks = false → meth.name = y.name → va_P D vwCl W0 s.heap → va_K D vwCl tys s → va_D A W0 → Z s → va_S A s.heap s.heap [] → (∀ q : Nat, s.heap.size ≤ q → A q) → A = va_A W0 s.heap.size → lv_has ls maxL (lv_args 0 As) →
      W p l e rm s m args below meth c s.heap [] 0 0 (MQ below (cgQ D A P ov W1) args s mc ms A) (F0 m 0 ls [])) : Cg l y ws rm As D tys W0 Z P ov W1 mc ms sz := by
  refine Met.ofW (cc := cc) (maxL := maxL) (ret := ret) hy hw ?_
  intro p e s m args below meth c s₁ B hml hv
  obtain ⟨rfl, hsz, hP, hK, hD0, hZ⟩ := hv
  subst hsz
  have hl := lv_entry As (n := maxL) hn
  rw [lg_entry_eq]
  generalize (lg_sl As ++ List.replicate (maxL - (lg_sl As).length) Slot.unset).toArray = ls at hl ⊢
  exact body (va_A W0 s.heap.size) p e s m As.toArray below meth c ls B.exec B.bytes hml B.returns (findClass_of_methodNamed B.named) (atoms_spec (ws := ws) B.pre) B.notSynchronized (name_of_methodNamed B.named B.method).1 hP hK (hD0.self (sz := s.heap.size)) hZ va_S.rf (fun q h => Or.inr h) rfl hl
theorem cg_blind {As : List Value} {W0 : va_W} {Z : State → Prop} {sz : Nat} (hZb : ZBl Z) : FrameBlind (cgP As D tys W0 Z sz) := fun a U g mk h => by
  obtain ⟨q0, q1, qP, qK, qD, qZ⟩ := h
  exact ⟨q0, q1, qP, va_K.moved (u := U) (U := U.calling g mk a) (Vm.Alike.refl U.vm) qK, qD, hZb a U g mk qZ⟩
theorem cg_pre {As : List Value} {ws0 wc : va_W} {Z : State → Prop} (hZb : ZBl Z) (hZ : ∀ U : State, U.heap = H → s.WarmedH U.vm → Z U) (hK : va_K D vwCl tys s) (hP : va_P D vwCl ws0 H) (hD : va_D A ws0) (isC : List Nat) (hn : va_nd isC = true) (hC : isC.map (fun i => ws0[i]?) = wc.map some) : PreS s H (cgP As D tys wc Z H.size) As :=
  ⟨cg_blind hZb, fun U hU hW => ⟨rfl, by rw [hU], by rw [hU]; exact hP.sub isC (wj_f hC), va_K.moved hW.alike hK, wj_sub hD isC hn hC, hZ U hU hW⟩⟩
theorem cg_preV {As : List Value} {ws0 wc : va_W} {Z : State → Prop} {C : String} {b : Nat} (hrc : ∃ cell : Cell, H[b]? = some cell ∧ cell.vm.isStatics = false ∧ s.vm.findClass C = some cell.cls) (hZb : ZBl Z) (hZ : ∀ U : State, U.heap = H → s.WarmedH U.vm → Z U) (hK : va_K D vwCl tys s) (hP : va_P D vwCl ws0 H) (hD : va_D A ws0) (isC : List Nat) (hn : va_nd isC = true) (hC : isC.map (fun i => ws0[i]?) = wc.map some) : PreV s H C b (cgP (.ref b :: As) D tys wc Z H.size) As :=
  ⟨cg_blind hZb, hrc, fun U hU hW => ⟨rfl, by rw [hU], by rw [hU]; exact hP.sub isC (wj_f hC), va_K.moved hW.alike hK, wj_sub hD isC hn hC, hZ U hU hW⟩⟩
theorem cg_call {ws0 wc wr : va_W} {mc ms : Nat} {st0 : List Value} {a : Array Value} (isC isR : List Nat) (hnC : va_nd isC = true) (hC : isC.map (fun i => ws0[i]?) = wc.map some) (hR : isR.map (fun i => ws0[i]?) = wr.map some) (hn : va_nd isR = true) (hdis : ∀ i ∈ isR, i ∉ isC) (hP : va_P D vwCl ws0 H) (hD : va_D A ws0) (hS : va_S A s.heap H locs) (hA : ∀ q : Nat, s.heap.size ≤ q → A q)
    (hr : va_Run p l e R s m args below meth c H locs cells slots mc ms (F0 m pc ls st0) rest (cgQ D (va_A wc H.size) P ov W1 a) (va_A wc H.size))
    (kk : ∀ (u v : Nat) (τ : Int → Int) (H1 : Heap) (locs1 : List Loc), P u v τ → va_P D vwCl (wr ++ W1 u v τ) H1 → va_D A (wr ++ W1 u v τ) → va_S A s.heap H1 locs1 → W p l e R s m args below meth c H1 locs1 (cells + mc) (slots + ms) Q (F0 m (pc + 3) ls ((ov u v).toList ++ rest))) : W p l e R s m args below meth c H locs cells slots Q (F0 m pc ls st0) := by
  have hFc := va_free (wc := wc) hD hS hA isC hC
  intro T9 hT X
  obtain ⟨v9, st₀, t, T', L9, h0, X', hL, e1, e2, ⟨⟨u, v, τ, hv, hp, hB, hD1⟩, hz, hk⟩, st⟩ := hr T9 hT X
  cases hv
  rw [h0] at hz hk
  rw [← e1] at hB hz
  have hk' : ∀ q : Nat, q < H.size → ¬ va_A wc H.size q → T'.heap[q]? = H[q]? := fun q h1 h2 => by rw [e1]; exact hk q h1 h2
  obtain ⟨hP2, hD2⟩ := va_join (wr := wr) (w1 := W1 u v τ) hP hD isC isR hC hR hn hdis hk' hFc hB hD1
  obtain ⟨t2, a1, b1⟩ := kk u v τ T'.heap (locs ++ L9) hp hP2 hD2
    ⟨Nat.le_trans hS.1 hz, fun q h1 h2 => by rw [hk' q (Nat.lt_of_lt_of_le h1 hS.1) (fun z => h2 (hFc q z))]; exact hS.2.1 q h1 h2, fun q hq => by
      rcases List.mem_append.mp hq with h | h
      · exact hS.2.2 q h
      · exact hFc _ (hL q h)⟩ T' rfl X'
  exact ⟨t2, st t2 a1, b1⟩
theorem cg_ref (hx : p.tables.exec = Jvm.exec) (hb : c.code = cc) {rt : FieldType} (hr : meth.sig.returnType = some rt) (hrt : (∃ n, rt = .object n) ∨ ∃ t, rt = .array t) (hlocks : meth.locks = false) {mc ms : Nat} (u v : Nat) (τ : Int → Int) {x : Nat} (hov : ov u v = some (.ref x)) (hp : P u v τ) (hP : va_P D vwCl (W1 u v τ) H) (hD : va_D A (W1 u v τ)) (hS : va_S A s.heap H locs) (hc : cells ≤ mc) (hs : slots ≤ ms) (hdg : decode cc pc = .ok (.areturn, 1)) : W p l e R s m args below meth c H locs cells slots (MQ below (cgQ D A P ov W1) args s mc ms A) (F0 m pc ls [.ref x]) :=
  W.widen hc hs (W.aret hx hb hr hrt (Or.inr ⟨_, rfl⟩) (fun t ht hW => ⟨⟨u, v, τ, by rw [hov], hp, by rw [ht]; exact hP, hD⟩, hS.F ht⟩) hS.2.2 hdg hlocks)
theorem cg_void (hx : p.tables.exec = Jvm.exec) (hb : c.code = cc) (hr : meth.sig.returnType = none) (hlocks : meth.locks = false) {mc ms : Nat} (u v : Nat) (τ : Int → Int) (hov : ov u v = none) (hp : P u v τ) (hP : va_P D vwCl (W1 u v τ) H) (hD : va_D A (W1 u v τ)) (hS : va_S A s.heap H locs) (hc : cells ≤ mc) (hs : slots ≤ ms) (hdg : decode cc pc = .ok (.return_, 1)) : W p l e R s m args below meth c H locs cells slots (MQ below (cgQ D A P ov W1) args s mc ms A) (F0 m pc ls []) :=
  W.widen hc hs (W.vret hx hb hr (fun t ht hW => ⟨⟨u, v, τ, by rw [hov], hp, by rw [ht]; exact hP, hD⟩, hS.F ht⟩) hS.2.2 hdg hlocks)
end
theorem nb_0 (n : Nat) : ∀ cA : ClassId, vp_cell cA (n, .inl z0) = arrV cA n (fun _ => defaultValue .byte) := fun cA => by
  rw [vp_cell_i]
  show arrV cA n (fun _ => Value.int (iI 0)) = arrV cA n (fun _ => Value.int 0)
  rw [iI_0]
theorem z0_e : z0 = aI (fun _ => 0) := rfl
theorem ZB.mono {A B : Nat → Prop} {q t n tO : Nat} {g : Int → Int} {s U : State} {H : Heap} {locs : List Loc} (hAB : ∀ x, x < s.heap.size → B x → A x) (h : ZB A q t n g tO s) (hS : va_S A s.heap H locs) (hU : U.heap = H) (hW : s.WarmedH U.vm) (hB : ∀ x, B x → A x) : ZB B q t n g tO U :=
  (h.keep hW (fun x h1 h2 => by rw [hU]; exact hS.2.1 x h1 h2)).narrow hB
theorem ZK_bl (h : Nat) : ZBl (fun U => va_Z RJ0 "COMPACT_STRINGS" "Z" (.int (iI 1)) (fun x => x = h) U U.heap) := fun a U g mk z => va_Z.moved (u := U) (U := U.calling g mk a) (Vm.Alike.refl U.vm) z
set_option maxRecDepth 100000 in
set_option maxHeartbeats 4000000 in
theorem kB_init5 (l : Launch) (D : va_G) (h : Nat) (cB : ClassId) (sz : Nat) : Cg l yJ5_init_d00df wsJ5_init_d00df { frames := 1, cells := 1, slots := 16, locals := 12 } [.ref h, .int (iI 16)] D (TYB cB) [(h, .inr (9, [.null, .int (iI 0), .int (iI 0), .int (iI 0)]))] (fun U => va_Z RJ0 "COMPACT_STRINGS" "Z" (.int (iI 1)) (fun x => x = h) U U.heap) (fun _ _ _ => True) (fun _ _ => none) (fun a _ _ => VB h a cB 16 (fun _ _ => 0)) 1 16 sz := by
  refine Cg.of (cc := cJ5_init_d00df) (maxL := 2) (ret := none) (by decide +kernel) rfl (Nat.le_of_ble_eq_true rfl) ?_
  intro A p e s m args below meth c ls hx hb hml hr hown hts hlocks hin hP hK hD hZ hS hA hAe hl
  have hl : lv_has ls 2 [(0, .ref h), (1, .int (iI 16))] := hl
  have S0 : CallFix p m c cJ5_init_d00df 2 s args wsJ5_init_d00df RJ5 := ⟨hx, hb, hml, hown, hts⟩
  have hin4 : ∀ w ∈ u_ws RJ4 TJ4 4, w ∈ wsJ5_init_d00df := by decide +kernel
  have hZ1 : va_Z RJ0 "COMPACT_STRINGS" "Z" (.int (iI 1)) (fun x => x = h) s s.heap := hZ
  refine lv_aload_n hx hb dJ5_init_d00df_0 rfl (lv_at hl 0 rfl) ?_
  refine W.objInit hx hb hown (hts (.methodLink RJ5 3 objectInit) (by decide +kernel)) (hts (.instanceMethod objectInit) (by decide +kernel)) (hts (.code objectInit ⟨#[0xb1]⟩ 1 none) (by decide +kernel)) rfl (by rw [hml]; exact hl.1) rfl dJ5_init_d00df_1 (Nat.le_of_ble_eq_true rfl) (Nat.le_of_ble_eq_true rfl) ?_
  refine W.eq (g2 := F0 m 4 ls []) rfl ?_
  refine va_gets (A := fun x => x = h) hx hb hZ1 va_S.rf hown (hts (.fieldLink RJ5 18 "java/lang/String" "COMPACT_STRINGS" "Z") (by decide +kernel)) (fun _ h => h) dJ5_init_d00df_4 ?_
  refine z_if_eq hx hb dJ5_init_d00df_7 (tgt := 25) rfl (by decide) (fun hbr => absurd hbr (by decide)) (fun hbr => ?_)
  refine lv_aload_n hx hb dJ5_init_d00df_10 rfl (lv_at hl 0 rfl) ?_
  refine lv_iload_n hx hb dJ5_init_d00df_11 rfl (lv_at hl 1 rfl) ?_
  refine z_newa (atype := .byte) (ty := .byte) (N' := 16) (a0 := (16, .inl z0)) hx hb (fun _ h => h) rfl (hts (.arrayClass .byte) (by decide +kernel)) hK 0 rfl hP hD hS hA (nb_0 16) (by decide) (by decide +kernel) (by decide) (by decide) (by decide) dJ5_init_d00df_12 (fun a H hP hD hS => ?_)
  refine va_put (own := RJ5) (ref := "java/lang/AbstractStringBuilder") (C := RJ4) (T := TJ4) (N := 4) hx hb hts hin4 tyJ4 tyJ4_ok nmJ4 hown hK hP hD hS 0 rfl rfl 0 (Nat.le_of_ble_eq_true rfl) (hts (.fieldLink RJ5 15 "java/lang/AbstractStringBuilder" "value" "[B") (by decide +kernel)) (fun _ h => h) rfl (ty := .array .byte) (v := .ref a) (by decide +kernel) rfl rfl (Nat.le_of_ble_eq_true rfl) dJ5_init_d00df_14 (fun H locs hP hD hS => ?_)
  have hP : va_P D vwCl (VB h a cB 16 (fun _ _ => 0)) H := hP
  have hD : va_D A (VB h a cB 16 (fun _ _ => 0)) := hD
  refine lv_aload_n hx hb dJ5_init_d00df_17 rfl (lv_at hl 0 rfl) ?_
  refine z_iconst hx hb dJ5_init_d00df_18 ?_
  refine va_put (own := RJ5) (ref := "java/lang/AbstractStringBuilder") (C := RJ4) (T := TJ4) (N := 4) hx hb hts hin4 tyJ4 tyJ4_ok nmJ4 hown hK hP hD hS 0 VB_0 rfl 1 (Nat.le_of_ble_eq_true rfl) (hts (.fieldLink RJ5 22 "java/lang/AbstractStringBuilder" "coder" "B") (by decide +kernel)) (fun _ h => h) rfl (ty := .byte) (v := .int (iI 0)) (by decide +kernel) rfl rfl (Nat.le_of_ble_eq_true rfl) dJ5_init_d00df_19 (fun H locs hP hD hS => ?_)
  have hP : va_P D vwCl (VB h a cB 16 (fun _ _ => 0)) H := hP
  have hD : va_D A (VB h a cB 16 (fun _ _ => 0)) := hD
  refine lv_goto hx hb dJ5_init_d00df_22 (tgt := 38) rfl ?_
  exact cg_void hx hb hr hlocks a 0 (fun _ => 0) rfl trivial hP hD hS (by decide) (by decide) dJ5_init_d00df_38
set_option maxRecDepth 100000 in
set_option maxHeartbeats 4000000 in
theorem kB_init (l : Launch) (D : va_G) (h : Nat) (cB : ClassId) (sz : Nat) : Cg l yJ4_init_da8c8 wsJ4_init_da8c8 { frames := 2, cells := 1, slots := 16, locals := 40 } [.ref h] D (TYB cB) [(h, .inr (9, [.null, .int (iI 0), .int (iI 0), .int (iI 0)]))] (fun U => va_Z RJ0 "COMPACT_STRINGS" "Z" (.int (iI 1)) (fun x => x = h) U U.heap) (fun _ _ _ => True) (fun _ _ => none) (fun a _ _ => VB h a cB 16 (fun _ _ => 0)) 1 16 sz := by
  refine Cg.of (cc := cJ4_init_da8c8) (maxL := 1) (ret := none) (by decide +kernel) rfl (Nat.le_of_ble_eq_true rfl) ?_
  intro A p e s m args below meth c ls hx hb hml hr hown hts hlocks hin hP hK hD hZ hS hA hAe hl
  have hl : lv_has ls 1 [(0, .ref h)] := hl
  have S0 : CallFix p m c cJ4_init_da8c8 1 s args wsJ4_init_da8c8 RJ4 := ⟨hx, hb, hml, hown, hts⟩
  refine lv_aload_n hx hb dJ4_init_da8c8_0 rfl (lv_at hl 0 rfl) ?_
  refine z_bipush hx hb dJ4_init_da8c8_1 (by decide +kernel) ?_
  have hZU : ∀ U : State, U.heap = s.heap → s.WarmedH U.vm → va_Z RJ0 "COMPACT_STRINGS" "Z" (.int (iI 1)) (fun x => x = h) U U.heap := fun U hU hW => by rw [hU]; exact va_Z.moved hW.alike hZ
  refine cg_call (wc := [(h, .inr (9, [.null, .int (iI 0), .int (iI 0), .int (iI 0)]))]) (wr := []) [0] [] rfl rfl rfl rfl (by decide) hP hD hS hA (va_runI (As := [.int (iI 16)]) (rest := []) S0 (kB_init5 l D h cB s.heap.size) (cwI 1 hts gJ4_init_da8c8_J5_init_d00df rfl rfl rfl (hts (.initialized RJ5) (by decide +kernel)) (hts (.methodLink RJ4 1 yJ5_init_d00df) (by decide +kernel)) (hts (.instanceMethod yJ5_init_d00df) (by decide +kernel)) rfl (by decide +kernel) ⟨(Nat.le_of_ble_eq_true rfl), (Nat.le_of_ble_eq_true rfl)⟩) (cg_pre (ZK_bl h) hZU hK hP hD [0] rfl rfl) rfl rfl hl.1 rfl (lv_room (Nat.le_of_ble_eq_true rfl)) dJ4_init_da8c8_3 ⟨by decide, by decide⟩) (fun a v τ H locs _ hP hD hS => ?_)
  exact cg_void hx hb hr hlocks a 0 (fun _ => 0) rfl trivial hP hD hS (by decide) (by decide) dJ4_init_da8c8_6
theorem ZK2_bl : ZBl (fun U => va_Nw (.castable "[B" "java/lang/Cloneable") U) := fun a U g mk h => va_Nw.warmC (s := U) (U := U.calling g mk a) (State.WarmedH.refl U) h
section
variable {p : Program} {l : Launch} {e : Env} {R : Room} {s : State} {m : MethodId} {args : Array Value} {below : List Frame} {meth : Method} {c : Code} {H : Heap} {locs : List Loc} {cells slots : Nat} {Q : State → Prop}
variable {cc : ByteArray} {pc : Nat} {ls : Array Slot} {rest : List Value} {D : va_G} {cl : List vw_C} {tys : List (ClassId × FieldType)} {A : Nat → Prop} {ws : va_W} {a : Nat} {H0 : Heap}
/-- bytes of one row into another of the world -/
theorem z_copyb (hx : p.tables.exec = Jvm.exec) (hb : c.code = cc) (hml : c.maxLocals = ls.size) {own : String} {index : Nat} (hown : s.vm.findClass own = some m.cls) (hlink : (Cond.methodLink own index arraycopyName).before args s = true) (hnat : (Cond.native arraycopyName).before args s = true) (hstat : (Cond.static arraycopyName).before args s = true) (hini : (Cond.initialized "java/lang/System").before args s = true)
    (hK : va_K D cl tys s) (hP : va_P D cl ws H) (hD : va_D A ws) (hS : va_S A H0 H locs) (q0 q1 t0 : Nat) {a0 : Nat} {c0 : ClassId} {n0 n1 : Nat} {σ τ : Int → Int} {ws' : va_W} (ha0 : ws[q0]? = some (a0, .inl (c0, n0, .inl (aI σ)))) (ha1 : ws[q1]? = some (a, .inl (c0, n1, .inl (aI τ)))) (ht0 : tys[t0]? = some (c0, .byte))
    {sp dp n : Int} (h1 : 0 ≤ sp) (h2 : 0 ≤ dp) (h3 : 0 ≤ n) (h4 : sp + n ≤ n0) (h5 : dp + n ≤ n1) (hn0 : n0 < 2147483648) (hn1 : n1 < 2147483648) (hfit : ∀ i : Int, 0 ≤ i → i < n → 0 ≤ σ (sp + i) ∧ σ (sp + i) < 128)
    (hframes : 1 ≤ R.frames) (hlocals : (rest.map fun v => v.category).sum + 18 ≤ R.locals) (hdg : decode cc pc = .ok (.invokestatic index, 3))
    (hw : ws.set q1 (a, .inl (c0, n1, .inl (aI (cpI σ τ sp dp n)))) = ws')
    (kk : ∀ (H1 : Heap) (locs1 : List Loc), va_P D cl ws' H1 → va_D A ws' → va_S A H0 H1 locs1 → W p l e R s m args below meth c H1 locs1 cells slots Q (F0 m (pc + 3) ls rest)) : W p l e R s m args below meth c H locs cells slots Q (F0 m pc ls (.int (iI n) :: .int (iI dp) :: .ref a :: .int (iI sp) :: .ref a0 :: rest)) := by
  have i1 : I32 sp := ⟨by omega, by omega⟩
  have i2 : I32 dp := ⟨by omega, by omega⟩
  have i3 : I32 n := ⟨by omega, by omega⟩
  have ng : ∀ {z : Int}, 0 ≤ z → I32 z → ¬ iI z < 0 := fun {z} h0 hz q => by have := (iI_lt (b := 0) hz (by decide)).mp q; omega
  refine va_copyi hx hb hml hown hlink hnat hstat hini hK hP hD hS q0 q1 t0 t0 ha0 ha1 ht0 ht0 rfl (ng h1 i1) (ng h2 i2) (ng h3 i3) (by rw [iI_cl i1, iI_cl i3]; omega) (by rw [iI_cl i2, iI_cl i3]; omega) (fun i hi => ?_) hframes hlocals hdg (fun H1 locs1 p1 d1 s1 => ?_)
  · rw [iI_cl i3] at hi
    rw [iI_cl i1]
    have h9 := hfit (i : Int) (by omega) (by omega)
    show fits .byte (.int (iI (σ ((sp.toNat + i : Nat) : Int)))) = true
    rw [show ((sp.toNat + i : Nat) : Int) = sp + i by omega]
    exact fits_be h9.1 h9.2
  · rw [iI_cl i1, iI_cl i2, iI_cl i3, cpI_e h1 h2 h3, hw] at p1 d1
    exact kk H1 locs1 p1 d1 s1
end
section
variable {p : Program} {l : Launch} {e : Env} {R : Room} {s : State} {m : MethodId} {args : Array Value} {below : List Frame} {meth : Method} {c : Code} {H : Heap} {locs : List Loc} {cells slots : Nat} {Q : State → Prop}
variable {cc : ByteArray} {pc : Nat} {ls : Array Slot} {rest : List Value} {D : va_G} {tys : List (ClassId × FieldType)} {A : Nat → Prop}
/-- a static method without cells of its own, beside any world -/
theorem ct_beside {y : MethodName} {bytes : ByteArray} {maxL nL n index fr lo : Nat} {ret : Option FieldType} {ws Ts : List Cond} {own : String} {As stk : List Value} {M : Mem} {W0 : va_W} {H0 : Heap}
    (S0 : CallFix p m c cc nL s args Ts own) (hM : Cv l y ws fr lo As D tys (fun _ => []) (fun _ => True) M M) (cw : CallB R s args own index y bytes maxL ret ws (zRm fr lo) 0 0 n ∧ (Cond.static y).before args s = true) (hK : va_K D vwCl tys s) (hP : va_P D vwCl W0 H) (hD : va_D A W0) (hS : va_S A H0 H locs)
    (hn : As.length = n) (hsize : ls.size = nL) (hst : stk = As.reverse ++ rest) (hcat : (rest.map fun v => v.category).sum ≤ 8) (hdg : decode cc pc = .ok (.invokestatic index, 3)) (hf : cells ≤ R.cells ∧ slots ≤ R.slots)
    (kk : ∀ (H1 : Heap) (locs1 : List Loc), va_P D vwCl W0 H1 → va_D A W0 → va_S A H0 H1 locs1 → W p l e R s m args below meth c H1 locs1 cells slots Q (F0 m (pc + 3) ls rest)) : W p l e R s m args below meth c H locs cells slots Q (F0 m pc ls stk) := by
  subst hst
  refine va_callv (mc := 0) (ms := 0) (rest := rest) (A0 := A) (va_runS (As := As) (rest := rest) S0 hM cw ⟨wr_blind (fun _ _ _ _ _ => trivial), fun U hU hW => ⟨rfl, fun i q h => absurd h (by simp), va_K.moved hW.alike hK, ⟨fun i j p q h => absurd h (by simp), fun i q h => absurd h (by simp)⟩, trivial⟩⟩ rfl hn hsize rfl (lv_room hcat) hdg hf) hS (fun q _ h => absurd h (by simp [wA])) (fun q h => absurd h (by simp [wA])) (fun u t H1 locs1 ht hvm hp hB hz hk hS1 => ?_)
  exact kk H1 locs1 (hP.kept (fun i q hi => hk q.1 (vx_lt hP hi) (by simp [wA]))) hD hS1
end
set_option maxRecDepth 100000 in
set_option maxHeartbeats 4000000 in
theorem kB_checkLength (l : Launch) (D : va_G) (a : Nat) (cB : ClassId) (cap : Nat) (M : Mem) (n : Int) (hn : 0 ≤ n ∧ n < 65537) : Cv l yJ7_checkLength_df160 wsJ7_checkLength_df160 40 1500 [.int (iI 0), .int (iI n)] D (TYB cB) (fun _ => []) (fun _ => True) M M := by
  refine Cv.of (cc := cJ7_checkLength_df160) (maxL := 2) (ret := none) (by decide +kernel) rfl (Nat.le_of_ble_eq_true rfl) ?_
  intro p e s m args below meth c ls hx hb hml hr hown hts hlocks hP hK hD hZ hS hl
  have hl : lv_has ls 2 [(0, .int (iI 0)), (1, .int (iI n))] := hl
  refine lv_iload_n hx hb dJ7_checkLength_df160_0 rfl (lv_at hl 1 rfl) ?_
  refine lv_iload_n hx hb dJ7_checkLength_df160_1 rfl (lv_at hl 0 rfl) ?_
  refine z_icmp_ge hx hb dJ7_checkLength_df160_2 (tgt := 37) rfl ⟨by omega, by omega⟩ (by decide) (fun hbr => ?_) (fun h => absurd (show n ≥ 0 by omega) h)
  exact cv_v hx hb hr hlocks hS hP dJ7_checkLength_df160_37
set_option maxRecDepth 100000 in
set_option maxHeartbeats 4000000 in
theorem kB_copyRB (l : Launch) (D : va_G) (a : Nat) (cB : ClassId) (cap n : Nat) (σ : Int → Int) (sz : Nat) (hn : 0 < n ∧ n ≤ cap) (hcap : cap ≤ 65536) (hg : ∀ i : Int, 0 ≤ i → i < cap → 0 ≤ σ i ∧ σ i < 128) : Cg l yJ7_copyOfRangeByte_39247 wsJ7_copyOfRangeByte_39247 { frames := 60, cells := 1, slots := n, locals := 2000 } [.ref a, .int (iI 0), .int (iI (n : Int))] D (TYB cB) [(a, .inl (cB, cap, .inl (aI σ)))] (fun _ => True) (fun _ _ τ => ∀ j : Int, 0 ≤ j → j < n → τ j = σ j) (fun u _ => some (.ref u)) (fun u _ τ => [(a, .inl (cB, cap, .inl (aI σ))), (u, .inl (cB, n, .inl (aI τ)))]) 1 n sz := by
  refine Cg.of (cc := cJ7_copyOfRangeByte_39247) (maxL := 5) (ret := (some (.array .byte))) (by decide +kernel) rfl (Nat.le_of_ble_eq_true rfl) ?_
  intro A p e s m args below meth c ls hx hb hml hr hown hts hlocks hin hP hK hD hZ hS hA hAe hl
  have hl : lv_has ls 5 [(0, .ref a), (1, .int (iI 0)), (2, .int (iI (n : Int)))] := hl
  have S0 : CallFix p m c cJ7_copyOfRangeByte_39247 5 s args wsJ7_copyOfRangeByte_39247 RJ7 := ⟨hx, hb, hml, hown, hts⟩
  refine lv_iload_n hx hb dJ7_copyOfRangeByte_39247_0 rfl (lv_at hl 1 rfl) ?_
  refine lv_iload_n hx hb dJ7_copyOfRangeByte_39247_1 rfl (lv_at hl 2 rfl) ?_
  refine ct_beside (As := [.int (iI 0), .int (iI (n : Int))]) (rest := []) S0 (kB_checkLength l D a cB cap (fun _ _ => 0) (n : Int) ⟨by omega, by omega⟩) (va_cwS 2 hts gJ7_copyOfRangeByte_39247_J7_checkLength_df160 rfl rfl rfl (by decide +kernel) ⟨(Nat.le_of_ble_eq_true rfl), (Nat.le_of_ble_eq_true rfl)⟩) hK hP hD hS rfl hl.1 rfl (Nat.le_of_ble_eq_true rfl) dJ7_copyOfRangeByte_39247_2 ⟨Nat.zero_le _, Nat.zero_le _⟩ (fun H locs hP hD hS => ?_)
  refine lv_iload_n hx hb dJ7_copyOfRangeByte_39247_5 rfl (lv_at hl 2 rfl) ?_
  refine lv_iload_n hx hb dJ7_copyOfRangeByte_39247_6 rfl (lv_at hl 1 rfl) ?_
  refine z_isub hx hb dJ7_copyOfRangeByte_39247_7 ?_
  rw [show ((n : Int) - 0) = (n : Int) by omega]
  refine lv_istore_n (lv' := [(3, .int (iI (n : Int))), (0, .ref a), (1, .int (iI 0)), (2, .int (iI (n : Int)))]) hx hb dJ7_copyOfRangeByte_39247_8 rfl hl (by decide) rfl (fun ls hl => ?_)
  refine lv_iload_n hx hb dJ7_copyOfRangeByte_39247_9 rfl (lv_at hl 0 rfl) ?_
  refine z_newa (atype := .byte) (ty := .byte) (N' := n) (a0 := (n, .inl z0)) hx hb (fun _ h => h) rfl (hts (.arrayClass .byte) (by decide +kernel)) hK 0 rfl hP hD hS hA (nb_0 n) (fun q => by have := (iI_lt (a := (n : Int)) (b := 0) ⟨by omega, by omega⟩ (by decide)).mp q; omega) (by rw [iI_cl ⟨by omega, by omega⟩]; omega) (by show n * 1 ≤ 536870912; omega) (Nat.le_of_ble_eq_true rfl) (by show 0 + n ≤ n; omega) dJ7_copyOfRangeByte_39247_10 (fun u H hP hD hS => ?_)
  have hP : va_P D vwCl [(a, .inl (cB, cap, .inl (aI σ))), (u, .inl (cB, n, .inl (aI (fun _ => 0))))] H := hP
  have hD : va_D A [(a, .inl (cB, cap, .inl (aI σ))), (u, .inl (cB, n, .inl (aI (fun _ => 0))))] := hD
  refine lv_astore (lv' := [(4, .ref u), (3, .int (iI (n : Int))), (0, .ref a), (1, .int (iI 0)), (2, .int (iI (n : Int)))]) hx hb dJ7_copyOfRangeByte_39247_12 hl (by decide) rfl (fun ls hl => ?_)
  refine lv_aload_n hx hb dJ7_copyOfRangeByte_39247_14 rfl (lv_at hl 2 rfl) ?_
  refine lv_iload_n hx hb dJ7_copyOfRangeByte_39247_15 rfl (lv_at hl 3 rfl) ?_
  refine lv_aload hx hb dJ7_copyOfRangeByte_39247_16 (lv_at hl 0 rfl) ?_
  refine z_iconst hx hb dJ7_copyOfRangeByte_39247_18 ?_
  refine lv_aload_n hx hb dJ7_copyOfRangeByte_39247_19 rfl (lv_at hl 2 rfl) ?_
  refine z_alenN hx hb hK hP 0 0 rfl rfl (v := (cap : Int)) rfl dJ7_copyOfRangeByte_39247_20 ?_
  refine lv_iload_n hx hb dJ7_copyOfRangeByte_39247_21 rfl (lv_at hl 3 rfl) ?_
  refine z_isub hx hb dJ7_copyOfRangeByte_39247_22 ?_
  refine lv_iload_n hx hb dJ7_copyOfRangeByte_39247_23 rfl (lv_at hl 1 rfl) ?_
  refine z_mmin (a := (cap : Int) - 0) (b := (n : Int)) hx hb (hml.trans hl.1.symm) hown (hts (.methodLink RJ7 304 Lib.Math.min.name) (by decide +kernel)) (hts (.static Lib.Math.min.name) (by decide +kernel)) (hts (.initialized "java/lang/Math") (by decide +kernel)) (hts (.code Lib.Math.min.name Lib.Math.min.code 2 (some .int)) (by decide +kernel)) (Nat.le_of_ble_eq_true rfl) (Nat.le_of_ble_eq_true rfl) (by show 0 + 1 ≤ 1; omega) (by show 0 + n ≤ n; omega) ⟨by omega, by omega⟩ ⟨by omega, by omega⟩ dJ7_copyOfRangeByte_39247_24 ?_
  rw [show zmin ((cap : Int) - 0) (n : Int) = (n : Int) by unfold zmin; (repeat' split) <;> omega]
  refine z_copyb hx hb (hml.trans hl.1.symm) hown (hts (.methodLink RJ7 150 arraycopyName) (by decide +kernel)) (hts (.native arraycopyName) (by decide +kernel)) (hts (.static arraycopyName) (by decide +kernel)) (hts (.initialized "java/lang/System") (by decide +kernel)) hK hP hD hS 0 1 0 rfl rfl rfl (by omega) (by omega) (by omega) (by omega) (by omega) (by omega) (by omega) (fun i h1 h2 => by rw [show (0 + i : Int) = i by omega]; exact hg i h1 (by omega)) (Nat.le_of_ble_eq_true rfl) (Nat.le_of_ble_eq_true rfl) dJ7_copyOfRangeByte_39247_27 (ws' := [(a, .inl (cB, cap, .inl (aI σ))), (u, .inl (cB, n, .inl (aI (cpI σ (fun _ => 0) 0 0 n))))]) rfl (fun H locs hP hD hS => ?_)
  refine lv_aload hx hb dJ7_copyOfRangeByte_39247_30 (lv_at hl 0 rfl) ?_
  exact cg_ref hx hb hr (Or.inr ⟨_, rfl⟩) hlocks u 0 (cpI σ (fun _ => 0) 0 0 n) rfl (fun j h0 h1 => by unfold cpI; rw [if_pos (by omega)]; congr 1; omega) hP hD hS (by decide) (by omega) dJ7_copyOfRangeByte_39247_32
set_option maxRecDepth 100000 in
set_option maxHeartbeats 4000000 in
theorem kB_copyR (l : Launch) (D : va_G) (a : Nat) (cB : ClassId) (cap n : Nat) (σ : Int → Int) (sz : Nat) (hn : 0 < n ∧ n ≤ cap) (hcap : cap ≤ 65536) (hg : ∀ i : Int, 0 ≤ i → i < cap → 0 ≤ σ i ∧ σ i < 128) : Cg l yJ7_copyOfRange_39247 wsJ7_copyOfRange_39247 { frames := 62, cells := 1, slots := n, locals := 2100 } [.ref a, .int (iI 0), .int (iI (n : Int))] D (TYB cB) [(a, .inl (cB, cap, .inl (aI σ)))] (fun U => va_Nw (.castable "[B" "java/lang/Cloneable") U) (fun _ _ τ => ∀ j : Int, 0 ≤ j → j < n → τ j = σ j) (fun u _ => some (.ref u)) (fun u _ τ => [(a, .inl (cB, cap, .inl (aI σ))), (u, .inl (cB, n, .inl (aI τ)))]) 1 n sz := by
  refine Cg.of (cc := cJ7_copyOfRange_39247) (maxL := 3) (ret := (some (.array .byte))) (by decide +kernel) rfl (Nat.le_of_ble_eq_true rfl) ?_
  intro A p e s m args below meth c ls hx hb hml hr hown hts hlocks hin hP hK hD hZ hS hA hAe hl
  have hl : lv_has ls 3 [(0, .ref a), (1, .int (iI 0)), (2, .int (iI (n : Int)))] := hl
  have S0 : CallFix p m c cJ7_copyOfRange_39247 3 s args wsJ7_copyOfRange_39247 RJ7 := ⟨hx, hb, hml, hown, hts⟩
  refine lv_iload_n hx hb dJ7_copyOfRange_39247_0 rfl (lv_at hl 1 rfl) ?_
  refine z_if_ne hx hb dJ7_copyOfRange_39247_1 (tgt := 10) rfl (by decide) (fun hbr => absurd rfl hbr) (fun hbr => ?_)
  refine lv_iload_n hx hb dJ7_copyOfRange_39247_4 rfl (lv_at hl 2 rfl) ?_
  refine lv_aload_n hx hb dJ7_copyOfRange_39247_5 rfl (lv_at hl 0 rfl) ?_
  refine z_alenN hx hb hK hP 0 0 rfl rfl (v := (cap : Int)) rfl dJ7_copyOfRange_39247_6 ?_
  refine z_icmp_eq hx hb dJ7_copyOfRange_39247_7 (tgt := 17) rfl ⟨by omega, by omega⟩ ⟨by omega, by omega⟩ (fun hbr => ?_) (fun hbr => ?_)
  · have hnc : n = cap := by omega
    subst hnc
    refine lv_aload_n hx hb dJ7_copyOfRange_39247_17 rfl (lv_at hl 0 rfl) ?_
    have hnm : s.vm.findClass "[B" = some cB := (hK.2 0 (cB, .byte) rfl).2
    refine va_clone hx hb (hml.trans hl.1.symm) hown (hts (.methodLink RJ7 310 ⟨"[B", "clone", "()Ljava/lang/Object;"⟩) (by decide +kernel)) (hts (.sameMethod "[B" "java/lang/Object" "clone" "()Ljava/lang/Object;") (by decide +kernel)) (hts (.native ⟨"java/lang/Object", "clone", "()Ljava/lang/Object;"⟩) (by decide +kernel)) (hts (.instanceMethod ⟨"java/lang/Object", "clone", "()Ljava/lang/Object;"⟩) (by decide +kernel)) (hts (.selects "[B" ⟨"[B", "clone", "()Ljava/lang/Object;"⟩ ⟨"java/lang/Object", "clone", "()Ljava/lang/Object;"⟩) (by decide +kernel)) hZ hK hP hD hS hA 0 0 rfl rfl hnm (fun i v hv => ?_) (Nat.le_of_ble_eq_true rfl) (Nat.le_of_ble_eq_true rfl) (Nat.le_of_ble_eq_true rfl) (by show 0 + n ≤ n; omega) dJ7_copyOfRange_39247_18 (fun u H hK2 hP hD hS => ?_)
    · rw [vp_cell_i] at hv
      by_cases hi : i < n
      · rw [arrV_read _ _ hi] at hv
        cases Option.some.inj hv
        have h9 := hg (i : Int) (by omega) (by omega)
        exact fits_be h9.1 h9.2
      · rw [Array.getElem?_eq_none (by rw [arrV_size]; omega)] at hv
        cases hv
    · have hP : va_P D vwCl [(a, .inl (cB, n, .inl (aI σ))), (u, .inl (cB, n, .inl (aI σ)))] H := hP
      have hD : va_D A [(a, .inl (cB, n, .inl (aI σ))), (u, .inl (cB, n, .inl (aI σ)))] := hD
      refine va_castA hx hb hown (hts (.classLink RJ7 311 "[B") (by decide +kernel)) hP 1 rfl hnm dJ7_copyOfRange_39247_21 ?_
      exact cg_ref hx hb hr (Or.inr ⟨_, rfl⟩) hlocks u 0 σ rfl (fun j _ _ => rfl) hP hD hS (by decide) (by omega) dJ7_copyOfRange_39247_24
  · refine lv_aload_n hx hb dJ7_copyOfRange_39247_10 rfl (lv_at hl 0 rfl) ?_
    refine lv_iload_n hx hb dJ7_copyOfRange_39247_11 rfl (lv_at hl 1 rfl) ?_
    refine lv_iload_n hx hb dJ7_copyOfRange_39247_12 rfl (lv_at hl 2 rfl) ?_
    refine cg_call (wc := [(a, .inl (cB, cap, .inl (aI σ)))]) (wr := []) [0] [] rfl rfl rfl rfl (by decide) hP hD hS hA (va_runS (As := [.ref a, .int (iI 0), .int (iI (n : Int))]) (rest := []) S0 (kB_copyRB l D a cB cap n σ s.heap.size hn hcap hg) (va_cwS 3 hts gJ7_copyOfRange_39247_J7_copyOfRangeByte_39247 rfl rfl rfl (by decide +kernel) ⟨(Nat.le_of_ble_eq_true rfl), (Nat.le_of_ble_eq_true rfl)⟩) (cg_pre (fun _ _ _ _ _ => trivial) (fun _ _ _ => trivial) hK hP hD [0] rfl rfl) rfl rfl hl.1 rfl (lv_room (Nat.le_of_ble_eq_true rfl)) dJ7_copyOfRange_39247_13 ⟨(Nat.le_of_ble_eq_true rfl), by show 0 + n ≤ n; omega⟩) (fun u v τ H locs hτ hP hD hS => ?_)
    exact cg_ref hx hb hr (Or.inr ⟨_, rfl⟩) hlocks u 0 τ rfl hτ hP hD hS (by decide) (by omega) dJ7_copyOfRange_39247_16
