/-! NEW OBJECTS: the constructors; what a constructor leaves behind is a world at fresh addresses e. -/
def NsF (s : State) : Prop := va_Nw (.methodLinkNest RX8 9 yX5_init RX8) s ∧ va_Nw (.methodLinkNest RX5 11 yX6_init RX8) s ∧ va_Nw (.methodLinkNest RX5 20 yX4_init RX8) s ∧ va_Nw (.methodLinkNest RX8 30 yX2_init RX8) s ∧ va_Nw (.methodLinkNest RX8 37 yX7_init RX8) s ∧ va_Nw (.methodLinkNest RX8 44 yX3_init RX8) s ∧ va_Nw (.fieldLinkNest RX8 16 "NapkinSyntax$Service" "state" "LNapkinSyntax$State;" RX8) s ∧ va_Nw (.fieldLinkNest RX8 23 "NapkinSyntax$Service" "sentence" "LNapkinSyntax$Sentence;" RX8) s
theorem NsF.warm {s U : State} (hW : s.WarmedH U.vm) (h : NsF s) : NsF U := ⟨va_Nw.warmM hW h.1, va_Nw.warmM hW h.2.1, va_Nw.warmM hW h.2.2.1, va_Nw.warmM hW h.2.2.2.1, va_Nw.warmM hW h.2.2.2.2.1, va_Nw.warmM hW h.2.2.2.2.2.1, va_Nw.warmF hW h.2.2.2.2.2.2.1, va_Nw.warmF hW h.2.2.2.2.2.2.2⟩
abbrev z0 : (Nat → Int32) := fun _ => iI 0
theorem na_i (n : Nat) : ∀ cA : ClassId, vp_cell cA (n, .inl z0) = arrV cA n (fun _ => defaultValue .int) := fun cA => by
  rw [vp_cell_i]
  show arrV cA n (fun _ => Value.int (iI 0)) = arrV cA n (fun _ => Value.int 0)
  rw [iI_0]
theorem na_c (n : Nat) : ∀ cA : ClassId, vp_cell cA (n, .inl z0) = arrV cA n (fun _ => defaultValue .char) := fun cA => by
  rw [vp_cell_i]
  show arrV cA n (fun _ => Value.int (iI 0)) = arrV cA n (fun _ => Value.int 0)
  rw [iI_0]
theorem na_l (n : Nat) : ∀ cA : ClassId, vp_cell cA (n, .inr (.inl (fun _ => (0 : Int64)))) = arrV cA n (fun _ => defaultValue .long) := fun cA => by
  rw [vp_cell_l]
  rfl
theorem na_d (n : Nat) : ∀ cA : ClassId, vp_cell cA (n, .inr (.inr (.inr (.inl (fun _ => (0 : UInt64)))))) = arrV cA n (fun _ => defaultValue .double) := fun cA => by
  rw [vp_cell_d]
  rfl
abbrev niP (h : Nat) (w0 : va_W) (D : va_G) (tys : List (ClassId × FieldType)) (sz : Nat) : Array Value → State → Prop := va_Pc [.ref h] (fun U => U.heap.size = sz ∧ va_P D vwCl w0 U.heap ∧ va_K D vwCl tys U ∧ va_D (fun _ => True) w0 ∧ NsF U)
abbrev niQ (w : (Nat → Nat) → va_W) (D : va_G) (A : Nat → Prop) : Array Value → State → Outcome → State → Prop := va_Qv (S := Nat → Nat) (fun _ => True) (fun e t => va_P D vwCl (w e) t.heap ∧ va_D A (w e)) A
def NI (l : Launch) (y : MethodName) (ws : List Cond) (rm : Room) (h : Nat) (w0 : va_W) (w : (Nat → Nat) → va_W) (D : va_G) (tys : List (ClassId × FieldType)) (mc ms sz : Nat) : Prop := Met l y ws rm (niP h w0 D tys sz) (niQ w D (va_A w0 sz)) mc ms (va_A w0 sz)
section
variable {p : Program} {l : Launch} {e : Env} {R : Room} {s : State} {m : MethodId} {args : Array Value} {below : List Frame} {meth : Method} {c : Code} {H : Heap} {locs : List Loc} {cells slots : Nat} {Q : State → Prop}
variable {cc : ByteArray} {pc : Nat} {ls : Array Slot} {rest : List Value}
variable {D : va_G} {tys : List (ClassId × FieldType)} {A : Nat → Prop} {H0 : Heap}
theorem z_newa (hexec : p.tables.exec = Jvm.exec) (hb : c.code = cc) {atype : ArrayType} {ty : FieldType} {ws : va_W} (hra : ∀ cA : ClassId, va_RA s cA ty → s.vm.findClass ("[" ++ ty.toString) = some cA) (hty : newarray.typeOf atype = ty) (harr : (Cond.arrayClass (newarray.typeOf atype)).before args s = true) (hK : va_K D vwCl tys s) (t0 : Nat) {cA : ClassId} (ht : tys[t0]? = some (cA, ty)) (hP : va_P D vwCl ws H) (hD : va_D A ws) (hS : va_S A H0 H locs) (hA : ∀ q, H0.size ≤ q → A q)
    {n : Int32} {N' : Nat} {a0 : vp_A} (ha : ∀ cA : ClassId, vp_cell cA a0 = arrV cA N' (fun _ => defaultValue ty)) (hn : ¬ n < 0) (hN : n.toNatClampNeg = N') (hbytes : N' * componentBytes ty ≤ 536870912) (hcells : cells + 1 ≤ R.cells) (hslots : slots + N' ≤ R.slots) (hdg : decode cc pc = .ok (.newarray atype, 2))
    (kk : ∀ (q : Nat) (H1 : Heap), va_P D vwCl (ws ++ [(q, .inl (cA, a0))]) H1 → va_D A (ws ++ [(q, .inl (cA, a0))]) → va_S A H0 H1 locs → W p l e R s m args below meth c H1 locs (cells + 1) (slots + N') Q (F0 m (pc + 2) ls (.ref q :: rest))) : W p l e R s m args below meth c H locs cells slots Q (F0 m pc ls (.int n :: rest)) := by
  refine va_newa hexec hb harr hty hK hP hD hS hA ha hn hN hbytes hcells hslots hdg (fun q cA' H1 hK' hP' hD' hS' => ?_)
  have h1 := hra _ (hK'.2 tys.length (cA', ty) (by simp)).2
  have h2 := hra _ (hK.2 t0 _ ht).2
  have h3 : cA' = cA := Option.some.inj (h1.symm.trans h2)
  subst h3
  exact kk q H1 hP' hD' hS'
theorem NI.of {y : MethodName} {ws ws' : List Cond} {rm : Room} {h : Nat} {w0 : va_W} {w : (Nat → Nat) → va_W} {mc ms sz : Nat} {cc : ByteArray} (hy : plainName y.cls = true) (hw : ws = Cond.code y cc 1 none :: ws') (hname : y.name = "<init>")
    (body : ∀ (A : Nat → Prop) (p : Program) (e : Env) (s : State) (m : MethodId) (args : Array Value) (below : List Frame) (meth : Method) (c : Code) (ls : Array Slot), p.tables.exec = Jvm.exec → c.code = cc → c.maxLocals = 1 → meth.sig.returnType = none → s.vm.findClass y.cls = some m.cls → (∀ w ∈ ws, w.before args s = true) → meth.locks = false → meth.name = "<init>" → va_P D vwCl w0 s.heap → va_K D vwCl tys s → va_D A w0 → NsF s → va_S A s.heap s.heap [] → (∀ q : Nat, s.heap.size ≤ q → A q) → lv_has ls 1 [(0, .ref h)] →
      W p l e rm s m args below meth c s.heap [] 0 0 (MQ below (niQ w D A) args s mc ms A) (F0 m 0 ls [])) : NI l y ws rm h w0 w D tys mc ms sz := by
  refine Met.ofW (cc := cc) (maxL := 1) (ret := none) hy hw ?_
  intro p e s m args below meth c s₁ B hml hv
  obtain ⟨rfl, hsz, hP, hK, hD0, hZ⟩ := hv
  subst hsz
  have hl := lv_entry ([.ref h]) (n := 1) (Nat.le_of_ble_eq_true rfl)
  rw [lg_entry_eq]
  generalize (lg_sl ([.ref h]) ++ List.replicate (1 - (lg_sl ([.ref h])).length) Slot.unset).toArray = ls at hl ⊢
  exact body (va_A w0 s.heap.size) p e s m ([Value.ref h]).toArray below meth c ls B.exec B.bytes hml B.returns (findClass_of_methodNamed B.named) (atoms_spec (ws := ws) B.pre) B.notSynchronized ((name_of_methodNamed B.named B.method).1.trans hname) hP hK (hD0.self (sz := s.heap.size)) hZ va_S.rf (fun q h => Or.inr h) hl
theorem ni_pre {ws0 wc : va_W} {q : Nat} (hK : va_K D vwCl tys s) (hP : va_P D vwCl ws0 H) (hD : va_D A ws0) (hZ : NsF s) (isC : List Nat) (hn : va_nd isC = true) (hC : isC.map (fun i => ws0[i]?) = wc.map some) : PreS s H (niP q wc D tys H.size) (.ref q :: []) :=
  ⟨fun a U g mk h => by obtain ⟨q0, q1, qP, qK, qD, qZ⟩ := h; exact ⟨q0, q1, qP, va_K.moved (u := U) (U := U.calling g mk a) (Vm.Alike.refl U.vm) qK, qD, NsF.warm (s := U) (U := U.calling g mk a) (State.WarmedH.refl U) qZ⟩,
   fun U hU hW => ⟨rfl, by rw [hU], by rw [hU]; exact hP.sub isC (wj_f hC), va_K.moved hW.alike hK, wj_sub hD isC hn hC, hZ.warm hW⟩⟩
theorem ni_callR {ws0 wc wr : va_W} {w : (Nat → Nat) → va_W} {mc ms : Nat} {st0 : List Value} {a : Array Value} (isC isR : List Nat) (hnC : va_nd isC = true) (hC : isC.map (fun i => ws0[i]?) = wc.map some) (hR : isR.map (fun i => ws0[i]?) = wr.map some) (hn : va_nd isR = true) (hdis : ∀ i ∈ isR, i ∉ isC) (hP : va_P D vwCl ws0 H) (hD : va_D A ws0) (hS : va_S A s.heap H locs) (hA : ∀ q : Nat, s.heap.size ≤ q → A q)
    (hr : va_Run p l e R s m args below meth c H locs cells slots mc ms (F0 m pc ls st0) rest (niQ w D (va_A wc H.size) a) (va_A wc H.size))
    (kk : ∀ (u : Nat → Nat) (H1 : Heap) (locs1 : List Loc), va_P D vwCl (wr ++ w u) H1 → va_D A (wr ++ w u) → va_S A s.heap H1 locs1 → W p l e R s m args below meth c H1 locs1 (cells + mc) (slots + ms) Q (F0 m (pc + 3) ls rest)) : W p l e R s m args below meth c H locs cells slots Q (F0 m pc ls st0) := by
  have hFc := va_free (wc := wc) hD hS hA isC hC
  refine va_callv hr hS (fun q _ h => hFc q h) hFc (fun u t H1 locs1 ht hvm hp hB hz1 hk1 hS1 => ?_)
  obtain ⟨hP1, hD1⟩ := hB
  rw [ht] at hP1
  obtain ⟨hP2, hD2⟩ := va_join (wr := wr) (w1 := w u) hP hD isC isR hC hR hn hdis hk1 hFc hP1 hD1
  exact kk u H1 locs1 hP2 hD2 hS1
theorem ni_end (hx : p.tables.exec = Jvm.exec) (hb : c.code = cc) (hr : meth.sig.returnType = none) (hlocks : meth.locks = false) {w : (Nat → Nat) → va_W} {mc ms : Nat} (u : Nat → Nat) (hP : va_P D vwCl (w u) H) (hD : va_D A (w u)) (hS : va_S A s.heap H locs) (hc : cells ≤ mc) (hs : slots ≤ ms) (hdg : decode cc pc = .ok (.return_, 1)) : W p l e R s m args below meth c H locs cells slots (MQ below (niQ w D A) args s mc ms A) (F0 m pc ls []) :=
  W.widen hc hs (W.vret hx hb hr (fun t ht hW => ⟨⟨u, rfl, trivial, by rw [ht]; exact hP, hD⟩, hS.F ht⟩) hS.2.2 hdg hlocks)
end
