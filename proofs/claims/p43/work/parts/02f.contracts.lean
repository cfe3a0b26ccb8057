/-! CONTRACTS by function: Ci (an int comes back), Cv (nothing): the method turns the memory M of its family of worlds V into M'; nothing else changes. -/
section
variable {p : Program} {l : Launch} {e : Env} {R : Room} {s : State} {m : MethodId} {args : Array Value} {below : List Frame} {meth : Method} {c : Code} {H : Heap} {locs : List Loc} {cells slots : Nat} {Q : State → Prop}
variable {cc : ByteArray} {pc : Nat} {ls : Array Slot} {rest : List Value}
variable {D : va_G} {tys tys' : List (ClassId × FieldType)} {A : Nat → Prop} {H0 : Heap}
abbrev zRm (fr lo : Nat) : Room := { frames := fr, cells := 0, slots := 0, locals := lo }
/-- a char, a boolean -/
theorem nr_c {v : Int} (h0 : 0 ≤ v) (h1 : v < 65536) : narrow .char (.int (iI v)) = .int (iI v) := by
  obtain ⟨n, rfl⟩ := Int.eq_ofNat_of_zero_le h0
  have h := (pk_charN (q := n) (by omega)).1
  rwa [iI_nI] at h
theorem nr_b1 : narrow .boolean (.int (iI 1)) = .int (iI 1) := by decide +kernel
theorem nr_b0 : narrow .boolean (.int (iI 0)) = .int (iI 0) := by decide +kernel
theorem nr_b (P : Prop) [Decidable P] : narrow .boolean (.int (iI (bz P))) = .int (iI (bz P)) := by
  by_cases h : P
  · rw [bz_t h]; exact nr_b1
  · rw [bz_f h]; exact nr_b0
theorem nr_bb {v : Int} (h0 : 0 ≤ v) (h1 : v ≤ 1) : narrow .boolean (.int (iI v)) = .int (iI v) := by
  have h : v = 0 ∨ v = 1 := by omega
  rcases h with h | h <;> subst h
  · exact nr_b0
  · exact nr_b1
/-- worlds after a call that wrote its own cells: the callee's cells anew beside the rest -/
theorem wj_P {cl : List vw_C} {ws wc wr w1 : va_W} {H1 : Heap} (hP : va_P D cl ws H) (hD : va_D A ws) (isC isR : List Nat) (hC : isC.map (fun i => ws[i]?) = wc.map some) (hR : isR.map (fun i => ws[i]?) = wr.map some) (hdis : ∀ i ∈ isR, i ∉ isC)
    (hk : ∀ q : Nat, q < H.size → q ∉ wc.map Prod.fst → H1[q]? = H[q]?) (hP1 : va_P D cl w1 H1) : va_P D cl (wr ++ w1) H1 := by
  have at' : ∀ {is : List Nat} {w : va_W}, is.map (fun i => ws[i]?) = w.map some → ∀ (k : Nat) (q : Nat × va_E), w[k]? = some q → ∃ i, is[k]? = some i ∧ ws[i]? = some q := by
    intro is w hs k q hq
    have h1 : (is.map (fun i => ws[i]?))[k]? = some (some q) := by rw [hs, List.getElem?_map, hq]; rfl
    rw [List.getElem?_map] at h1
    cases hi : is[k]? with
    | none => rw [hi] at h1; cases h1
    | some i =>
      rw [hi] at h1
      exact ⟨i, rfl, Option.some.inj h1⟩
  intro k q hq
  by_cases hlt : k < wr.length
  · rw [List.getElem?_append_left hlt] at hq
    obtain ⟨i, hi, hwi⟩ := at' hR k q hq
    have h2 := hP i q hwi
    refine h2.kept (hk q.1 h2.lt ?_)
    intro hm
    obtain ⟨z, hz, hze⟩ := List.mem_map.mp hm
    obtain ⟨j, hj⟩ := List.mem_iff_getElem?.mp hz
    obtain ⟨i2, hi2, hwi2⟩ := at' hC j z hj
    have e9 := hD.1 i i2 q z hwi hwi2 hze.symm
    exact hdis i (List.mem_of_getElem? hi) (e9 ▸ List.mem_of_getElem? hi2)
  · rw [List.getElem?_append_right (Nat.le_of_not_lt hlt)] at hq
    exact hP1 _ q hq
theorem wj_D {ws ws' : va_W} (hD : va_D A ws) (h : ws'.map Prod.fst = ws.map Prod.fst) : va_D A ws' := by
  have key : ∀ (k : Nat) (q : Nat × va_E), ws'[k]? = some q → ∃ q', ws[k]? = some q' ∧ q'.1 = q.1 := by
    intro k q hq
    have h1 : (ws'.map Prod.fst)[k]? = some q.1 := by rw [List.getElem?_map, hq]; rfl
    rw [h, List.getElem?_map] at h1
    cases hi : ws[k]? with
    | none => rw [hi] at h1; cases h1
    | some z => rw [hi] at h1; exact ⟨z, rfl, Option.some.inj h1⟩
  refine ⟨fun i j p q hp hq he => ?_, fun k q hq => ?_⟩
  · obtain ⟨p', hp', e1⟩ := key i p hp
    obtain ⟨q', hq', e2⟩ := key j q hq
    exact hD.1 i j p' q' hp' hq' (by rw [e1, e2, he])
  · obtain ⟨q', hq', e1⟩ := key k q hq
    rw [← e1]
    exact hD.2 k q' hq'
theorem wj_in {ws wc : va_W} (hD : va_D A ws) (isC : List Nat) (hC : isC.map (fun i => ws[i]?) = wc.map some) : ∀ q : Nat, q ∈ wc.map Prod.fst → A q := by
  intro q hm
  obtain ⟨z, hz, hze⟩ := List.mem_map.mp hm
  obtain ⟨j, hj⟩ := List.mem_iff_getElem?.mp hz
  have h1 : (isC.map (fun i => ws[i]?))[j]? = some (some z) := by rw [hC, List.getElem?_map, hj]; rfl
  rw [List.getElem?_map] at h1
  cases hi : isC[j]? with
  | none => rw [hi] at h1; cases h1
  | some i =>
    rw [hi] at h1
    rw [← hze]
    exact hD.2 i z (Option.some.inj h1)
theorem wj_sub {ws wc : va_W} (hD : va_D A ws) (isC : List Nat) (hn : va_nd isC = true) (hC : isC.map (fun i => ws[i]?) = wc.map some) : va_D (fun _ => True) wc := (hD.sub isC hn hC).weaken (fun _ _ _ _ => trivial)
theorem wj_f {ws wc : va_W} {isC : List Nat} (hC : isC.map (fun i => ws[i]?) = wc.map some) : isC.filterMap (fun i => ws[i]?) = wc := by
  induction isC generalizing wc with
  | nil => cases wc with
    | nil => rfl
    | cons a b => simp at hC
  | cons i r ih => cases wc with
    | nil => simp at hC
    | cons a b =>
      simp only [List.map_cons, List.cons.injEq] at hC
      rw [List.filterMap_cons, hC.1, ih hC.2]
abbrev wA (V : va_W) : Nat → Prop := fun q => q ∈ V.map Prod.fst
/-- what stands by beside the world: launch facts, constants; kept while the world's own cells alone change -/
abbrev ZOk (V : va_W) (Z : State → Prop) : Prop := ∀ s U : State, s.WarmedH U.vm → s.heap.size ≤ U.heap.size → (∀ q : Nat, q < s.heap.size → ¬ wA V q → U.heap[q]? = s.heap[q]?) → Z s → Z U
abbrev ZBl (Z : State → Prop) : Prop := ∀ (a : Array Value) (U : State) (g : JFrame) (mk : MethodId), Z U → Z (U.calling g mk a)
abbrev wPre (As : List Value) (D : va_G) (tys : List (ClassId × FieldType)) (V : va_W) (Z : State → Prop) : Array Value → State → Prop := va_Pc As (fun U => va_P D vwCl V U.heap ∧ va_K D vwCl tys U ∧ va_D (fun _ => True) V ∧ Z U)
theorem wr_blind {As : List Value} {V : va_W} {Z : State → Prop} (hZb : ZBl Z) : FrameBlind (wPre As D tys V Z) := fun a U g mk q => by
  obtain ⟨q0, qP, qK, qD, qZ⟩ := q
  exact ⟨q0, qP, va_K.moved (u := U) (U := U.calling g mk a) (Vm.Alike.refl U.vm) qK, qD, hZb a U g mk qZ⟩
theorem wr_self {V : va_W} (h : va_D (fun _ => True) V) : va_D (wA V) V := ⟨h.1, fun k q hq => List.mem_map.mpr ⟨q, List.mem_of_getElem? hq, rfl⟩⟩
/-- the world behind a writing call, in the caller's order -/
theorem wj {ws wc wr w1 w2 : va_W} {H1 : Heap} (hP : va_P D vwCl ws H) (hD : va_D A ws) (isC isR perm : List Nat) (hC : isC.map (fun i => ws[i]?) = wc.map some) (hR : isR.map (fun i => ws[i]?) = wr.map some) (hdis : ∀ i ∈ isR, i ∉ isC) (hperm : perm.filterMap (fun i => (wr ++ w1)[i]?) = w2) (hfst : w2.map Prod.fst = ws.map Prod.fst)
    (hk : ∀ q : Nat, q < H.size → ¬ wA wc q → H1[q]? = H[q]?) (hP1 : va_P D vwCl w1 H1) : va_P D vwCl w2 H1 ∧ va_D A w2 := ⟨(wj_P hP hD isC isR hC hR hdis hk hP1).sub perm hperm, wj_D hD hfst⟩
/-- the memory of a family of worlds: region, place, number -/
abbrev Mem : Type := Nat → Int → Int
def mst (M : Mem) (k0 : Nat) (z v : Int) : Mem := fun k => cond (Nat.beq k k0) (up (M k) z v) (M k)
def msf (M : Mem) (k0 : Nat) (v : Int) : Mem := fun k => cond (Nat.beq k k0) (fun _ => v) (M k)
abbrev VFix (V : Mem → va_W) : Prop := ∀ M M' : Mem, (V M).map Prod.fst = (V M').map Prod.fst
def ciQ (D : va_G) (V : Mem → va_W) (M : Mem) (r : Int) (M' : Mem) : Array Value → State → Outcome → State → Prop := va_Qi (S := Unit) (fun x _ => x = iI r) (fun _ t => va_P D vwCl (V M') t.heap) (wA (V M))
def cvQ (D : va_G) (V : Mem → va_W) (M : Mem) (M' : Mem) : Array Value → State → Outcome → State → Prop := va_Qv (S := Unit) (fun _ => True) (fun _ t => va_P D vwCl (V M') t.heap) (wA (V M))
def Ci (l : Launch) (y : MethodName) (ws : List Cond) (fr lo : Nat) (As : List Value) (D : va_G) (tys : List (ClassId × FieldType)) (V : Mem → va_W) (Z : State → Prop) (M : Mem) (r : Int) (M' : Mem) : Prop :=
  Met l y ws (zRm fr lo) (wPre As D tys (V M) Z) (ciQ D V M r M') 0 0 (wA (V M))
def Cv (l : Launch) (y : MethodName) (ws : List Cond) (fr lo : Nat) (As : List Value) (D : va_G) (tys : List (ClassId × FieldType)) (V : Mem → va_W) (Z : State → Prop) (M : Mem) (M' : Mem) : Prop :=
  Met l y ws (zRm fr lo) (wPre As D tys (V M) Z) (cvQ D V M M') 0 0 (wA (V M))
theorem Ci.of {y : MethodName} {ws ws' : List Cond} {fr lo : Nat} {As : List Value} {V : Mem → va_W} {Z : State → Prop} {M M' : Mem} {r : Int} {cc : ByteArray} {maxL : Nat} {ret : Option FieldType} (hy : plainName y.cls = true) (hw : ws = Cond.code y cc maxL ret :: ws') (hn : (lg_sl As).length ≤ maxL)
    (body : ∀ (p : Program) (e : Env) (s : State) (m : MethodId) (args : Array Value) (below : List Frame) (meth : Method) (c : Code) (ls : Array Slot), p.tables.exec = Jvm.exec → c.code = cc → c.maxLocals = maxL → meth.sig.returnType = ret → s.vm.findClass y.cls = some m.cls → (∀ w ∈ ws, w.before args s = true) → meth.locks = false → va_P D vwCl (V M) s.heap → va_K D vwCl tys s → va_D (wA (V M)) (V M) → Z s → va_S (wA (V M)) s.heap s.heap [] → lv_has ls maxL (lv_args 0 As) →
      W p l e (zRm fr lo) s m args below meth c s.heap [] 0 0 (MQ below (ciQ D V M r M') args s 0 0 (wA (V M))) (F0 m 0 ls [])) : Ci l y ws fr lo As D tys V Z M r M' := by
  refine Met.ofW (cc := cc) (maxL := maxL) (ret := ret) hy hw ?_
  intro p e s m args below meth c s₁ B hml hv
  obtain ⟨rfl, hP, hK, hD, hZ⟩ := hv
  have hl := lv_entry As (n := maxL) hn
  rw [lg_entry_eq]
  generalize (lg_sl As ++ List.replicate (maxL - (lg_sl As).length) Slot.unset).toArray = ls at hl ⊢
  exact body p e s m As.toArray below meth c ls B.exec B.bytes hml B.returns (findClass_of_methodNamed B.named) (atoms_spec (ws := ws) B.pre) B.notSynchronized hP hK (wr_self hD) hZ va_S.rf hl
theorem Cv.of {y : MethodName} {ws ws' : List Cond} {fr lo : Nat} {As : List Value} {V : Mem → va_W} {Z : State → Prop} {M M' : Mem} {cc : ByteArray} {maxL : Nat} {ret : Option FieldType} (hy : plainName y.cls = true) (hw : ws = Cond.code y cc maxL ret :: ws') (hn : (lg_sl As).length ≤ maxL)
    (body : ∀ (p : Program) (e : Env) (s : State) (m : MethodId) (args : Array Value) (below : List Frame) (meth : Method) (c : Code) (ls : Array Slot), p.tables.exec = Jvm.exec → c.code = cc → c.maxLocals = maxL → meth.sig.returnType = ret → s.vm.findClass y.cls = some m.cls → (∀ w ∈ ws, w.before args s = true) → meth.locks = false → va_P D vwCl (V M) s.heap → va_K D vwCl tys s → va_D (wA (V M)) (V M) → Z s → va_S (wA (V M)) s.heap s.heap [] → lv_has ls maxL (lv_args 0 As) →
      W p l e (zRm fr lo) s m args below meth c s.heap [] 0 0 (MQ below (cvQ D V M M') args s 0 0 (wA (V M))) (F0 m 0 ls [])) : Cv l y ws fr lo As D tys V Z M M' := by
  refine Met.ofW (cc := cc) (maxL := maxL) (ret := ret) hy hw ?_
  intro p e s m args below meth c s₁ B hml hv
  obtain ⟨rfl, hP, hK, hD, hZ⟩ := hv
  have hl := lv_entry As (n := maxL) hn
  rw [lg_entry_eq]
  generalize (lg_sl As ++ List.replicate (maxL - (lg_sl As).length) Slot.unset).toArray = ls at hl ⊢
  exact body p e s m As.toArray below meth c ls B.exec B.bytes hml B.returns (findClass_of_methodNamed B.named) (atoms_spec (ws := ws) B.pre) B.notSynchronized hP hK (wr_self hD) hZ va_S.rf hl
theorem ci_i (hx : p.tables.exec = Jvm.exec) (hb : c.code = cc) {ty : FieldType} (hr : meth.sig.returnType = some ty) (hlocks : meth.locks = false) {V : Mem → va_W} {M M' : Mem} {v r : Int} (hv : v = r) (hn : narrow ty (.int (iI v)) = .int (iI v)) (hS : va_S (wA (V M)) s.heap H locs) (hP : va_P D vwCl (V M') H) (hdg : decode cc pc = .ok (.ireturn, 1)) : W p l e R s m args below meth c H locs 0 0 (MQ below (ciQ D V M r M') args s 0 0 (wA (V M))) (F0 m pc ls [.int (iI v)]) := by
  subst hv
  exact W.zret hx hb hr hn (fun t ht hW => ⟨⟨iI v, (), rfl, rfl, by show va_P D vwCl (V M') t.heap; rw [ht]; exact hP⟩, hS.F ht⟩) hS.2.2 hdg hlocks
theorem cv_v (hx : p.tables.exec = Jvm.exec) (hb : c.code = cc) (hr : meth.sig.returnType = none) (hlocks : meth.locks = false) {V : Mem → va_W} {M M' : Mem} (hS : va_S (wA (V M)) s.heap H locs) (hP : va_P D vwCl (V M') H) (hdg : decode cc pc = .ok (.return_, 1)) : W p l e R s m args below meth c H locs 0 0 (MQ below (cvQ D V M M') args s 0 0 (wA (V M))) (F0 m pc ls []) :=
  W.vret hx hb hr (fun t ht hW => ⟨⟨(), rfl, trivial, by show va_P D vwCl (V M') t.heap; rw [ht]; exact hP⟩, hS.F ht⟩) hS.2.2 hdg hlocks
theorem wA_in {V : va_W} (hD : va_D A V) : ∀ q : Nat, wA V q → A q := fun q h => by
  obtain ⟨z, hz, hze⟩ := List.mem_map.mp h
  obtain ⟨k, hk⟩ := List.mem_iff_getElem?.mp hz
  rw [← hze]
  exact hD.2 k z hk
theorem wA_any {V : va_W} (hD : va_D A V) : va_D (fun _ => True) V := ⟨hD.1, fun _ _ _ => trivial⟩
theorem ct_Vi {y : MethodName} {bytes : ByteArray} {maxL nL n index fr lo : Nat} {ret : Option FieldType} {ws Ts : List Cond} {own C : String} {As stk : List Value} {V : Mem → va_W} {Z : State → Prop} {M0 M M' : Mem} {r : Int} {b : Addr} {ci q0 : Nat} {cq : vw_C} {fs : List Value}
    (hV : VFix V) (hZo : ∀ M : Mem, ZOk (V M) Z) (hZb : ZBl Z) (hZ : Z s) (S0 : CallFix p m c cc nL s args Ts own) (hM : Ci l y ws fr lo (.ref b :: As) D tys V Z M r M') (cw : CallW R s args own C index y bytes maxL ret ws (zRm fr lo) 0 0 n) (hK : va_K D vwCl tys s) (hP : va_P D vwCl (V M) H) (hD : va_D (wA (V M0)) (V M)) (hS : va_S (wA (V M0)) s.heap H locs) (hc : vwCl[ci]? = some cq) (hC1 : cq.1 = C) (hq : (V M)[q0]? = some (b, .inr (ci, fs))) 
    (hn : As.length = n) (hsize : ls.size = nL) (hst : stk = As.reverse ++ .ref b :: rest) (hcat : (rest.map fun v => v.category).sum ≤ 8) (hdg : decode cc pc = .ok (.invokevirtual index, 3)) (hf : cells ≤ R.cells ∧ slots ≤ R.slots)
    (kk : ∀ (H1 : Heap) (locs1 : List Loc), va_P D vwCl (V M') H1 → va_D (wA (V M0)) (V M') → va_S (wA (V M0)) s.heap H1 locs1 → W p l e R s m args below meth c H1 locs1 cells slots Q (F0 m (pc + 3) ls (.int (iI r) :: rest))) : W p l e R s m args below meth c H locs cells slots Q (F0 m pc ls stk) := by
  subst hst
  refine va_calli (mc := 0) (ms := 0) (rest := rest) (va_runV (As := As) (rest := rest) S0 hM cw ⟨wr_blind hZb, by rw [← hC1]; exact va_recv hK hP hc hq, fun U hU hW => ⟨rfl, by rw [hU]; exact hP, va_K.moved hW.alike hK, wA_any hD, hZo M0 s U hW (by rw [hU]; exact hS.1) (fun q h1 h2 => by rw [hU]; exact hS.2.1 q h1 h2) hZ⟩⟩ rfl hn hsize rfl (lv_room hcat) hdg hf) hS (fun q _ h => wA_in hD q h) (fun q h => wA_in hD q h) (fun r' u t H1 locs1 ht hvm hp hB hz hk hS1 => ?_)
  rw [show r' = iI r from hp]
  rw [ht] at hB
  exact kk H1 locs1 hB (wj_D hD (hV _ _)) hS1
theorem ct_Vv {y : MethodName} {bytes : ByteArray} {maxL nL n index fr lo : Nat} {ret : Option FieldType} {ws Ts : List Cond} {own C : String} {As stk : List Value} {V : Mem → va_W} {Z : State → Prop} {M0 M M' : Mem} {b : Addr} {ci q0 : Nat} {cq : vw_C} {fs : List Value}
    (hV : VFix V) (hZo : ∀ M : Mem, ZOk (V M) Z) (hZb : ZBl Z) (hZ : Z s) (S0 : CallFix p m c cc nL s args Ts own) (hM : Cv l y ws fr lo (.ref b :: As) D tys V Z M M') (cw : CallW R s args own C index y bytes maxL ret ws (zRm fr lo) 0 0 n) (hK : va_K D vwCl tys s) (hP : va_P D vwCl (V M) H) (hD : va_D (wA (V M0)) (V M)) (hS : va_S (wA (V M0)) s.heap H locs) (hc : vwCl[ci]? = some cq) (hC1 : cq.1 = C) (hq : (V M)[q0]? = some (b, .inr (ci, fs))) 
    (hn : As.length = n) (hsize : ls.size = nL) (hst : stk = As.reverse ++ .ref b :: rest) (hcat : (rest.map fun v => v.category).sum ≤ 8) (hdg : decode cc pc = .ok (.invokevirtual index, 3)) (hf : cells ≤ R.cells ∧ slots ≤ R.slots)
    (kk : ∀ (H1 : Heap) (locs1 : List Loc), va_P D vwCl (V M') H1 → va_D (wA (V M0)) (V M') → va_S (wA (V M0)) s.heap H1 locs1 → W p l e R s m args below meth c H1 locs1 cells slots Q (F0 m (pc + 3) ls (rest))) : W p l e R s m args below meth c H locs cells slots Q (F0 m pc ls stk) := by
  subst hst
  refine va_callv (mc := 0) (ms := 0) (rest := rest) (va_runV (As := As) (rest := rest) S0 hM cw ⟨wr_blind hZb, by rw [← hC1]; exact va_recv hK hP hc hq, fun U hU hW => ⟨rfl, by rw [hU]; exact hP, va_K.moved hW.alike hK, wA_any hD, hZo M0 s U hW (by rw [hU]; exact hS.1) (fun q h1 h2 => by rw [hU]; exact hS.2.1 q h1 h2) hZ⟩⟩ rfl hn hsize rfl (lv_room hcat) hdg hf) hS (fun q _ h => wA_in hD q h) (fun q h => wA_in hD q h) (fun u t H1 locs1 ht hvm hp hB hz hk hS1 => ?_)
  rw [ht] at hB
  exact kk H1 locs1 hB (wj_D hD (hV _ _)) hS1
theorem ct_Si {y : MethodName} {bytes : ByteArray} {maxL nL n index fr lo : Nat} {ret : Option FieldType} {ws Ts : List Cond} {own : String} {As stk : List Value} {V : Mem → va_W} {Z : State → Prop} {M0 M M' : Mem} {r : Int} 
    (hV : VFix V) (hZo : ∀ M : Mem, ZOk (V M) Z) (hZb : ZBl Z) (hZ : Z s) (S0 : CallFix p m c cc nL s args Ts own) (hM : Ci l y ws fr lo As D tys V Z M r M') (cw : CallB R s args own index y bytes maxL ret ws (zRm fr lo) 0 0 n ∧ (Cond.static y).before args s = true) (hK : va_K D vwCl tys s) (hP : va_P D vwCl (V M) H) (hD : va_D (wA (V M0)) (V M)) (hS : va_S (wA (V M0)) s.heap H locs) 
    (hn : As.length = n) (hsize : ls.size = nL) (hst : stk = As.reverse ++ rest) (hcat : (rest.map fun v => v.category).sum ≤ 8) (hdg : decode cc pc = .ok (.invokestatic index, 3)) (hf : cells ≤ R.cells ∧ slots ≤ R.slots)
    (kk : ∀ (H1 : Heap) (locs1 : List Loc), va_P D vwCl (V M') H1 → va_D (wA (V M0)) (V M') → va_S (wA (V M0)) s.heap H1 locs1 → W p l e R s m args below meth c H1 locs1 cells slots Q (F0 m (pc + 3) ls (.int (iI r) :: rest))) : W p l e R s m args below meth c H locs cells slots Q (F0 m pc ls stk) := by
  subst hst
  refine va_calli (mc := 0) (ms := 0) (rest := rest) (va_runS (As := As) (rest := rest) S0 hM cw ⟨wr_blind hZb, fun U hU hW => ⟨rfl, by rw [hU]; exact hP, va_K.moved hW.alike hK, wA_any hD, hZo M0 s U hW (by rw [hU]; exact hS.1) (fun q h1 h2 => by rw [hU]; exact hS.2.1 q h1 h2) hZ⟩⟩ rfl hn hsize rfl (lv_room hcat) hdg hf) hS (fun q _ h => wA_in hD q h) (fun q h => wA_in hD q h) (fun r' u t H1 locs1 ht hvm hp hB hz hk hS1 => ?_)
  rw [show r' = iI r from hp]
  rw [ht] at hB
  exact kk H1 locs1 hB (wj_D hD (hV _ _)) hS1
theorem ct_Sv {y : MethodName} {bytes : ByteArray} {maxL nL n index fr lo : Nat} {ret : Option FieldType} {ws Ts : List Cond} {own : String} {As stk : List Value} {V : Mem → va_W} {Z : State → Prop} {M0 M M' : Mem} 
    (hV : VFix V) (hZo : ∀ M : Mem, ZOk (V M) Z) (hZb : ZBl Z) (hZ : Z s) (S0 : CallFix p m c cc nL s args Ts own) (hM : Cv l y ws fr lo As D tys V Z M M') (cw : CallB R s args own index y bytes maxL ret ws (zRm fr lo) 0 0 n ∧ (Cond.static y).before args s = true) (hK : va_K D vwCl tys s) (hP : va_P D vwCl (V M) H) (hD : va_D (wA (V M0)) (V M)) (hS : va_S (wA (V M0)) s.heap H locs) 
    (hn : As.length = n) (hsize : ls.size = nL) (hst : stk = As.reverse ++ rest) (hcat : (rest.map fun v => v.category).sum ≤ 8) (hdg : decode cc pc = .ok (.invokestatic index, 3)) (hf : cells ≤ R.cells ∧ slots ≤ R.slots)
    (kk : ∀ (H1 : Heap) (locs1 : List Loc), va_P D vwCl (V M') H1 → va_D (wA (V M0)) (V M') → va_S (wA (V M0)) s.heap H1 locs1 → W p l e R s m args below meth c H1 locs1 cells slots Q (F0 m (pc + 3) ls (rest))) : W p l e R s m args below meth c H locs cells slots Q (F0 m pc ls stk) := by
  subst hst
  refine va_callv (mc := 0) (ms := 0) (rest := rest) (va_runS (As := As) (rest := rest) S0 hM cw ⟨wr_blind hZb, fun U hU hW => ⟨rfl, by rw [hU]; exact hP, va_K.moved hW.alike hK, wA_any hD, hZo M0 s U hW (by rw [hU]; exact hS.1) (fun q h1 h2 => by rw [hU]; exact hS.2.1 q h1 h2) hZ⟩⟩ rfl hn hsize rfl (lv_room hcat) hdg hf) hS (fun q _ h => wA_in hD q h) (fun q h => wA_in hD q h) (fun u t H1 locs1 ht hvm hp hB hz hk hS1 => ?_)
  rw [ht] at hB
  exact kk H1 locs1 hB (wj_D hD (hV _ _)) hS1
theorem ct_Ni {y : MethodName} {bytes : ByteArray} {maxL nL n index fr lo : Nat} {ret : Option FieldType} {ws Ts : List Cond} {own host : String} {As stk : List Value} {V : Mem → va_W} {Z : State → Prop} {M0 M M' : Mem} {r : Int} 
    (hV : VFix V) (hZo : ∀ M : Mem, ZOk (V M) Z) (hZb : ZBl Z) (hZ : Z s) (S0 : CallFix p m c cc nL s args Ts own) (hM : Ci l y ws fr lo As D tys V Z M r M') (cw : va_CN R s args own index y host bytes maxL ret ws (zRm fr lo) 0 0 n ∧ (Cond.static y).before args s = true ∧ True) (hK : va_K D vwCl tys s) (hP : va_P D vwCl (V M) H) (hD : va_D (wA (V M0)) (V M)) (hS : va_S (wA (V M0)) s.heap H locs) 
    (hn : As.length = n) (hsize : ls.size = nL) (hst : stk = As.reverse ++ rest) (hcat : (rest.map fun v => v.category).sum ≤ 8) (hdg : decode cc pc = .ok (.invokestatic index, 3)) (hf : cells ≤ R.cells ∧ slots ≤ R.slots)
    (kk : ∀ (H1 : Heap) (locs1 : List Loc), va_P D vwCl (V M') H1 → va_D (wA (V M0)) (V M') → va_S (wA (V M0)) s.heap H1 locs1 → W p l e R s m args below meth c H1 locs1 cells slots Q (F0 m (pc + 3) ls (.int (iI r) :: rest))) : W p l e R s m args below meth c H locs cells slots Q (F0 m pc ls stk) := by
  subst hst
  refine va_calli (mc := 0) (ms := 0) (rest := rest) (va_runSN (As := As) (rest := rest) S0 hM cw ⟨wr_blind hZb, fun U hU hW => ⟨rfl, by rw [hU]; exact hP, va_K.moved hW.alike hK, wA_any hD, hZo M0 s U hW (by rw [hU]; exact hS.1) (fun q h1 h2 => by rw [hU]; exact hS.2.1 q h1 h2) hZ⟩⟩ rfl hn hsize rfl (lv_room hcat) hdg hf) hS (fun q _ h => wA_in hD q h) (fun q h => wA_in hD q h) (fun r' u t H1 locs1 ht hvm hp hB hz hk hS1 => ?_)
  rw [show r' = iI r from hp]
  rw [ht] at hB
  exact kk H1 locs1 hB (wj_D hD (hV _ _)) hS1
theorem ct_Nv {y : MethodName} {bytes : ByteArray} {maxL nL n index fr lo : Nat} {ret : Option FieldType} {ws Ts : List Cond} {own host : String} {As stk : List Value} {V : Mem → va_W} {Z : State → Prop} {M0 M M' : Mem} 
    (hV : VFix V) (hZo : ∀ M : Mem, ZOk (V M) Z) (hZb : ZBl Z) (hZ : Z s) (S0 : CallFix p m c cc nL s args Ts own) (hM : Cv l y ws fr lo As D tys V Z M M') (cw : va_CN R s args own index y host bytes maxL ret ws (zRm fr lo) 0 0 n ∧ (Cond.static y).before args s = true ∧ True) (hK : va_K D vwCl tys s) (hP : va_P D vwCl (V M) H) (hD : va_D (wA (V M0)) (V M)) (hS : va_S (wA (V M0)) s.heap H locs) 
    (hn : As.length = n) (hsize : ls.size = nL) (hst : stk = As.reverse ++ rest) (hcat : (rest.map fun v => v.category).sum ≤ 8) (hdg : decode cc pc = .ok (.invokestatic index, 3)) (hf : cells ≤ R.cells ∧ slots ≤ R.slots)
    (kk : ∀ (H1 : Heap) (locs1 : List Loc), va_P D vwCl (V M') H1 → va_D (wA (V M0)) (V M') → va_S (wA (V M0)) s.heap H1 locs1 → W p l e R s m args below meth c H1 locs1 cells slots Q (F0 m (pc + 3) ls (rest))) : W p l e R s m args below meth c H locs cells slots Q (F0 m pc ls stk) := by
  subst hst
  refine va_callv (mc := 0) (ms := 0) (rest := rest) (va_runSN (As := As) (rest := rest) S0 hM cw ⟨wr_blind hZb, fun U hU hW => ⟨rfl, by rw [hU]; exact hP, va_K.moved hW.alike hK, wA_any hD, hZo M0 s U hW (by rw [hU]; exact hS.1) (fun q h1 h2 => by rw [hU]; exact hS.2.1 q h1 h2) hZ⟩⟩ rfl hn hsize rfl (lv_room hcat) hdg hf) hS (fun q _ h => wA_in hD q h) (fun q h => wA_in hD q h) (fun u t H1 locs1 ht hvm hp hB hz hk hS1 => ?_)
  rw [ht] at hB
  exact kk H1 locs1 hB (wj_D hD (hV _ _)) hS1
end
