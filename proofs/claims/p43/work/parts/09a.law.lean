/-! THE LAW'S OWN METHODS: contracts Cn; frozen texts out of worlds; calls on a block of a world. -/
def cnQ (D : va_G) (V : Mem → va_W) (M : Mem) (ov : Option Value) (M' : Mem) : Array Value → State → Outcome → State → Prop := fun _ st oc t => (oc = .returned ov ∧ va_P D vwCl (V M') t.heap) ∧ va_F (wA (V M)) st t
def Cn (l : Launch) (y : MethodName) (ws : List Cond) (fr lo n : Nat) (As : List Value) (D : va_G) (tys : List (ClassId × FieldType)) (V : Mem → va_W) (Z : State → Prop) (M : Mem) (ov : Option Value) (M' : Mem) : Prop :=
  Met l y ws (zRmx fr lo n) (wPre As D tys (V M) Z) (cnQ D V M ov M') n (6 * n) (wA (V M))
/-- a text: the String q, its bytes at t, n letters g -/
def StrF (q t n : Nat) (g : Int → Int) (A : Nat → Prop) (U : State) : Prop := va_O RJ0 q A U U.heap ∧ va_OF RJ0 "value" "[B" (.ref t) q A U U.heap ∧ va_OF RJ0 "coder" "B" (.int (iI 0)) q A U U.heap ∧ va_T .byte t n (fun j => .int (iI (g (j : Int)))) A U U.heap
theorem StrF.keep {q t n : Nat} {g : Int → Int} {A : Nat → Prop} {s U : State} (hW : s.WarmedH U.vm) (hq : ∀ q : Nat, q < s.heap.size → ¬ A q → U.heap[q]? = s.heap[q]?) (h : StrF q t n g A s) : StrF q t n g A U :=
  ⟨va_O.moved hW.alike (h.1.kept hq), va_OF.moved hW.alike (h.2.1.kept hq), va_OF.moved hW.alike (h.2.2.1.kept hq), va_T.moved hW.alike (h.2.2.2.kept hq)⟩
theorem StrF.narrow {q t n : Nat} {g : Int → Int} {A B : Nat → Prop} {U : State} (hAB : ∀ q, B q → A q) (h : StrF q t n g A U) : StrF q t n g B U := ⟨h.1.narrow hAB, h.2.1.narrow hAB, h.2.2.1.narrow hAB, h.2.2.2.narrow hAB⟩
def ZS (E : Nat → Nat) (cI cC : ClassId) (T : Nat → Nat) (q t n : Nat) (g : Int → Int) (U : State) : Prop := ZC E cI cC T U ∧ StrF q t n g (wA (VC E cI cC M00)) U
theorem ZS_ok (E : Nat → Nat) (cI cC : ClassId) (T : Nat → Nat) (q t n : Nat) (g : Int → Int) : ∀ M : Mem, ZOk (VC E cI cC M) (ZS E cI cC T q t n g) := fun M s U hW hz hq h => ⟨ZC_ok E cI cC T M s U hW hz hq h.1, h.2.keep hW (fun q h1 h2 => hq q h1 (by rw [ZC_A]; exact h2))⟩
theorem ZS_bl (E : Nat → Nat) (cI cC : ClassId) (T : Nat → Nat) (q t n : Nat) (g : Int → Int) : ZBl (ZS E cI cC T q t n g) := fun a U g' mk h => ⟨ZC_bl E cI cC T a U g' mk h.1, h.2.keep (s := U) (U := U.calling g' mk a) (State.WarmedH.refl U) (fun _ _ _ => rfl)⟩
theorem ZS_O {E : Nat → Nat} {cI cC : ClassId} {T : Nat → Nat} {q t n : Nat} {g : Int → Int} {s : State} (h : ZS E cI cC T q t n g s) (M : Mem) : va_O RJ0 q (wA (VC E cI cC M)) s s.heap := by
  rw [ZC_A]
  exact h.2.1
theorem ZS_v {E : Nat → Nat} {cI cC : ClassId} {T : Nat → Nat} {q t n : Nat} {g : Int → Int} {s : State} (h : ZS E cI cC T q t n g s) (M : Mem) : va_OF RJ0 "value" "[B" (.ref t) q (wA (VC E cI cC M)) s s.heap := by
  rw [ZC_A]
  exact h.2.2.1
theorem ZS_c {E : Nat → Nat} {cI cC : ClassId} {T : Nat → Nat} {q t n : Nat} {g : Int → Int} {s : State} (h : ZS E cI cC T q t n g s) (M : Mem) : va_OF RJ0 "coder" "B" (.int (iI 0)) q (wA (VC E cI cC M)) s s.heap := by
  rw [ZC_A]
  exact h.2.2.2.1
theorem ZS_t {E : Nat → Nat} {cI cC : ClassId} {T : Nat → Nat} {q t n : Nat} {g : Int → Int} {s : State} (h : ZS E cI cC T q t n g s) (M : Mem) : va_T .byte t n (fun j => .int (iI (g (j : Int)))) (wA (VC E cI cC M)) s s.heap := by
  rw [ZC_A]
  exact h.2.2.2.2
def NcF (s : State) : Prop := va_Nc "java/lang/IllegalArgumentException" "java/lang/UnsupportedOperationException" s ∧ va_Nc "java/lang/IndexOutOfBoundsException" "java/lang/UnsupportedOperationException" s ∧ va_Nc "java/lang/IndexOutOfBoundsException" "java/lang/IllegalArgumentException" s ∧ va_Nc "java/lang/UnsupportedOperationException" "java/lang/IllegalArgumentException" s ∧ va_Nw (.classLink RL 74 "java/lang/IllegalArgumentException") s ∧ va_Nw (.classLink RL 76 "java/lang/IndexOutOfBoundsException") s ∧ va_Nw (.classLink RL 72 "java/lang/UnsupportedOperationException") s
theorem NcF.warm {u U : State} (hW : u.WarmedH U.vm) (h : NcF u) : NcF U := ⟨h.1.moved hW.alike, h.2.1.moved hW.alike, h.2.2.1.moved hW.alike, h.2.2.2.1.moved hW.alike, word_at hW (Or.inl rfl) h.2.2.2.2.1, word_at hW (Or.inl rfl) h.2.2.2.2.2.1, word_at hW (Or.inl rfl) h.2.2.2.2.2.2⟩
def ZL (E : Nat → Nat) (cI cC : ClassId) (T : Nat → Nat) (U : State) : Prop := ZC E cI cC T U ∧ NcF U
theorem ZL_ok (E : Nat → Nat) (cI cC : ClassId) (T : Nat → Nat) : ∀ M : Mem, ZOk (VC E cI cC M) (ZL E cI cC T) := fun M s U hW hz hq h => ⟨ZC_ok E cI cC T M s U hW hz hq h.1, h.2.warm hW⟩
theorem ZL_bl (E : Nat → Nat) (cI cC : ClassId) (T : Nat → Nat) : ZBl (ZL E cI cC T) := fun a U g mk h => ⟨ZC_bl E cI cC T a U g mk h.1, NcF.warm (u := U) (U := U.calling g mk a) (State.WarmedH.refl U) h.2⟩
/-- a text, and what catches ask -/
def ZT (E : Nat → Nat) (cI cC : ClassId) (T : Nat → Nat) (q t n : Nat) (g : Int → Int) (U : State) : Prop := ZS E cI cC T q t n g U ∧ NcF U
theorem ZT_ok (E : Nat → Nat) (cI cC : ClassId) (T : Nat → Nat) (q t n : Nat) (g : Int → Int) : ∀ M : Mem, ZOk (VC E cI cC M) (ZT E cI cC T q t n g) := fun M s U hW hz hq h => ⟨ZS_ok E cI cC T q t n g M s U hW hz hq h.1, h.2.warm hW⟩
theorem ZT_bl (E : Nat → Nat) (cI cC : ClassId) (T : Nat → Nat) (q t n : Nat) (g : Int → Int) : ZBl (ZT E cI cC T q t n g) := fun a U g' mk h => ⟨ZS_bl E cI cC T q t n g a U g' mk h.1, NcF.warm (u := U) (U := U.calling g' mk a) (State.WarmedH.refl U) h.2⟩
section
variable {p : Program} {l : Launch} {e : Env} {R : Room} {s : State} {m : MethodId} {args : Array Value} {below : List Frame} {meth : Method} {c : Code} {H : Heap} {locs : List Loc} {cells slots : Nat} {Q : State → Prop}
variable {cc : ByteArray} {pc : Nat} {ls : Array Slot} {rest : List Value}
variable {D : va_G} {tys : List (ClassId × FieldType)} {A : Nat → Prop} {H0 : Heap}
theorem fz_O {cl : List vw_C} {ws : va_W} (hK : va_K D cl tys s) (hP : va_P D cl ws H) (q0 : Nat) {a ci : Nat} {fs : List Value} {q : vw_C} (he : ws[q0]? = some (a, .inr (ci, fs))) (hc : cl[ci]? = some q) (hA : ¬ A a) : va_O q.1 a A s H := by
  obtain ⟨cell, h1, h2, h3⟩ := va_recv hK hP hc he
  exact ⟨cell, h1, h2, h3, hA⟩
theorem fz_OF {C : String} {T : u_T} {N ci : Nat} {Ts : List Cond} (hts : ∀ w ∈ Ts, w.before args s = true) (hin : ∀ w ∈ u_ws C T N, w ∈ Ts) {cl : List vw_C} {ws : va_W} (hK : va_K D cl tys s) (hP : va_P D cl ws H) (q0 : Nat) {a : Nat} {fs : List Value} (he : ws[q0]? = some (a, .inr (ci, fs))) (hc : cl[ci]? = some (C, T, N)) (k : Nat) (hk : k < N) {v : Value} (hv : fs[k]? = some v) (hA : ¬ A a) : va_OF (T k).1 (T k).2.1 (T k).2.2.1 v a A s H := by
  obtain ⟨r, h1, cell, q1, q2, q3, q4⟩ := hP q0 _ he
  have hr : r = (C, T, N) := Option.some.inj (h1.symm.trans hc)
  subst hr
  obtain ⟨hS, hfc, kC, hkC, hkind⟩ := hK.1 ci _ hc
  obtain ⟨cf, kf, fi, f, hi, hsl⟩ := hS k hk
  refine ⟨cf, kf, fi, f, cell, hi, (u_facts hfc hkC (u_lays hts hin hk) hi).1, q1, (by rw [q3]; exact fun h => (by cases h)), ?_, hA⟩
  rw [hsl, q4 k hk]
  simp [vp_V, hv]
theorem fz_T {cl : List vw_C} {ws : va_W} (hK : va_K D cl tys s) (hP : va_P D cl ws H) (q0 t0 : Nat) {a : Nat} {cA : ClassId} {n : Nat} {f : Nat → Int32} {ty : FieldType} (he : ws[q0]? = some (a, .inl (cA, n, .inl f))) (ht : tys[t0]? = some (cA, ty)) (hA : ¬ A a) : va_T ty a n (fun j => .int (f j)) A s H := by
  have h1 : H[a]? = some (vp_cell cA (n, .inl f)) := hP q0 _ he
  have h2 := (hK.2 t0 _ ht).1
  rw [vp_cell_i] at h1
  refine ⟨arrV cA n (fun j => .int (f j)), h1, h2 n _, (fun h => (by cases h)), (by rw [arrV_size]; exact Nat.le_refl _), (by rw [arrV_size]), fun j hj => arrV_read cA _ hj, hA⟩
theorem Cn.of {y : MethodName} {ws ws' : List Cond} {fr lo n : Nat} {As : List Value} {V : Mem → va_W} {Z : State → Prop} {M M' : Mem} {ov : Option Value} {cc : ByteArray} {maxL : Nat} {ret : Option FieldType} (hy : plainName y.cls = true) (hw : ws = Cond.code y cc maxL ret :: ws') (hn : (lg_sl As).length ≤ maxL)
    (body : ∀ (p : Program) (e : Env) (s : State) (m : MethodId) (args : Array Value) (below : List Frame) (meth : Method) (c : Code) (ls : Array Slot), p.tables.exec = Jvm.exec → c.code = cc → c.maxLocals = maxL → meth.sig.returnType = ret → s.vm.findClass y.cls = some m.cls → (∀ w ∈ ws, w.before args s = true) → meth.locks = false → va_P D vwCl (V M) s.heap → va_K D vwCl tys s → va_D (wA (V M)) (V M) → Z s → va_S (wA (V M)) s.heap s.heap [] → lv_has ls maxL (lv_args 0 As) →
      W p l e (zRmx fr lo n) s m args below meth c s.heap [] 0 0 (MQ below (cnQ D V M ov M') args s n (6 * n) (wA (V M))) (F0 m 0 ls [])) : Cn l y ws fr lo n As D tys V Z M ov M' := by
  refine Met.ofW (cc := cc) (maxL := maxL) (ret := ret) hy hw ?_
  intro p e s m args below meth c s₁ B hml hv
  obtain ⟨rfl, hP, hK, hD, hZ⟩ := hv
  have hl := lv_entry As (n := maxL) hn
  rw [lg_entry_eq]
  generalize (lg_sl As ++ List.replicate (maxL - (lg_sl As).length) Slot.unset).toArray = ls at hl ⊢
  exact body p e s m As.toArray below meth c ls B.exec B.bytes hml B.returns (findClass_of_methodNamed B.named) (atoms_spec (ws := ws) B.pre) B.notSynchronized hP hK (wr_self hD) hZ va_S.rf hl
theorem Cn.ofW {y : MethodName} {ws ws' : List Cond} {fr lo n : Nat} {As : List Value} {V : Mem → va_W} {Z : State → Prop} {M M' : Mem} {ov : Option Value} {cc : ByteArray} {maxL : Nat} {ret : Option FieldType} {hh : List (Nat × Nat × Nat × Nat)} (hy : plainName y.cls = true) (hw : ws = Cond.codeWith y cc maxL ret hh :: ws') (hn : (lg_sl As).length ≤ maxL)
    (body : ∀ (p : Program) (e : Env) (s : State) (m : MethodId) (args : Array Value) (below : List Frame) (meth : Method) (c : Code) (ls : Array Slot), p.tables.exec = Jvm.exec → c.code = cc → c.maxLocals = maxL → meth.sig.returnType = ret → s.vm.findClass y.cls = some m.cls → (∀ w ∈ ws, w.before args s = true) → meth.locks = false → va_P D vwCl (V M) s.heap → va_K D vwCl tys s → va_D (wA (V M)) (V M) → Z s → va_S (wA (V M)) s.heap s.heap [] → c.exceptionTable.toList = tableOf hh → lv_has ls maxL (lv_args 0 As) →
      W p l e (zRmx fr lo n) s m args below meth c s.heap [] 0 0 (MQ below (cnQ D V M ov M') args s n (6 * n) (wA (V M))) (F0 m 0 ls [])) : Cn l y ws fr lo n As D tys V Z M ov M' := by
  refine va_MetW (cc := cc) (maxL := maxL) (ret := ret) (hh := hh) hy hw ?_
  intro p e s m args below meth c s₁ B hml hv
  obtain ⟨rfl, hP, hK, hD, hZ⟩ := hv
  have hts := atoms_spec (ws := ws) B.pre
  have ht := vx_table (x := y) B (hts (Cond.codeWith y cc maxL ret hh) (by rw [hw]; exact List.mem_cons_self))
  have hl := lv_entry As (n := maxL) hn
  rw [lg_entry_eq]
  generalize (lg_sl As ++ List.replicate (maxL - (lg_sl As).length) Slot.unset).toArray = ls at hl ⊢
  exact body p e s m As.toArray below meth c ls B.exec B.bytes hml B.returns (findClass_of_methodNamed B.named) hts B.notSynchronized hP hK (wr_self hD) hZ va_S.rf ht hl
theorem cn_i (hx : p.tables.exec = Jvm.exec) (hb : c.code = cc) {ty : FieldType} (hr : meth.sig.returnType = some ty) (hlocks : meth.locks = false) {V : Mem → va_W} {M M' : Mem} {n : Nat} {v r : Int} (hv : v = r) (hn : narrow ty (.int (iI v)) = .int (iI v)) (hS : va_S (wA (V M)) s.heap H locs) (hP : va_P D vwCl (V M') H) (hc : cells ≤ n) (hs : slots ≤ 6 * n) (hdg : decode cc pc = .ok (.ireturn, 1)) : W p l e R s m args below meth c H locs cells slots (MQ below (cnQ D V M (some (.int (iI r))) M') args s n (6 * n) (wA (V M))) (F0 m pc ls [.int (iI v)]) := by
  subst hv
  exact W.widen hc hs (W.zret hx hb hr hn (fun t ht hW => ⟨⟨rfl, by rw [ht]; exact hP⟩, hS.F ht⟩) hS.2.2 hdg hlocks)
theorem cn_v (hx : p.tables.exec = Jvm.exec) (hb : c.code = cc) (hr : meth.sig.returnType = none) (hlocks : meth.locks = false) {V : Mem → va_W} {M M' : Mem} {n : Nat} (hS : va_S (wA (V M)) s.heap H locs) (hP : va_P D vwCl (V M') H) (hc : cells ≤ n) (hs : slots ≤ 6 * n) (hdg : decode cc pc = .ok (.return_, 1)) : W p l e R s m args below meth c H locs cells slots (MQ below (cnQ D V M none M') args s n (6 * n) (wA (V M))) (F0 m pc ls []) :=
  W.widen hc hs (W.vret hx hb hr (fun t ht hW => ⟨⟨rfl, by rw [ht]; exact hP⟩, hS.F ht⟩) hS.2.2 hdg hlocks)
/-- a method of the class called on a block of a world: it answers, or throws the k-th class -/
theorem lx_VX {y : MethodName} {bytes : ByteArray} {maxL nL nA index fr lo n : Nat} {ret : Option FieldType} {wsy Ts : List Cond} {own C : String} {As stk : List Value} {V : Mem → va_W} {Z : State → Prop} {M M' : Mem} {k : Int} {ov : Option Value} {b ci q0 : Nat} {cq : vw_C} {fs : List Value} {W0 wr w2 : va_W} (isC isR perm : List Nat)
    (S0 : CallFix p m c cc nL s args Ts own) (hM : Cx l y wsy fr lo n (.ref b :: As) D tys V Z M k ov M') (cw : CallW R s args own C index y bytes maxL ret wsy (zRmx fr lo n) n (6 * n) nA) (hZb : ZBl Z) (hZ : ∀ U : State, U.heap = H → s.WarmedH U.vm → Z U) (hKs : va_K D vwCl tys s) (hP : va_P D vwCl W0 H) (hD : va_D A W0) (hS : va_S A s.heap H locs) (hc : vwCl[ci]? = some cq) (hC1 : cq.1 = C) (hq : (V M)[q0]? = some (b, .inr (ci, fs)))
    (hnd : va_nd isC = true) (hC : isC.map (fun i => W0[i]?) = (V M).map some) (hR : isR.map (fun i => W0[i]?) = wr.map some) (hdis : ∀ i ∈ isR, i ∉ isC) (hperm : perm.filterMap (fun i => (wr ++ V M')[i]?) = w2) (hfst : w2.map Prod.fst = W0.map Prod.fst)
    (hn : As.length = nA) (hsize : ls.size = nL) (hst : stk = As.reverse ++ .ref b :: rest) (hcat : (rest.map fun v => v.category).sum ≤ 8) (hdg : decode cc pc = .ok (.invokevirtual index, 3)) (hf : cells + n ≤ R.cells ∧ slots + 6 * n ≤ R.slots)
    (kn : k = 0 → ∀ (H1 : Heap) (locs1 : List Loc), va_P D vwCl w2 H1 → va_D A w2 → va_S A s.heap H1 locs1 → W p l e R s m args below meth c H1 locs1 (cells + n) (slots + 6 * n) Q (F0 m (pc + 3) ls (ov.toList ++ rest)))
    (kx : ¬ k = 0 → ∀ (H1 : Heap) (locs1 : List Loc) (q : Addr) (ce : Cell), va_P D vwCl w2 H1 → va_D A w2 → va_S A s.heap H1 locs1 → H1[q]? = some ce → ce.vm = .none → s.vm.findClass (exN k) = some ce.cls → vx_W p l e R s m args below meth c H1 locs1 (cells + n) (slots + 6 * n) Q (F0 m pc ls rest) q) : W p l e R s m args below meth c H locs cells slots Q (F0 m pc ls stk) := by
  subst hst
  have hPc : va_P D vwCl (V M) H := hP.sub isC (wj_f hC)
  have hDc : va_D A (V M) := hD.sub isC hnd hC
  have hin : ∀ q, wA (V M) q → A q := fun q h => wA_in hDc q h
  have hr : vx_Run p l e R s m args below meth c H locs cells slots n (6 * n) (F0 m pc ls (As.reverse ++ .ref b :: rest)) rest (cxQ D V M k ov M' (Value.ref b :: As).toArray) (cxX D V M k M') (wA (V M)) := vx_runV (As := As) (rest := rest) (g := F0 m pc ls (As.reverse ++ .ref b :: rest)) S0 hM cw ⟨wr_blind hZb, by rw [← hC1]; exact va_recv hKs hPc hc hq, fun U hU hW => ⟨rfl, by rw [hU]; exact hPc, va_K.moved hW.alike hKs, wA_any hDc, hZ U hU hW⟩⟩ rfl hn hsize rfl (lv_room hcat) hdg hf
  have hj : ∀ H1 : Heap, (∀ q : Nat, q < H.size → ¬ wA (V M) q → H1[q]? = H[q]?) → va_P D vwCl (V M') H1 → va_P D vwCl w2 H1 ∧ va_D A w2 := fun H1 hk hP1 =>
    wj hP hD isC isR perm hC hR hdis hperm hfst hk hP1
  intro T9 hT X
  rcases hr T9 hT X with ⟨v, st₀, t, T', L, h0, X', hL, e1, e2, ⟨⟨hk, hv, hb⟩, hF⟩, st⟩ | ⟨q, st₀, t, T', L, E9, ce, h0, X', hL, e1, e2, ⟨⟨hk, hE, hb⟩, hF⟩, hce, hcv, hcl, st⟩
  · cases hv
    obtain ⟨k1, k2, k3⟩ := vx_keep h0 e1 hS (fun q _ h => hin q h) hin hL hF
    rw [← e1] at hb
    obtain ⟨j1, j2⟩ := hj T'.heap k2 hb
    obtain ⟨t2, a1, b1⟩ := kn hk T'.heap (locs ++ L) j1 j2 k3 T' rfl X'
    exact ⟨t2, st t2 a1, b1⟩
  · obtain ⟨k1, k2, k3⟩ := vx_keep h0 e1 hS (fun q _ h => hin q h) hin hL hF
    rw [← e1] at hb hce
    obtain ⟨j1, j2⟩ := hj T'.heap k2 hb
    obtain ⟨t2, a1, b1⟩ := kx hk T'.heap (locs ++ L) q ce j1 j2 k3 hce hcv (by rw [← hE]; exact hcl) T' rfl X'
    exact ⟨t2, st.trans a1, b1⟩
/-- behind a run of a method that always answers -/
theorem lx_run {V : Mem → va_W} {M M' : Mem} {ov : Option Value} {n : Nat} {W0 wr w2 : va_W} {st0 : List Value} {a : Array Value} (isC isR perm : List Nat)
    (hr : va_Run p l e R s m args below meth c H locs cells slots n (6 * n) (F0 m pc ls st0) rest (cnQ D V M ov M' a) (wA (V M))) (hP : va_P D vwCl W0 H) (hD : va_D A W0) (hS : va_S A s.heap H locs)
    (hnd : va_nd isC = true) (hC : isC.map (fun i => W0[i]?) = (V M).map some) (hR : isR.map (fun i => W0[i]?) = wr.map some) (hdis : ∀ i ∈ isR, i ∉ isC) (hperm : perm.filterMap (fun i => (wr ++ V M')[i]?) = w2) (hfst : w2.map Prod.fst = W0.map Prod.fst)
    (kk : ∀ (H1 : Heap) (locs1 : List Loc), va_P D vwCl w2 H1 → va_D A w2 → va_S A s.heap H1 locs1 → W p l e R s m args below meth c H1 locs1 (cells + n) (slots + 6 * n) Q (F0 m (pc + 3) ls (ov.toList ++ rest))) : W p l e R s m args below meth c H locs cells slots Q (F0 m pc ls st0) := by
  have hDc : va_D A (V M) := hD.sub isC hnd hC
  intro T9 hT X
  obtain ⟨v, st₀, t, T', L9, h0, X', hL, e1, e2, ⟨⟨hv, hB⟩, hz, hk⟩, st⟩ := hr T9 hT X
  cases hv
  rw [h0] at hz hk
  rw [← e1] at hB
  obtain ⟨j1, j2⟩ := wj (w2 := w2) hP hD isC isR perm hC hR hdis hperm hfst (fun q h1 h2 => by rw [e1]; exact hk q h1 h2) hB
  obtain ⟨t2, a1, b1⟩ := kk T'.heap (locs ++ L9) j1 j2
    ⟨Nat.le_trans hS.1 (by rw [e1]; exact hz), fun q h1 h2 => by rw [e1, hk q (Nat.lt_of_lt_of_le h1 hS.1) (fun z => h2 (wA_in hDc q z))]; exact hS.2.1 q h1 h2, fun q hq => by
      rcases List.mem_append.mp hq with h | h
      · exact hS.2.2 q h
      · exact wA_in hDc _ (hL q h)⟩ T' rfl X'
  exact ⟨t2, st t2 a1, b1⟩
/-- a static method of the law -/
theorem lx_S {y : MethodName} {bytes : ByteArray} {maxL nL nA index fr lo n : Nat} {ret : Option FieldType} {wsy Ts : List Cond} {own : String} {As stk : List Value} {V : Mem → va_W} {Z : State → Prop} {M M' : Mem} {ov : Option Value} {W0 wr w2 : va_W} (isC isR perm : List Nat)
    (S0 : CallFix p m c cc nL s args Ts own) (hM : Cn l y wsy fr lo n As D tys V Z M ov M') (cw : CallB R s args own index y bytes maxL ret wsy (zRmx fr lo n) n (6 * n) nA ∧ (Cond.static y).before args s = true) (hZb : ZBl Z) (hZ : ∀ U : State, U.heap = H → s.WarmedH U.vm → Z U) (hK : va_K D vwCl tys s) (hP : va_P D vwCl W0 H) (hD : va_D A W0) (hS : va_S A s.heap H locs)
    (hnd : va_nd isC = true) (hC : isC.map (fun i => W0[i]?) = (V M).map some) (hR : isR.map (fun i => W0[i]?) = wr.map some) (hdis : ∀ i ∈ isR, i ∉ isC) (hperm : perm.filterMap (fun i => (wr ++ V M')[i]?) = w2) (hfst : w2.map Prod.fst = W0.map Prod.fst)
    (hn : As.length = nA) (hsize : ls.size = nL) (hst : stk = As.reverse ++ rest) (hcat : (rest.map fun v => v.category).sum ≤ 8) (hdg : decode cc pc = .ok (.invokestatic index, 3)) (hf : cells + n ≤ R.cells ∧ slots + 6 * n ≤ R.slots)
    (kk : ∀ (H1 : Heap) (locs1 : List Loc), va_P D vwCl w2 H1 → va_D A w2 → va_S A s.heap H1 locs1 → W p l e R s m args below meth c H1 locs1 (cells + n) (slots + 6 * n) Q (F0 m (pc + 3) ls (ov.toList ++ rest))) : W p l e R s m args below meth c H locs cells slots Q (F0 m pc ls stk) := by
  subst hst
  have hPc : va_P D vwCl (V M) H := hP.sub isC (wj_f hC)
  have hDc : va_D A (V M) := hD.sub isC hnd hC
  exact lx_run isC isR perm (va_runS (As := As) (rest := rest) S0 hM cw ⟨wr_blind hZb, fun U hU hW => ⟨rfl, by rw [hU]; exact hPc, va_K.moved hW.alike hK, wA_any hDc, hZ U hU hW⟩⟩ rfl hn hsize rfl (lv_room hcat) hdg hf) hP hD hS hnd hC hR hdis hperm hfst kk
/-- a static method of the law that has a table of its own -/
theorem lx_SW {y : MethodName} {bytes : ByteArray} {maxL nL nA index fr lo n : Nat} {ret : Option FieldType} {hh : List (Nat × Nat × Nat × Nat)} {wsy Ts : List Cond} {own : String} {As stk : List Value} {V : Mem → va_W} {Z : State → Prop} {M M' : Mem} {ov : Option Value} {W0 wr w2 : va_W} (isC isR perm : List Nat)
    (S0 : CallFix p m c cc nL s args Ts own) (hM : Cn l y wsy fr lo n As D tys V Z M ov M') (cw : vx_CSW R s args own index y bytes maxL ret hh wsy (zRmx fr lo n) n (6 * n) nA) (hZb : ZBl Z) (hZ : ∀ U : State, U.heap = H → s.WarmedH U.vm → Z U) (hK : va_K D vwCl tys s) (hP : va_P D vwCl W0 H) (hD : va_D A W0) (hS : va_S A s.heap H locs)
    (hnd : va_nd isC = true) (hC : isC.map (fun i => W0[i]?) = (V M).map some) (hR : isR.map (fun i => W0[i]?) = wr.map some) (hdis : ∀ i ∈ isR, i ∉ isC) (hperm : perm.filterMap (fun i => (wr ++ V M')[i]?) = w2) (hfst : w2.map Prod.fst = W0.map Prod.fst)
    (hn : As.length = nA) (hsize : ls.size = nL) (hst : stk = As.reverse ++ rest) (hcat : (rest.map fun v => v.category).sum ≤ 8) (hdg : decode cc pc = .ok (.invokestatic index, 3)) (hf : cells + n ≤ R.cells ∧ slots + 6 * n ≤ R.slots)
    (kk : ∀ (H1 : Heap) (locs1 : List Loc), va_P D vwCl w2 H1 → va_D A w2 → va_S A s.heap H1 locs1 → W p l e R s m args below meth c H1 locs1 (cells + n) (slots + 6 * n) Q (F0 m (pc + 3) ls (ov.toList ++ rest))) : W p l e R s m args below meth c H locs cells slots Q (F0 m pc ls stk) := by
  subst hst
  have hPc : va_P D vwCl (V M) H := hP.sub isC (wj_f hC)
  have hDc : va_D A (V M) := hD.sub isC hnd hC
  exact lx_run isC isR perm (vx_runSW (As := As) (rest := rest) S0 hM cw ⟨wr_blind hZb, fun U hU hW => ⟨rfl, by rw [hU]; exact hPc, va_K.moved hW.alike hK, wA_any hDc, hZ U hU hW⟩⟩ rfl hn hsize rfl (lv_room hcat) hdg hf) hP hD hS hnd hC hR hdis hperm hfst kk
/-- a method of the class that never throws, told by Ci -/
theorem lx_Vi {y : MethodName} {bytes : ByteArray} {maxL nL nA index fr lo : Nat} {ret : Option FieldType} {wsy Ts : List Cond} {own C : String} {As stk : List Value} {V : Mem → va_W} {Z : State → Prop} {M M' : Mem} {r : Int} {b ci q0 : Nat} {cq : vw_C} {fs : List Value} {W0 wr w2 : va_W} (isC isR perm : List Nat)
    (S0 : CallFix p m c cc nL s args Ts own) (hM : Ci l y wsy fr lo (.ref b :: As) D tys V Z M r M') (cw : CallW R s args own C index y bytes maxL ret wsy (zRm fr lo) 0 0 nA) (hZb : ZBl Z) (hZ : ∀ U : State, U.heap = H → s.WarmedH U.vm → Z U) (hK : va_K D vwCl tys s) (hP : va_P D vwCl W0 H) (hD : va_D A W0) (hS : va_S A s.heap H locs) (hc : vwCl[ci]? = some cq) (hC1 : cq.1 = C) (hq : (V M)[q0]? = some (b, .inr (ci, fs)))
    (hnd : va_nd isC = true) (hC : isC.map (fun i => W0[i]?) = (V M).map some) (hR : isR.map (fun i => W0[i]?) = wr.map some) (hdis : ∀ i ∈ isR, i ∉ isC) (hperm : perm.filterMap (fun i => (wr ++ V M')[i]?) = w2) (hfst : w2.map Prod.fst = W0.map Prod.fst)
    (hn : As.length = nA) (hsize : ls.size = nL) (hst : stk = As.reverse ++ .ref b :: rest) (hcat : (rest.map fun v => v.category).sum ≤ 8) (hdg : decode cc pc = .ok (.invokevirtual index, 3)) (hf : cells ≤ R.cells ∧ slots ≤ R.slots)
    (kk : ∀ (H1 : Heap) (locs1 : List Loc), va_P D vwCl w2 H1 → va_D A w2 → va_S A s.heap H1 locs1 → W p l e R s m args below meth c H1 locs1 cells slots Q (F0 m (pc + 3) ls (.int (iI r) :: rest))) : W p l e R s m args below meth c H locs cells slots Q (F0 m pc ls stk) := by
  subst hst
  have hPc : va_P D vwCl (V M) H := hP.sub isC (wj_f hC)
  have hDc : va_D A (V M) := hD.sub isC hnd hC
  have hin : ∀ q, wA (V M) q → A q := fun q h => wA_in hDc q h
  have hr : va_Run p l e R s m args below meth c H locs cells slots 0 0 (F0 m pc ls (As.reverse ++ .ref b :: rest)) rest (ciQ D V M r M' (Value.ref b :: As).toArray) (wA (V M)) :=
    va_runV (As := As) (rest := rest) S0 hM cw ⟨wr_blind hZb, by rw [← hC1]; exact va_recv hK hPc hc hq, fun U hU hW => ⟨rfl, by rw [hU]; exact hPc, va_K.moved hW.alike hK, wA_any hDc, hZ U hU hW⟩⟩ rfl hn hsize rfl (lv_room hcat) hdg hf
  refine va_calli (S := Unit) hr hS (fun q _ h => hin q h) hin (fun r' u t H1 locs1 ht hvm hp hB hz hk hS1 => ?_)
  rw [show r' = iI r from hp]
  rw [ht] at hB
  obtain ⟨j1, j2⟩ := wj (w2 := w2) hP hD isC isR perm hC hR hdis hperm hfst hk hB
  exact kk H1 locs1 j1 j2 hS1
end
