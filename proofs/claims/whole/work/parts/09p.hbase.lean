/-! THE LAW'S HELPERS: a call of the class, its answer into a cell of one place; what it throws is told by a number. -/
abbrev TYH (cI cC cJ cDD : ClassId) : List (ClassId × FieldType) := [(cI, .int), (cC, .char), (cJ, .long), (cDD, .double)]
def VHl (E : Nat → Nat) (cI cC cJ : ClassId) (o : Nat) (M : Mem) (f : Nat → Int64) : va_W := VC E cI cC M ++ [(o, .inl (cJ, 1, .inr (.inl f)))]
def VHd (E : Nat → Nat) (cI cC cDD : ClassId) (o : Nat) (M : Mem) (f : Nat → UInt64) : va_W := VC E cI cC M ++ [(o, .inl (cDD, 1, .inr (.inr (.inr (.inl f)))))]
def NcF (s : State) : Prop := va_Nc "java/lang/IllegalArgumentException" "java/lang/IndexOutOfBoundsException" s ∧ va_Nc "java/lang/UnsupportedOperationException" "java/lang/IndexOutOfBoundsException" s ∧ va_Nc "java/lang/UnsupportedOperationException" "java/lang/IllegalArgumentException" s ∧ va_Nc "java/util/NoSuchElementException" "java/lang/IndexOutOfBoundsException" s ∧ va_Nc "java/lang/IllegalArgumentException" "java/util/NoSuchElementException" s ∧ va_Nc "java/lang/ArithmeticException" "java/lang/IndexOutOfBoundsException" s
theorem NcF.moved {u U : State} (hvm : u.vm.Alike U.vm) (h : NcF u) : NcF U := ⟨h.1.moved hvm, h.2.1.moved hvm, h.2.2.1.moved hvm, h.2.2.2.1.moved hvm, h.2.2.2.2.1.moved hvm, h.2.2.2.2.2.moved hvm⟩
/-- the cells that a helper may write -/
def AH (E : Nat → Nat) (o : Nat) : Nat → Prop := fun q => q ∈ (VHl E 0 0 0 o M00 (fun _ => 0)).map Prod.fst
theorem AH_l (E : Nat → Nat) (cI cC cJ : ClassId) (o : Nat) (M : Mem) (f : Nat → Int64) : wA (VHl E cI cC cJ o M f) = AH E o := rfl
theorem AH_d (E : Nat → Nat) (cI cC cDD : ClassId) (o : Nat) (M : Mem) (f : Nat → UInt64) : wA (VHd E cI cC cDD o M f) = AH E o := rfl
theorem AH_C {E : Nat → Nat} {cI cC : ClassId} {o : Nat} {M : Mem} {q : Nat} (h : wA (VC E cI cC M) q) : AH E o q := by
  show q ∈ (VC E 0 0 M00 ++ _).map Prod.fst
  rw [List.map_append]
  exact List.mem_append_left _ h
def ZH (E : Nat → Nat) (o : Nat) (T : Nat → Nat) (U : State) : Prop := ZA T (AH E o) U ∧ NcF U
theorem ZH_C {E : Nat → Nat} {cI cC : ClassId} {o : Nat} {T : Nat → Nat} {U : State} (h : ZH E o T U) : ZC E cI cC T U := ZA_narrow (fun _ hq => AH_C (M := M00) hq) h.1
theorem ZH_keep {E : Nat → Nat} {o : Nat} {T : Nat → Nat} {s U : State} (hW : s.WarmedH U.vm) (hq : ∀ q : Nat, q < s.heap.size → ¬ AH E o q → U.heap[q]? = s.heap[q]?) (h : ZH E o T s) : ZH E o T U := ⟨ZA_keep hW hq h.1, h.2.moved hW.alike⟩
theorem ZH_bl (E : Nat → Nat) (o : Nat) (T : Nat → Nat) : ZBl (ZH E o T) := fun a U g mk h => ZH_keep (s := U) (U := U.calling g mk a) (State.WarmedH.refl U) (fun _ _ _ => rfl) h
theorem AnsL_0 {t : List Int} {k w : Int} (hw : AnsL k t w) (ht : ∀ i : Nat, i < t.length → ¬ t.getD i 0 = 0) (hk : k = 0) : w = 0 := by
  rcases hw with ⟨_, h⟩ | ⟨i, hi, h, _⟩
  · exact h
  · exact absurd (h.symm.trans hk) (ht i hi)
section
variable {p : Program} {l : Launch} {e : Env} {R : Room} {s : State} {m : MethodId} {args : Array Value} {below : List Frame} {meth : Method} {c : Code} {H : Heap} {locs : List Loc} {cells slots : Nat} {Q : State → Prop}
variable {cc : ByteArray} {pc : Nat} {ls : Array Slot} {rest : List Value}
variable {D : va_G} {tys : List (ClassId × FieldType)} {A : Nat → Prop} {H0 : Heap}
theorem Hx.of {y : MethodName} {ws ws' : List Cond} {fr lo n : Nat} {As : List Value} {W0 : va_W} {Z : State → Prop} {Qc : Array Value → State → Outcome → State → Prop} {cc : ByteArray} {maxL : Nat} {ret : Option FieldType} {hh : List (Nat × Nat × Nat × Nat)} (hy : plainName y.cls = true) (hw : ws = Cond.codeWith y cc maxL ret hh :: ws') (hn : (lg_sl As).length ≤ maxL)
    (body : ∀ (p : Program) (e : Env) (s : State) (m : MethodId) (args : Array Value) (below : List Frame) (meth : Method) (c : Code) (ls : Array Slot), p.tables.exec = Jvm.exec → c.code = cc → c.maxLocals = maxL → meth.sig.returnType = ret → s.vm.findClass y.cls = some m.cls → (∀ w ∈ ws, w.before args s = true) → meth.locks = false → va_P D vwCl W0 s.heap → va_K D vwCl tys s → va_D (wA W0) W0 → Z s → va_S (wA W0) s.heap s.heap [] → c.exceptionTable.toList = tableOf hh → lv_has ls maxL (lv_args 0 As) →
      W p l e (zRmx fr lo n) s m args below meth c s.heap [] 0 0 (MQ below Qc args s n (6 * n) (wA W0)) (F0 m 0 ls [])) : Met l y ws (zRmx fr lo n) (wPre As D tys W0 Z) Qc n (6 * n) (wA W0) := by
  refine va_MetW (cc := cc) (maxL := maxL) (ret := ret) (hh := hh) hy hw ?_
  intro p e s m args below meth c s₁ B hml hv
  obtain ⟨rfl, hP, hK, hD, hZ⟩ := hv
  have hts := atoms_spec (ws := ws) B.pre
  have ht := vx_table (x := y) B (hts (Cond.codeWith y cc maxL ret hh) (by rw [hw]; exact List.mem_cons_self))
  have hl := lv_entry As (n := maxL) hn
  rw [lg_entry_eq]
  generalize (lg_sl As ++ List.replicate (maxL - (lg_sl As).length) Slot.unset).toArray = ls at hl ⊢
  exact body p e s m As.toArray below meth c ls B.exec B.bytes hml B.returns (findClass_of_methodNamed B.named) hts B.notSynchronized hP hK (wr_self hD) hZ va_S.rf ht hl
/-- the class called by a helper: it answers, or it throws the k-th class -/
theorem hx_call {y : MethodName} {bytes : ByteArray} {maxL nL nA index fr lo n : Nat} {ret : Option FieldType} {ws Ts : List Cond} {own : String} {As stk : List Value} {E : Nat → Nat} {cI cC cJ cDD : ClassId} {T : Nat → Nat} {o : Nat} {x : Nat × va_E} {M M' : Mem} {k : Int} {ov : Option Value}
    (S0 : CallFix p m c cc nL s args Ts own) (hM : Cx l y ws fr lo n (.ref (E 0) :: As) D (TY cI cC) (VC E cI cC) (ZC E cI cC T) M k ov M') (cw : CallW R s args own RX8 index y bytes maxL ret ws (zRmx fr lo n) n (6 * n) nA) (hK : va_K D vwCl (TYH cI cC cJ cDD) s) (hP : va_P D vwCl (VC E cI cC M ++ [x]) H) (hD : va_D A (VC E cI cC M ++ [x])) (hS : va_S A s.heap H locs) (hA : A = AH E o) (hZ : ZH E o T s)
    (hn : As.length = nA) (hsize : ls.size = nL) (hst : stk = As.reverse ++ .ref (E 0) :: rest) (hcat : (rest.map fun v => v.category).sum ≤ 8) (hdg : decode cc pc = .ok (.invokevirtual index, 3)) (hf : cells + n ≤ R.cells ∧ slots + 6 * n ≤ R.slots)
    (kn : k = 0 → ∀ (H1 : Heap) (locs1 : List Loc), va_P D vwCl (VC E cI cC M' ++ [x]) H1 → va_D A (VC E cI cC M' ++ [x]) → va_S A s.heap H1 locs1 → W p l e R s m args below meth c H1 locs1 (cells + n) (slots + 6 * n) Q (F0 m (pc + 3) ls (ov.toList ++ rest)))
    (kx : ¬ k = 0 → ∀ (H1 : Heap) (locs1 : List Loc) (q : Addr) (ce : Cell), va_P D vwCl (VC E cI cC M' ++ [x]) H1 → va_D A (VC E cI cC M' ++ [x]) → va_S A s.heap H1 locs1 → H1[q]? = some ce → ce.vm = .none → s.vm.findClass (exN k) = some ce.cls → vx_W p l e R s m args below meth c H1 locs1 (cells + n) (slots + 6 * n) Q (F0 m pc ls rest) q) : W p l e R s m args below meth c H locs cells slots Q (F0 m pc ls stk) := by
  subst hst
  have hC : (List.range 19).map (fun i => (VC E cI cC M ++ [x])[i]?) = (VC E cI cC M).map some := rfl
  have hR : [19].map (fun i => (VC E cI cC M ++ [x])[i]?) = ([x] : va_W).map some := rfl
  have hPc : va_P D vwCl (VC E cI cC M) H := hP.sub (List.range 19) rfl
  have hDc : va_D A (VC E cI cC M) := hD.sub (List.range 19) (by decide) rfl
  have hKc : va_K D vwCl (TY cI cC) s := hK.sub [0, 1] rfl
  have hin : ∀ q, wA (VC E cI cC M) q → A q := fun q h => wA_in hDc q h
  have hr : vx_Run p l e R s m args below meth c H locs cells slots n (6 * n) (F0 m pc ls (As.reverse ++ .ref (E 0) :: rest)) rest (cxQ D (VC E cI cC) M k ov M' (Value.ref (E 0) :: As).toArray) (cxX D (VC E cI cC) M k M') (wA (VC E cI cC M)) := vx_runV (As := As) (rest := rest) (g := F0 m pc ls (As.reverse ++ .ref (E 0) :: rest)) S0 hM cw ⟨wr_blind (ZC_bl E cI cC T), va_recv hKc hPc (ci := 8) (q0 := 0) rfl VC_0, fun U hU hW => ⟨rfl, by rw [hU]; exact hPc, va_K.moved hW.alike hKc, wA_any hDc, ZH_C (ZH_keep (s := s) hW (fun q h1 h2 => by rw [hU]; exact hS.2.1 q h1 (by rw [hA]; exact h2)) hZ)⟩⟩ rfl hn hsize rfl (lv_room hcat) hdg hf
  have hj : ∀ H1 : Heap, (∀ q : Nat, q < H.size → ¬ wA (VC E cI cC M) q → H1[q]? = H[q]?) → va_P D vwCl (VC E cI cC M') H1 → va_P D vwCl (VC E cI cC M' ++ [x]) H1 ∧ va_D A (VC E cI cC M' ++ [x]) := fun H1 hk hP1 =>
    wj hP hD (List.range 19) [19] [1, 2, 3, 4, 5, 6, 7, 8, 9, 10, 11, 12, 13, 14, 15, 16, 17, 18, 19, 0] hC hR (by decide) rfl rfl hk hP1
  intro T9 hT X
  rcases hr T9 hT X with ⟨v, st₀, t, T', L, h0, X', hL, e1, e2, ⟨⟨hk, hv, hb⟩, hF⟩, st⟩ | ⟨q, st₀, t, T', L, E9, ce, h0, X', hL, e1, e2, ⟨⟨hk, hE, hb⟩, hF⟩, hce, hcv, hcl, st⟩
  · cases hv
    obtain ⟨k1, k2, k3⟩ := vx_keep h0 e1 hS (fun q _ h => hin q h) hin hL hF
    rw [← e1] at hb
    obtain ⟨j1, j2⟩ := hj T'.heap k2 hb
    obtain ⟨t2, a1, b1⟩ := kn hk T'.heap (locs ++ L) j1 j2 k3 T' rfl X'
    exact ⟨t2, st t2 a1, b1⟩
  · obtain ⟨k1, k2, k3⟩ := vx_keep h0 e1 hS (fun q _ h => hin q h) hin hL hF
    rw [← e1] at hb hce
    obtain ⟨j1, j2⟩ := hj T'.heap k2 hb
    obtain ⟨t2, a1, b1⟩ := kx hk T'.heap (locs ++ L) q ce j1 j2 k3 hce hcv (by rw [← hE]; exact hcl) T' rfl X'
    exact ⟨t2, st.trans a1, b1⟩
def Hl (l : Launch) (y : MethodName) (ws : List Cond) (fr lo n : Nat) (As : List Value) (D : va_G) (cI cC cJ cDD : ClassId) (E : Nat → Nat) (o : Nat) (T : Nat → Nat) (M : Mem) (k : Int) (x : Int64) (M' : Mem) (w : Int) : Prop :=
  ∀ f : Nat → Int64, Met l y ws (zRmx fr lo n) (wPre As D (TYH cI cC cJ cDD) (VHl E cI cC cJ o M f) (ZH E o T)) (va_Qi (S := Nat → Int64) (fun r' f' => r' = iI w ∧ (k = 0 → f' 0 = x)) (fun f' t => va_P D vwCl (VHl E cI cC cJ o M' f') t.heap) (wA (VHl E cI cC cJ o M f))) n (6 * n) (wA (VHl E cI cC cJ o M f))
def Hdd (l : Launch) (y : MethodName) (ws : List Cond) (fr lo n : Nat) (As : List Value) (D : va_G) (cI cC cJ cDD : ClassId) (E : Nat → Nat) (o : Nat) (T : Nat → Nat) (M : Mem) (k : Int) (r : UInt64) (M' : Mem) (w : Int) : Prop :=
  ∀ f : Nat → UInt64, Met l y ws (zRmx fr lo n) (wPre As D (TYH cI cC cJ cDD) (VHd E cI cC cDD o M f) (ZH E o T)) (va_Qi (S := Nat → UInt64) (fun r' f' => r' = iI w ∧ (k = 0 → f' 0 = r)) (fun f' t => va_P D vwCl (VHd E cI cC cDD o M' f') t.heap) (wA (VHd E cI cC cDD o M f))) n (6 * n) (wA (VHd E cI cC cDD o M f))
theorem hl_end (hx : p.tables.exec = Jvm.exec) (hb : c.code = cc) (hr : meth.sig.returnType = some .int) (hlocks : meth.locks = false) {E : Nat → Nat} {cI cC cJ : ClassId} {o : Nat} {M' : Mem} {k w : Int} {x : Int64} {n : Nat} {v : Int32} {f' : Nat → Int64} (hv : v = iI w) (hk : k = 0 → f' 0 = x) (hS : va_S A s.heap H locs) (hP : va_P D vwCl (VHl E cI cC cJ o M' f') H) (hc : cells ≤ n) (hs : slots ≤ 6 * n) (hdg : decode cc pc = .ok (.ireturn, 1)) :
    W p l e R s m args below meth c H locs cells slots (MQ below (va_Qi (S := Nat → Int64) (fun r' f' => r' = iI w ∧ (k = 0 → f' 0 = x)) (fun f' t => va_P D vwCl (VHl E cI cC cJ o M' f') t.heap) A) args s n (6 * n) A) (F0 m pc ls [.int v]) :=
  W.widen hc hs (W.zret hx hb hr rfl (fun t ht hW => ⟨⟨v, f', rfl, ⟨hv, hk⟩, by show va_P D vwCl (VHl E cI cC cJ o M' f') t.heap; rw [ht]; exact hP⟩, hS.F ht⟩) hS.2.2 hdg hlocks)
theorem hd_end (hx : p.tables.exec = Jvm.exec) (hb : c.code = cc) (hr : meth.sig.returnType = some .int) (hlocks : meth.locks = false) {E : Nat → Nat} {cI cC cDD : ClassId} {o : Nat} {M' : Mem} {k w : Int} {r : UInt64} {n : Nat} {v : Int32} {f' : Nat → UInt64} (hv : v = iI w) (hk : k = 0 → f' 0 = r) (hS : va_S A s.heap H locs) (hP : va_P D vwCl (VHd E cI cC cDD o M' f') H) (hc : cells ≤ n) (hs : slots ≤ 6 * n) (hdg : decode cc pc = .ok (.ireturn, 1)) :
    W p l e R s m args below meth c H locs cells slots (MQ below (va_Qi (S := Nat → UInt64) (fun r' f' => r' = iI w ∧ (k = 0 → f' 0 = r)) (fun f' t => va_P D vwCl (VHd E cI cC cDD o M' f') t.heap) A) args s n (6 * n) A) (F0 m pc ls [.int v]) :=
  W.widen hc hs (W.zret hx hb hr rfl (fun t ht hW => ⟨⟨v, f', rfl, ⟨hv, hk⟩, by show va_P D vwCl (VHd E cI cC cDD o M' f') t.heap; rw [ht]; exact hP⟩, hS.F ht⟩) hS.2.2 hdg hlocks)
theorem exN_1 : exN 1 = "java/lang/IndexOutOfBoundsException" := by decide +kernel
theorem exN_2 : exN 2 = "java/lang/IllegalArgumentException" := by decide +kernel
theorem exN_3 : exN 3 = "java/lang/UnsupportedOperationException" := by decide +kernel
theorem exN_4 : exN 4 = "java/util/NoSuchElementException" := by decide +kernel
theorem exN_5 : exN 5 = "java/lang/IllegalStateException" := by decide +kernel
theorem exN_6 : exN 6 = "java/lang/ArithmeticException" := by decide +kernel
theorem iI_0 : (0 : Int32) = iI 0 := by decide +kernel
theorem iI_1 : (1 : Int32) = iI 1 := by decide +kernel
theorem iI_2 : (2 : Int32) = iI 2 := by decide +kernel
theorem iI_3 : (3 : Int32) = iI 3 := by decide +kernel
end
theorem fp_shareD0 : ∀ n : Fin 11, ∀ d : Fin 11, n.val ≠ 0 → vf_n64 (FP.f2d (FP.fdiv (FP.i2f (iI (d.val : Int))) (FP.i2f (iI (n.val : Int))))) := by unfold vf_n64; decide +kernel
theorem fp_shareDI {n d : Int} (h1 : 0 ≤ n ∧ n ≤ 10) (h0 : ¬ n = 0) (h2 : 0 ≤ d ∧ d ≤ 10) : vf_n64 (FP.f2d (FP.fdiv (FP.i2f (iI d)) (FP.i2f (iI n)))) := by
  obtain ⟨a, rfl⟩ := Int.eq_ofNat_of_zero_le h1.1
  obtain ⟨b, rfl⟩ := Int.eq_ofNat_of_zero_le h2.1
  exact fp_shareD0 ⟨a, by omega⟩ ⟨b, by omega⟩ (by show a ≠ 0; omega)
theorem fp_shareD {M : Mem} (hC : CI M) {kx : Int} {r : UInt32} (hE : fX8_foldedShare M = (kx, r)) (hk : kx = 0) : vf_n64 (FP.f2d r) := by
  unfold fX8_foldedShare at hE
  split at hE
  · have h1 := congrArg Prod.fst hE
    have h2 : (6 : Int) = kx := h1
    omega
  · rename_i h0
    have h2 : FP.fdiv (FP.i2f (iI (fX6_foldedCount M))) (FP.i2f (iI (fX6_napkins M))) = r := congrArg Prod.snd hE
    rw [← h2]
    exact fp_shareDI (rg_X6_napkins hC) h0 (rg_X6_foldedCount hC)
