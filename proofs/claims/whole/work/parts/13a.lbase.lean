/-! THE LAW'S ROWS: its world, calls of helpers, of the model, and the end of a case. -/
def VL (E F : Nat → Nat) (cI cC cJ cDD : ClassId) (o od : Nat) (C G : Mem) (f : Nat → Int64) (fd : Nat → UInt64) : va_W := VC E cI cC C ++ (VG F cI cC G ++ [(o, .inl (cJ, 1, .inr (.inl f))), (od, .inl (cDD, 1, .inr (.inr (.inr (.inl fd)))))])
def LC (p : Program) (l : Launch) (s : State) (m : MethodId) (args : Array Value) (c : Code) (D : va_G) (cI cC cJ cDD : ClassId) (T : Nat → Nat) (b L : Nat) (xs : Nat → Int32) : Prop := p.tables.exec = Jvm.exec ∧ c.code = cL_law ∧ c.maxLocals = 9 ∧ s.vm.findClass RL = some m.cls ∧ (∀ w ∈ wsL_law, w.before args s = true) ∧ va_X b L xs s s.heap ∧ b < s.heap.size ∧ va_K D vwCl (TYH cI cC cJ cDD) s ∧ ZA T (lA s) s ∧ NcF s ∧ l.stackTraces = false ∧ L ≤ 2048
/-- what follows a case -/
def LK (p : Program) (l : Launch) (e : Env) (s : State) (m : MethodId) (args : Array Value) (below : List Frame) (meth : Method) (c : Code) (D : va_G) (cI cC cJ cDD : ClassId) (E F : Nat → Nat) (o od b : Nat) (i : Int) (Q : State → Prop) (cells slots : Nat) : Prop :=
  ∀ (C G : Mem) (f : Nat → Int64) (fd : Nat → UInt64) (H : Heap) (locs : List Loc) (ls : Array Slot), RelR C G → va_P D vwCl (VL E F cI cC cJ cDD o od C G f fd) H → va_D (lA s) (VL E F cI cC cJ cDD o od C G f fd) → va_S (lA s) s.heap H locs → lv_has ls 9 [(0, .ref b), (1, .ref (E 0)), (2, .ref (F 0)), (3, .ref o), (4, .ref od), (5, .int (iI i))] → W p l e room_1 s m args below meth c H locs (cells + 2) (slots + 12) Q (F0 m 2530 ls [])
def sc (xs : Nat → Int32) (j : Int) : Int := (xs j.toNat).toInt
theorem sc_r (xs : Nat → Int32) (j : Int) : I32 (sc xs j) := I32_x _
theorem sc_i (xs : Nat → Int32) (j : Int) : iI (sc xs j) = xs j.toNat := iI_x _
def c16 (a : Int) : Int := (((iI a).toBitVec.toNat % 65536 : Nat) : Int)
theorem c16_r (a : Int) : 0 ≤ c16 a ∧ c16 a < 65536 := by unfold c16; omega
def ztr : State → Prop := fun _ => True
theorem ztr_o {V : va_W} : ZOk V ztr := fun _ _ _ _ _ _ => trivial
theorem ztr_b : ZBl ztr := fun _ _ _ _ _ => trivial
theorem rl_CI {C G : Mem} (h : RelR C G) : CI C := h.1.1
theorem rl_SI {C G : Mem} (h : RelR C G) : SI C := h.2.1
theorem rl_GI {C G : Mem} (h : RelR C G) : GI G := h.1.2.1
theorem rl_HN {C G : Mem} (h : RelR C G) : HN C := by have h1 := h.2.2.1.1; unfold HN; omega
theorem rl_CH {C G : Mem} (h : RelR C G) : CH G := by have h1 := h.2.2.1.1; unfold CH; omega
theorem rl_TI {C G : Mem} (h : RelR C G) : TI C := h.2.2.2.2.1.1
theorem rl_RI {C G : Mem} (h : RelR C G) : RI G := h.2.2.2.2.1.2.1
theorem rl_TL {C G : Mem} (h : RelR C G) : TL G := h.2.2.2.2.1.2.2.1
theorem rl_LN {C G : Mem} (h : RelR C G) : LN C := h.2.2.2.2.2.1.1
theorem rl_WI {C G : Mem} (h : RelR C G) : WI G := h.2.2.2.2.2.1.2.1
theorem rl_c17 {C G : Mem} (h : RelR C G) : -1 ≤ C 17 0 ∧ C 17 0 ≤ 1000 := by have h1 := h.2.2.2.2.2.2.1; omega
theorem rl_g18 {C G : Mem} (h : RelR C G) : -1 ≤ G 18 0 ∧ G 18 0 ≤ 1000 := by have h1 := h.2.2.2.2.2.2.1; omega
theorem rl_c18 {C G : Mem} (h : RelR C G) : 0 ≤ C 18 0 ∧ C 18 0 ≤ 1000 := by have h1 := h.2.2.2.2.2.2.2.1; omega
theorem rl_c19 {C G : Mem} (h : RelR C G) : 0 ≤ C 19 0 ∧ C 19 0 ≤ 1000 := by have h1 := h.2.2.2.2.2.2.2.2.1; omega
theorem rl_g19 {C G : Mem} (h : RelR C G) : 0 ≤ G 19 0 ∧ G 19 0 ≤ 1000 := by have h1 := h.2.2.2.2.2.2.2.1; omega
theorem rl_g21 {C G : Mem} (h : RelR C G) : 0 ≤ G 21 0 ∧ G 21 0 ≤ 1000 := by have h1 := h.2.2.2.2.2.2.2.2.1; omega
theorem rl_g23 {C G : Mem} (h : RelR C G) : 0 ≤ G 23 0 ∧ G 23 0 ≤ 1 := h.2.2.2.2.2.2.2.2.2
theorem rl_c16 {C G : Mem} (h : RelR C G) : 0 ≤ C 16 0 ∧ C 16 0 ≤ 1 := by have h1 := h.2.2.2.1; unfold RN at h1; omega
theorem rl_g15 {C G : Mem} (h : RelR C G) : 0 ≤ G 15 0 ∧ G 15 0 ≤ 1 := by have h1 := h.2.2.2.1; unfold RN at h1; omega
theorem AnsL_r {t : List Int} {k w : Int} (hw : AnsL k t w) (ht : t.length ≤ 3) : I32 w ∧ (w = 0 → k = 0) := by
  rcases hw with ⟨h1, h2⟩ | ⟨i, hi, h, h2⟩
  · exact ⟨⟨by omega, by omega⟩, fun _ => h1⟩
  · exact ⟨⟨by omega, by omega⟩, fun h => by omega⟩
theorem fp_shareE0 : ∀ n : Fin 11, ∀ d : Fin 11, n.val ≠ 0 → Op.cmpValue (FP.dcmp (FP.f2d (FP.fdiv (FP.i2f (iI (d.val : Int))) (FP.i2f (iI (n.val : Int))))) (FP.f2d (FP.fdiv (FP.i2f (iI (d.val : Int))) (FP.i2f (iI (n.val : Int)))))) .l = 0 := by decide +kernel
theorem fp_shareE {M : Mem} (hC : CI M) {kx : Int} {r : UInt32} (hE : fX8_foldedShare M = (kx, r)) (hk : kx = 0) : Op.cmpValue (FP.dcmp (FP.f2d r) (FP.f2d r)) .l = 0 := by
  unfold fX8_foldedShare at hE
  split at hE
  · have h1 := congrArg Prod.fst hE
    have h2 : (6 : Int) = kx := h1
    omega
  · rename_i h0
    have h2 : FP.fdiv (FP.i2f (iI (fX6_foldedCount M))) (FP.i2f (iI (fX6_napkins M))) = r := congrArg Prod.snd hE
    rw [← h2]
    have h3 := rg_X6_napkins hC
    have h4 := rg_X6_foldedCount hC
    obtain ⟨a, ha⟩ := Int.eq_ofNat_of_zero_le h3.1
    obtain ⟨d, hd⟩ := Int.eq_ofNat_of_zero_le h4.1
    rw [ha, hd]
    exact fp_shareE0 ⟨a, by omega⟩ ⟨d, by omega⟩ (by show a ≠ 0; omega)
section
variable {p : Program} {l : Launch} {e : Env} {R : Room} {s : State} {m : MethodId} {args : Array Value} {below : List Frame} {meth : Method} {c : Code} {H : Heap} {locs : List Loc} {cells slots : Nat} {Q : State → Prop}
variable {cc : ByteArray} {pc : Nat} {ls : Array Slot} {rest : List Value}
variable {D : va_G} {cI cC cJ cDD : ClassId} {T : Nat → Nat} {b L : Nat} {xs : Nat → Int32} {E F : Nat → Nat} {o od : Nat} {C C' G G' : Mem} {f : Nat → Int64} {fd : Nat → UInt64}
theorem z_sld (K : LC p l s m args c D cI cC cJ cDD T b L xs) {locs : List Loc} (hS : va_S (lA s) s.heap H locs) {z : Int} (h0 : 0 ≤ z) (h1 : z < L) (hdg : decode cL_law pc = .ok (.iaload, 1))
    (kk : W p l e R s m args below meth c H locs cells slots Q (F0 m (pc + 1) ls (.int (iI (sc xs z)) :: rest))) : W p l e R s m args below meth c H locs cells slots Q (F0 m pc ls (.int (iI z) :: .ref b :: rest)) := by
  obtain ⟨hx, hb, -, -, -, hX, hbl, -, -, -, -, hL⟩ := K
  refine va_sld hx hb hX hbl (Nat.not_le.mpr hbl) hS (iI_in h0 h1 (by omega)) hdg ?_
  rw [iI_cl ⟨by omega, by omega⟩, ← sc_i xs z]
  exact kk
theorem z_slen (K : LC p l s m args c D cI cC cJ cDD T b L xs) {locs : List Loc} (hS : va_S (lA s) s.heap H locs) (hdg : decode cL_law pc = .ok (.arraylength, 1))
    (kk : W p l e R s m args below meth c H locs cells slots Q (F0 m (pc + 1) ls (.int (iI (L : Int)) :: rest))) : W p l e R s m args below meth c H locs cells slots Q (F0 m pc ls (.ref b :: rest)) := by
  obtain ⟨hx, hb, -, -, -, hX, hbl, -, -, -, -, hL⟩ := K
  refine va_slen hx hb hX hbl (Nat.not_le.mpr hbl) hS hdg ?_
  rw [show Int32.ofNat L = iI (L : Int) from iI_nI L]
  exact kk
theorem z_i2cA (hx : p.tables.exec = Jvm.exec) (hb : c.code = cc) {a : Int} (hdg : decode cc pc = .ok (.i2c, 1)) (k : W p l e R s m args below meth c H locs cells slots Q (F0 m (pc + 1) ls (.int (iI (c16 a)) :: rest))) : W p l e R s m args below meth c H locs cells slots Q (F0 m pc ls (.int (iI a) :: rest)) :=
  lv_i2c hx hb hdg (v := iI (c16 a)) (by rw [pk_char, iI_nI]; rfl) k
/-- '.. != 0' as a value -/
theorem z_nz (hx : p.tables.exec = Jvm.exec) (hb : c.code = cc) {a : Int} (ha : I32 a) (d0 : decode cc pc = .ok (.ifCond .eq 7, 3)) (d1 : decode cc (pc + 3) = .ok (.iconst 1, 1)) (d2 : decode cc (pc + 3 + 1) = .ok (.goto 4, 3)) (d3 : decode cc (pc + 7) = .ok (.iconst 0, 1))
    (k : W p l e R s m args below meth c H locs cells slots Q (F0 m (pc + 8) ls (.int (iI (bz (¬ a = 0))) :: rest))) : W p l e R s m args below meth c H locs cells slots Q (F0 m pc ls (.int (iI a) :: rest)) := by
  refine z_if_eq (tgt := pc + 7) hx hb d0 (by omega) ha (fun h => ?_) (fun h => ?_)
  · rw [bz_f (fun q => q h)] at k
    exact lv_iconst (v := iI 0) hx hb d3 rfl k
  · rw [bz_t h] at k
    refine lv_iconst (v := iI 1) hx hb d1 rfl ?_
    exact lv_goto (tgt := pc + 8) hx hb d2 (by omega) k
theorem lh_Z (K : LC p l s m args c D cI cC cJ cDD T b L xs) {W0 : va_W} (hD : va_D (lA s) W0) (hW0 : ∀ q, AH E o q → wA W0 q) (hS : va_S (lA s) s.heap H locs) (U : State) (hU : U.heap = H) (hW : s.WarmedH U.vm) : ZH E o T U := by
  obtain ⟨-, -, -, -, -, -, -, -, hZ, hN, -, -⟩ := K
  exact ⟨ZA_narrow (fun q hq => wA_in hD q (hW0 q hq)) (ZA_keep hW (fun q h1 h2 => by rw [hU]; exact hS.2.1 q h1 h2) hZ), hN.moved hW.alike⟩
/-- a helper with a long to tell into -/
theorem lw_hl {y : MethodName} {bytes : ByteArray} {maxL nA index fr lo n : Nat} {hh : List (Nat × Nat × Nat × Nat)} {ws : List Cond} {As stk : List Value} {k : Int} {x : Int64} {w : Int}
    (K : LC p l s m args c D cI cC cJ cDD T b L xs) (hM : Hl l y ws fr lo n As D cI cC cJ cDD E o T C k x C' w) (cw : vx_CSW R s args RL index y bytes maxL (some .int) hh ws (zRmx fr lo n) n (6 * n) nA) (hP : va_P D vwCl (VL E F cI cC cJ cDD o od C G f fd) H) (hD : va_D (lA s) (VL E F cI cC cJ cDD o od C G f fd)) (hS : va_S (lA s) s.heap H locs)
    (hn : As.length = nA) (hsize : ls.size = 9) (hst : stk = As.reverse ++ rest) (hcat : (rest.map fun v => v.category).sum ≤ 8) (hdg : decode cL_law pc = .ok (.invokestatic index, 3)) (hf : cells + n ≤ R.cells ∧ slots + 6 * n ≤ R.slots)
    (kk : ∀ (f' : Nat → Int64) (H1 : Heap) (locs1 : List Loc), (k = 0 → f' 0 = x) → va_P D vwCl (VL E F cI cC cJ cDD o od C' G f' fd) H1 → va_D (lA s) (VL E F cI cC cJ cDD o od C' G f' fd) → va_S (lA s) s.heap H1 locs1 → W p l e R s m args below meth c H1 locs1 (cells + n) (slots + 6 * n) Q (F0 m (pc + 3) ls (.int (iI w) :: rest))) : W p l e R s m args below meth c H locs cells slots Q (F0 m pc ls stk) := by
  subst hst
  have K0 := K
  obtain ⟨hx, hb, hml, hown, hts, -, -, hK, -, -, -, -⟩ := K
  have hC : [0, 1, 2, 3, 4, 5, 6, 7, 8, 9, 10, 11, 12, 13, 14, 15, 16, 17, 18, 27].map (fun i => (VL E F cI cC cJ cDD o od C G f fd)[i]?) = (VHl E cI cC cJ o C f).map some := rfl
  have hR : [19, 20, 21, 22, 23, 24, 25, 26, 28].map (fun i => (VL E F cI cC cJ cDD o od C G f fd)[i]?) = (VG F cI cC G ++ [(od, .inl (cDD, 1, .inr (.inr (.inr (.inl fd)))))] : va_W).map some := rfl
  have hPc : va_P D vwCl (VHl E cI cC cJ o C f) H := hP.sub [0, 1, 2, 3, 4, 5, 6, 7, 8, 9, 10, 11, 12, 13, 14, 15, 16, 17, 18, 27] rfl
  have hDc : va_D (lA s) (VHl E cI cC cJ o C f) := hD.sub [0, 1, 2, 3, 4, 5, 6, 7, 8, 9, 10, 11, 12, 13, 14, 15, 16, 17, 18, 27] (by decide) rfl
  have hin : ∀ q, wA (VHl E cI cC cJ o C f) q → lA s q := fun q h => wA_in hDc q h
  have hr : va_Run p l e R s m args below meth c H locs cells slots n (6 * n) (F0 m pc ls (As.reverse ++ rest)) rest (va_Qi (S := Nat → Int64) (fun r' f' => r' = iI w ∧ (k = 0 → f' 0 = x)) (fun f' t => va_P D vwCl (VHl E cI cC cJ o C' f') t.heap) (wA (VHl E cI cC cJ o C f)) As.toArray) (wA (VHl E cI cC cJ o C f)) :=
    vx_runSW (As := As) (rest := rest) ⟨hx, hb, hml, hown, hts⟩ (hM f) cw ⟨wr_blind (ZH_bl E o T), fun U hU hW => ⟨rfl, by rw [hU]; exact hPc, va_K.moved hW.alike hK, wA_any hDc, lh_Z K0 hDc (fun q h => h) hS U hU hW⟩⟩ rfl hn hsize rfl (lv_room hcat) hdg hf
  refine va_calli hr hS (fun q _ h => hin q h) hin (fun r u t H1 locs1 ht hvm hp hB hz hk hS1 => ?_)
  obtain ⟨hp1, hp2⟩ := hp
  subst hp1
  rw [ht] at hB
  obtain ⟨j1, j2⟩ := wj (w2 := VL E F cI cC cJ cDD o od C' G u fd) hP hD [0, 1, 2, 3, 4, 5, 6, 7, 8, 9, 10, 11, 12, 13, 14, 15, 16, 17, 18, 27] [19, 20, 21, 22, 23, 24, 25, 26, 28] [9, 10, 11, 12, 13, 14, 15, 16, 17, 18, 19, 20, 21, 22, 23, 24, 25, 26, 27, 0, 1, 2, 3, 4, 5, 6, 7, 28, 8] hC hR (by decide) rfl rfl hk hB
  exact kk u H1 locs1 hp2 j1 j2 hS1
theorem lw_hd {y : MethodName} {bytes : ByteArray} {maxL nA index fr lo n : Nat} {hh : List (Nat × Nat × Nat × Nat)} {ws : List Cond} {As stk : List Value} {k : Int} {x : UInt64} {w : Int}
    (K : LC p l s m args c D cI cC cJ cDD T b L xs) (hM : Hdd l y ws fr lo n As D cI cC cJ cDD E od T C k x C' w) (cw : vx_CSW R s args RL index y bytes maxL (some .int) hh ws (zRmx fr lo n) n (6 * n) nA) (hP : va_P D vwCl (VL E F cI cC cJ cDD o od C G f fd) H) (hD : va_D (lA s) (VL E F cI cC cJ cDD o od C G f fd)) (hS : va_S (lA s) s.heap H locs)
    (hn : As.length = nA) (hsize : ls.size = 9) (hst : stk = As.reverse ++ rest) (hcat : (rest.map fun v => v.category).sum ≤ 8) (hdg : decode cL_law pc = .ok (.invokestatic index, 3)) (hf : cells + n ≤ R.cells ∧ slots + 6 * n ≤ R.slots)
    (kk : ∀ (f' : Nat → UInt64) (H1 : Heap) (locs1 : List Loc), (k = 0 → f' 0 = x) → va_P D vwCl (VL E F cI cC cJ cDD o od C' G f f') H1 → va_D (lA s) (VL E F cI cC cJ cDD o od C' G f f') → va_S (lA s) s.heap H1 locs1 → W p l e R s m args below meth c H1 locs1 (cells + n) (slots + 6 * n) Q (F0 m (pc + 3) ls (.int (iI w) :: rest))) : W p l e R s m args below meth c H locs cells slots Q (F0 m pc ls stk) := by
  subst hst
  have K0 := K
  obtain ⟨hx, hb, hml, hown, hts, -, -, hK, -, -, -, -⟩ := K
  have hC : [0, 1, 2, 3, 4, 5, 6, 7, 8, 9, 10, 11, 12, 13, 14, 15, 16, 17, 18, 28].map (fun i => (VL E F cI cC cJ cDD o od C G f fd)[i]?) = (VHd E cI cC cDD od C fd).map some := rfl
  have hR : [19, 20, 21, 22, 23, 24, 25, 26, 27].map (fun i => (VL E F cI cC cJ cDD o od C G f fd)[i]?) = (VG F cI cC G ++ [(o, .inl (cJ, 1, .inr (.inl f)))] : va_W).map some := rfl
  have hPc : va_P D vwCl (VHd E cI cC cDD od C fd) H := hP.sub [0, 1, 2, 3, 4, 5, 6, 7, 8, 9, 10, 11, 12, 13, 14, 15, 16, 17, 18, 28] rfl
  have hDc : va_D (lA s) (VHd E cI cC cDD od C fd) := hD.sub [0, 1, 2, 3, 4, 5, 6, 7, 8, 9, 10, 11, 12, 13, 14, 15, 16, 17, 18, 28] (by decide) rfl
  have hin : ∀ q, wA (VHd E cI cC cDD od C fd) q → lA s q := fun q h => wA_in hDc q h
  have hr : va_Run p l e R s m args below meth c H locs cells slots n (6 * n) (F0 m pc ls (As.reverse ++ rest)) rest (va_Qi (S := Nat → UInt64) (fun r' f' => r' = iI w ∧ (k = 0 → f' 0 = x)) (fun f' t => va_P D vwCl (VHd E cI cC cDD od C' f') t.heap) (wA (VHd E cI cC cDD od C fd)) As.toArray) (wA (VHd E cI cC cDD od C fd)) :=
    vx_runSW (As := As) (rest := rest) ⟨hx, hb, hml, hown, hts⟩ (hM fd) cw ⟨wr_blind (ZH_bl E od T), fun U hU hW => ⟨rfl, by rw [hU]; exact hPc, va_K.moved hW.alike hK, wA_any hDc, lh_Z K0 hDc (fun q h => h) hS U hU hW⟩⟩ rfl hn hsize rfl (lv_room hcat) hdg hf
  refine va_calli hr hS (fun q _ h => hin q h) hin (fun r u t H1 locs1 ht hvm hp hB hz hk hS1 => ?_)
  obtain ⟨hp1, hp2⟩ := hp
  subst hp1
  rw [ht] at hB
  obtain ⟨j1, j2⟩ := wj (w2 := VL E F cI cC cJ cDD o od C' G f u) hP hD [0, 1, 2, 3, 4, 5, 6, 7, 8, 9, 10, 11, 12, 13, 14, 15, 16, 17, 18, 28] [19, 20, 21, 22, 23, 24, 25, 26, 27] [9, 10, 11, 12, 13, 14, 15, 16, 17, 18, 19, 20, 21, 22, 23, 24, 25, 26, 27, 0, 1, 2, 3, 4, 5, 6, 7, 8, 28] hC hR (by decide) rfl rfl hk hB
  exact kk u H1 locs1 hp2 j1 j2 hS1
/-- a call of the model, with any answer -/
theorem lw_gr {y : MethodName} {bytes : ByteArray} {maxL nA index fr lo : Nat} {ret : Option FieldType} {ws : List Cond} {As stk : List Value} {rv : Value}
    (K : LC p l s m args c D cI cC cJ cDD T b L xs) (hM : Met l y ws (zRm fr lo) (wPre (.ref (F 0) :: As) D (TY cI cC) (VG F cI cC G) ztr) (crQ D (VG F cI cC) G rv G') 0 0 (wA (VG F cI cC G))) (cw : CallW R s args RL RX9 index y bytes maxL ret ws (zRm fr lo) 0 0 nA) (hP : va_P D vwCl (VL E F cI cC cJ cDD o od C G f fd) H) (hD : va_D (lA s) (VL E F cI cC cJ cDD o od C G f fd)) (hS : va_S (lA s) s.heap H locs)
    (hn : As.length = nA) (hsize : ls.size = 9) (hst : stk = As.reverse ++ .ref (F 0) :: rest) (hcat : (rest.map fun v => v.category).sum ≤ 8) (hdg : decode cL_law pc = .ok (.invokevirtual index, 3)) (hf : cells ≤ R.cells ∧ slots ≤ R.slots)
    (kk : ∀ (H1 : Heap) (locs1 : List Loc), va_P D vwCl (VL E F cI cC cJ cDD o od C G' f fd) H1 → va_D (lA s) (VL E F cI cC cJ cDD o od C G' f fd) → va_S (lA s) s.heap H1 locs1 → W p l e R s m args below meth c H1 locs1 cells slots Q (F0 m (pc + 3) ls (rv :: rest))) : W p l e R s m args below meth c H locs cells slots Q (F0 m pc ls stk) := by
  subst hst
  obtain ⟨hx, hb, hml, hown, hts, -, -, hK0, -, -, -, -⟩ := K
  have hC : [19, 20, 21, 22, 23, 24, 25, 26].map (fun i => (VL E F cI cC cJ cDD o od C G f fd)[i]?) = (VG F cI cC G).map some := rfl
  have hR : [0, 1, 2, 3, 4, 5, 6, 7, 8, 9, 10, 11, 12, 13, 14, 15, 16, 17, 18, 27, 28].map (fun i => (VL E F cI cC cJ cDD o od C G f fd)[i]?) = (VC E cI cC C ++ [(o, .inl (cJ, 1, .inr (.inl f))), (od, .inl (cDD, 1, .inr (.inr (.inr (.inl fd)))))] : va_W).map some := rfl
  have hPc : va_P D vwCl (VG F cI cC G) H := hP.sub [19, 20, 21, 22, 23, 24, 25, 26] rfl
  have hDc : va_D (lA s) (VG F cI cC G) := hD.sub [19, 20, 21, 22, 23, 24, 25, 26] (by decide) rfl
  have hK : va_K D vwCl (TY cI cC) s := hK0.sub [0, 1] rfl
  have hr : va_Run p l e R s m args below meth c H locs cells slots 0 0 (F0 m pc ls (As.reverse ++ .ref (F 0) :: rest)) rest (crQ D (VG F cI cC) G rv G' (Value.ref (F 0) :: As).toArray) (wA (VG F cI cC G)) :=
    va_runV (As := As) (rest := rest) ⟨hx, hb, hml, hown, hts⟩ hM cw ⟨wr_blind ztr_b, va_recv hK hPc (ci := 9) (q0 := 0) rfl VG_0, fun U hU hW => ⟨rfl, by rw [hU]; exact hPc, va_K.moved hW.alike hK, wA_any hDc, trivial⟩⟩ rfl hn hsize rfl (lv_room hcat) hdg hf
  intro T9 hT X
  obtain ⟨v, st₀, t, T', L9, h0, X', hL, e1, e2, ⟨⟨hv, hB⟩, hz, hk⟩, st⟩ := hr T9 hT X
  cases hv
  rw [h0] at hz hk
  rw [← e1] at hB
  obtain ⟨j1, j2⟩ := wj (w2 := VL E F cI cC cJ cDD o od C G' f fd) hP hD [19, 20, 21, 22, 23, 24, 25, 26] [0, 1, 2, 3, 4, 5, 6, 7, 8, 9, 10, 11, 12, 13, 14, 15, 16, 17, 18, 27, 28] [0, 1, 2, 3, 4, 5, 6, 7, 8, 9, 10, 11, 12, 13, 14, 15, 16, 17, 18, 21, 22, 23, 24, 25, 26, 27, 28, 19, 20] hC hR (by decide) rfl rfl (fun q h1 h2 => by rw [e1]; exact hk q h1 h2) hB
  obtain ⟨t2, a1, b1⟩ := kk T'.heap (locs ++ L9) j1 j2
    ⟨Nat.le_trans hS.1 (by rw [e1]; exact hz), fun q h1 h2 => by rw [e1, hk q (Nat.lt_of_lt_of_le h1 hS.1) (fun z => h2 (wA_in hDc q z))]; exact hS.2.1 q h1 h2, fun q hq => by
      rcases List.mem_append.mp hq with h | h
      · exact hS.2.2 q h
      · exact wA_in hDc _ (hL q h)⟩ T' rfl X'
  exact ⟨t2, st t2 a1, b1⟩
theorem lw_gi {y : MethodName} {bytes : ByteArray} {maxL nA index fr lo : Nat} {ret : Option FieldType} {ws : List Cond} {As stk : List Value} {r : Int}
    (K : LC p l s m args c D cI cC cJ cDD T b L xs) (hM : Ci l y ws fr lo (.ref (F 0) :: As) D (TY cI cC) (VG F cI cC) ztr G r G') (cw : CallW R s args RL RX9 index y bytes maxL ret ws (zRm fr lo) 0 0 nA) (hP : va_P D vwCl (VL E F cI cC cJ cDD o od C G f fd) H) (hD : va_D (lA s) (VL E F cI cC cJ cDD o od C G f fd)) (hS : va_S (lA s) s.heap H locs)
    (hn : As.length = nA) (hsize : ls.size = 9) (hst : stk = As.reverse ++ .ref (F 0) :: rest) (hcat : (rest.map fun v => v.category).sum ≤ 8) (hdg : decode cL_law pc = .ok (.invokevirtual index, 3)) (hf : cells ≤ R.cells ∧ slots ≤ R.slots)
    (kk : ∀ (H1 : Heap) (locs1 : List Loc), va_P D vwCl (VL E F cI cC cJ cDD o od C G' f fd) H1 → va_D (lA s) (VL E F cI cC cJ cDD o od C G' f fd) → va_S (lA s) s.heap H1 locs1 → W p l e R s m args below meth c H1 locs1 cells slots Q (F0 m (pc + 3) ls (.int (iI r) :: rest))) : W p l e R s m args below meth c H locs cells slots Q (F0 m pc ls stk) := by
  subst hst
  obtain ⟨hx, hb, hml, hown, hts, -, -, hK0, -, -, -, -⟩ := K
  have hC : [19, 20, 21, 22, 23, 24, 25, 26].map (fun i => (VL E F cI cC cJ cDD o od C G f fd)[i]?) = (VG F cI cC G).map some := rfl
  have hR : [0, 1, 2, 3, 4, 5, 6, 7, 8, 9, 10, 11, 12, 13, 14, 15, 16, 17, 18, 27, 28].map (fun i => (VL E F cI cC cJ cDD o od C G f fd)[i]?) = (VC E cI cC C ++ [(o, .inl (cJ, 1, .inr (.inl f))), (od, .inl (cDD, 1, .inr (.inr (.inr (.inl fd)))))] : va_W).map some := rfl
  have hPc : va_P D vwCl (VG F cI cC G) H := hP.sub [19, 20, 21, 22, 23, 24, 25, 26] rfl
  have hDc : va_D (lA s) (VG F cI cC G) := hD.sub [19, 20, 21, 22, 23, 24, 25, 26] (by decide) rfl
  have hK : va_K D vwCl (TY cI cC) s := hK0.sub [0, 1] rfl
  have hin : ∀ q, wA (VG F cI cC G) q → lA s q := fun q h => wA_in hDc q h
  have hr : va_Run p l e R s m args below meth c H locs cells slots 0 0 (F0 m pc ls (As.reverse ++ .ref (F 0) :: rest)) rest (ciQ D (VG F cI cC) G r G' (Value.ref (F 0) :: As).toArray) (wA (VG F cI cC G)) :=
    va_runV (As := As) (rest := rest) ⟨hx, hb, hml, hown, hts⟩ hM cw ⟨wr_blind ztr_b, va_recv hK hPc (ci := 9) (q0 := 0) rfl VG_0, fun U hU hW => ⟨rfl, by rw [hU]; exact hPc, va_K.moved hW.alike hK, wA_any hDc, trivial⟩⟩ rfl hn hsize rfl (lv_room hcat) hdg hf
  refine va_calli (S := Unit) hr hS (fun q _ h => hin q h) hin (fun r' u t H1 locs1 ht hvm hp hB hz hk hS1 => ?_)
  rw [show r' = iI r from hp]
  rw [ht] at hB
  obtain ⟨j1, j2⟩ := wj (w2 := VL E F cI cC cJ cDD o od C G' f fd) hP hD [19, 20, 21, 22, 23, 24, 25, 26] [0, 1, 2, 3, 4, 5, 6, 7, 8, 9, 10, 11, 12, 13, 14, 15, 16, 17, 18, 27, 28] [0, 1, 2, 3, 4, 5, 6, 7, 8, 9, 10, 11, 12, 13, 14, 15, 16, 17, 18, 21, 22, 23, 24, 25, 26, 27, 28, 19, 20] hC hR (by decide) rfl rfl hk hB
  exact kk H1 locs1 j1 j2 hS1
theorem lw_ci {y : MethodName} {bytes : ByteArray} {maxL nA index fr lo : Nat} {ret : Option FieldType} {ws : List Cond} {As stk : List Value} {r : Int}
    (K : LC p l s m args c D cI cC cJ cDD T b L xs) (hM : Ci l y ws fr lo (.ref (E 0) :: As) D (TY cI cC) (VC E cI cC) ztr C r C') (cw : CallW R s args RL RX8 index y bytes maxL ret ws (zRm fr lo) 0 0 nA) (hP : va_P D vwCl (VL E F cI cC cJ cDD o od C G f fd) H) (hD : va_D (lA s) (VL E F cI cC cJ cDD o od C G f fd)) (hS : va_S (lA s) s.heap H locs)
    (hn : As.length = nA) (hsize : ls.size = 9) (hst : stk = As.reverse ++ .ref (E 0) :: rest) (hcat : (rest.map fun v => v.category).sum ≤ 8) (hdg : decode cL_law pc = .ok (.invokevirtual index, 3)) (hf : cells ≤ R.cells ∧ slots ≤ R.slots)
    (kk : ∀ (H1 : Heap) (locs1 : List Loc), va_P D vwCl (VL E F cI cC cJ cDD o od C' G f fd) H1 → va_D (lA s) (VL E F cI cC cJ cDD o od C' G f fd) → va_S (lA s) s.heap H1 locs1 → W p l e R s m args below meth c H1 locs1 cells slots Q (F0 m (pc + 3) ls (.int (iI r) :: rest))) : W p l e R s m args below meth c H locs cells slots Q (F0 m pc ls stk) := by
  subst hst
  obtain ⟨hx, hb, hml, hown, hts, -, -, hK0, -, -, -, -⟩ := K
  have hC : [0, 1, 2, 3, 4, 5, 6, 7, 8, 9, 10, 11, 12, 13, 14, 15, 16, 17, 18].map (fun i => (VL E F cI cC cJ cDD o od C G f fd)[i]?) = (VC E cI cC C).map some := rfl
  have hR : [19, 20, 21, 22, 23, 24, 25, 26, 27, 28].map (fun i => (VL E F cI cC cJ cDD o od C G f fd)[i]?) = (VG F cI cC G ++ [(o, .inl (cJ, 1, .inr (.inl f))), (od, .inl (cDD, 1, .inr (.inr (.inr (.inl fd)))))] : va_W).map some := rfl
  have hPc : va_P D vwCl (VC E cI cC C) H := hP.sub [0, 1, 2, 3, 4, 5, 6, 7, 8, 9, 10, 11, 12, 13, 14, 15, 16, 17, 18] rfl
  have hDc : va_D (lA s) (VC E cI cC C) := hD.sub [0, 1, 2, 3, 4, 5, 6, 7, 8, 9, 10, 11, 12, 13, 14, 15, 16, 17, 18] (by decide) rfl
  have hK : va_K D vwCl (TY cI cC) s := hK0.sub [0, 1] rfl
  have hin : ∀ q, wA (VC E cI cC C) q → lA s q := fun q h => wA_in hDc q h
  have hr : va_Run p l e R s m args below meth c H locs cells slots 0 0 (F0 m pc ls (As.reverse ++ .ref (E 0) :: rest)) rest (ciQ D (VC E cI cC) C r C' (Value.ref (E 0) :: As).toArray) (wA (VC E cI cC C)) :=
    va_runV (As := As) (rest := rest) ⟨hx, hb, hml, hown, hts⟩ hM cw ⟨wr_blind ztr_b, va_recv hK hPc (ci := 8) (q0 := 0) rfl VC_0, fun U hU hW => ⟨rfl, by rw [hU]; exact hPc, va_K.moved hW.alike hK, wA_any hDc, trivial⟩⟩ rfl hn hsize rfl (lv_room hcat) hdg hf
  refine va_calli (S := Unit) hr hS (fun q _ h => hin q h) hin (fun r' u t H1 locs1 ht hvm hp hB hz hk hS1 => ?_)
  rw [show r' = iI r from hp]
  rw [ht] at hB
  obtain ⟨j1, j2⟩ := wj (w2 := VL E F cI cC cJ cDD o od C' G f fd) hP hD [0, 1, 2, 3, 4, 5, 6, 7, 8, 9, 10, 11, 12, 13, 14, 15, 16, 17, 18] [19, 20, 21, 22, 23, 24, 25, 26, 27, 28] [10, 11, 12, 13, 14, 15, 16, 17, 18, 19, 20, 21, 22, 23, 24, 25, 26, 27, 28, 0, 1, 2, 3, 4, 5, 6, 7, 8, 9] hC hR (by decide) rfl rfl hk hB
  exact kk H1 locs1 j1 j2 hS1
/-- the end of a case: the model's number against the helper's, then the answers -/
theorem lw_tail {i : Int} {c0 s0 : Nat} {k w mr : Int} (K : LC p l s m args c D cI cC cJ cDD T b L xs) (hR : RelR C G) (hw : w = G 26 0) (hI : I32 w) (hr : w = 0 → f 0 = (iI mr).toInt64) (hP : va_P D vwCl (VL E F cI cC cJ cDD o od C G f fd) H) (hD : va_D (lA s) (VL E F cI cC cJ cDD o od C G f fd)) (hS : va_S (lA s) s.heap H locs) (hl : lv_has ls 9 [(7, .int (iI mr)), (6, .int (iI w)), (0, .ref b), (1, .ref (E 0)), (2, .ref (F 0)), (3, .ref o), (4, .ref od), (5, .int (iI i))])
    (hc : cells ≤ c0 + 2) (hs : slots ≤ s0 + 12) (hcr : cells ≤ room_1.cells ∧ slots ≤ room_1.slots) (kont : LK p l e s m args below meth c D cI cC cJ cDD E F o od b i Q c0 s0) {off : Int} (ho : (pc : Int) + 28 + off = 2530)
    (d0 : decode cL_law pc = .ok (.aload_n 2, 1)) (d1 : decode cL_law (pc + 1) = .ok (.invokevirtual 155, 3)) (d2 : decode cL_law (pc + 1 + 3) = .ok (.iload 6, 2)) (d3 : decode cL_law (pc + 1 + 3 + 2) = .ok (.if_icmp .eq 5, 3)) (d4 : decode cL_law (pc + 11) = .ok (.iload 6, 2)) (d5 : decode cL_law (pc + 11 + 2) = .ok (.ifCond .ne 15, 3)) (d6 : decode cL_law (pc + 11 + 2 + 3) = .ok (.aload_n 3, 1)) (d7 : decode cL_law (pc + 11 + 2 + 3 + 1) = .ok (.iconst 0, 1)) (d8 : decode cL_law (pc + 11 + 2 + 3 + 1 + 1) = .ok (.laload, 1)) (d9 : decode cL_law (pc + 11 + 2 + 3 + 1 + 1 + 1) = .ok (.iload 7, 2)) (d10 : decode cL_law (pc + 11 + 2 + 3 + 1 + 1 + 1 + 2) = .ok (.i2l, 1)) (d11 : decode cL_law (pc + 11 + 2 + 3 + 1 + 1 + 1 + 2 + 1) = .ok (.lcmp, 1)) (d12 : decode cL_law (pc + 11 + 2 + 3 + 1 + 1 + 1 + 2 + 1 + 1) = .ok (.ifCond .eq 5, 3)) (d13 : decode cL_law (pc + 28) = .ok (.goto off, 3)) :
    W p l e room_1 s m args below meth c H locs cells slots Q (F0 m pc ls []) := by
  have K0 := K
  obtain ⟨hx, hb, hml, hown, hts, -, -, hK, -, -, -, -⟩ := K
  have hend : W p l e room_1 s m args below meth c H locs cells slots Q (F0 m (pc + 28) ls []) := by
    refine lv_goto (tgt := 2530) hx hb d13 (by omega) ?_
    exact W.widen hc hs (kont C G f fd H locs ls hR hP hD hS (lv_sub hl [2, 3, 4, 5, 6, 7] rfl))
  refine lv_aload_n hx hb d0 rfl (lv_at hl 4 rfl) ?_
  refine lw_gi (As := []) K0 (kX9_thrown l D F cI cC ztr (fun _ => ztr_o) ztr_b G (G 26 0) rfl) (cwV 0 hts gL_law_X9_thrown rfl rfl rfl (by decide +kernel) ⟨Nat.le_of_ble_eq_true rfl, Nat.le_of_ble_eq_true rfl⟩) hP hD hS rfl hl.1 rfl (Nat.le_of_ble_eq_true rfl) d1 hcr (fun H1 locs1 hP1 hD1 hS1 => ?_)
  have hend1 : W p l e room_1 s m args below meth c H1 locs1 cells slots Q (F0 m (pc + 28) ls []) := by
    refine lv_goto (tgt := 2530) hx hb d13 (by omega) ?_
    exact W.widen hc hs (kont C G f fd H1 locs1 ls hR hP1 hD1 hS1 (lv_sub hl [2, 3, 4, 5, 6, 7] rfl))
  refine lv_iload hx hb d2 (lv_at hl 1 rfl) ?_
  refine lv_icmp_eq (tgt := pc + 11) hx hb d3 (by omega) (fun _ => ?_) (fun h => absurd (by rw [hw]) h)
  refine lv_iload hx hb d4 (lv_at hl 1 rfl) ?_
  refine z_if_ne (tgt := pc + 28) hx hb d5 (by omega) hI (fun _ => hend1) (fun h0 => ?_)
  refine lv_aload_n hx hb d6 rfl (lv_at hl 5 rfl) ?_
  refine lv_iconst (v := 0) hx hb d7 (by decide) ?_
  refine va_lald hx hb hK hP1 27 2 (n := 1) (f := f) rfl rfl vp0 d8 ?_
  refine lv_iload hx hb d9 (lv_at hl 0 rfl) ?_
  refine lv_i2l hx hb d10 rfl ?_
  refine W.lcmp hx hb d11 ?_
  refine lv_if_eq (tgt := pc + 28) hx hb d12 (by omega) (fun _ => hend1) (fun h => absurd ?_ h)
  rw [show f (0 : Int32).toNatClampNeg = f 0 from rfl, hr h0]
  simp [lg_cmp]
theorem lw_thr {w : Int} (K : LC p l s m args c D cI cC cJ cDD T b L xs) (hw : w = G 26 0) (hP : va_P D vwCl (VL E F cI cC cJ cDD o od C G f fd) H) (hD : va_D (lA s) (VL E F cI cC cJ cDD o od C G f fd)) (hS : va_S (lA s) s.heap H locs) (hsz : ls.size = 9) (l2 : ls[2]? = some (.val (.ref (F 0)))) (l6 : ls[6]? = some (.val (.int (iI w)))) (hcr : cells ≤ room_1.cells ∧ slots ≤ room_1.slots)
    (d0 : decode cL_law pc = .ok (.aload_n 2, 1)) (d1 : decode cL_law (pc + 1) = .ok (.invokevirtual 155, 3)) (d2 : decode cL_law (pc + 1 + 3) = .ok (.iload 6, 2)) (d3 : decode cL_law (pc + 1 + 3 + 2) = .ok (.if_icmp .eq 5, 3))
    (kk : ∀ (H1 : Heap) (locs1 : List Loc), va_P D vwCl (VL E F cI cC cJ cDD o od C G f fd) H1 → va_S (lA s) s.heap H1 locs1 → W p l e room_1 s m args below meth c H1 locs1 cells slots Q (F0 m (pc + 11) ls [])) : W p l e room_1 s m args below meth c H locs cells slots Q (F0 m pc ls []) := by
  have K0 := K
  obtain ⟨hx, hb, hml, hown, hts, -, -, hK, -, -, -, -⟩ := K
  refine lv_aload_n hx hb d0 rfl l2 ?_
  refine lw_gi (As := []) K0 (kX9_thrown l D F cI cC ztr (fun _ => ztr_o) ztr_b G (G 26 0) rfl) (cwV 0 hts gL_law_X9_thrown rfl rfl rfl (by decide +kernel) ⟨Nat.le_of_ble_eq_true rfl, Nat.le_of_ble_eq_true rfl⟩) hP hD hS rfl hsz rfl (Nat.le_of_ble_eq_true rfl) d1 hcr (fun H1 locs1 hP1 hD1 hS1 => ?_)
  refine lv_iload hx hb d2 l6 ?_
  exact lv_icmp_eq (tgt := pc + 11) hx hb d3 (by omega) (fun _ => kk H1 locs1 hP1 hS1) (fun h => absurd (by rw [hw]) h)
theorem lw_tailB {i : Int} {c0 s0 : Nat} {w mr : Int} (K : LC p l s m args c D cI cC cJ cDD T b L xs) (hR : RelR C G) (hw : w = G 26 0) (hI : I32 w) (hr : w = 0 → f 0 = if iI mr = 0 then 0 else 1) (hP : va_P D vwCl (VL E F cI cC cJ cDD o od C G f fd) H) (hD : va_D (lA s) (VL E F cI cC cJ cDD o od C G f fd)) (hS : va_S (lA s) s.heap H locs) (hl : lv_has ls 9 [(7, .int (iI mr)), (6, .int (iI w)), (0, .ref b), (1, .ref (E 0)), (2, .ref (F 0)), (3, .ref o), (4, .ref od), (5, .int (iI i))])
    (hc : cells ≤ c0 + 2) (hs : slots ≤ s0 + 12) (hcr : cells ≤ room_1.cells ∧ slots ≤ room_1.slots) (kont : LK p l e s m args below meth c D cI cC cJ cDD E F o od b i Q c0 s0) :
    W p l e room_1 s m args below meth c H locs cells slots Q (F0 m 1193 ls []) := by
  refine lw_thr K hw hP hD hS hl.1 (lv_at hl 4 rfl) (lv_at hl 1 rfl) hcr dL_law_1193 dL_law_1194 dL_law_1197 dL_law_1199 (fun H locs hP hS => ?_)
  obtain ⟨hx, hb, hml, hown, hts, -, -, hK, -, -, -, -⟩ := K
  have hend : W p l e room_1 s m args below meth c H locs cells slots Q (F0 m 1228 ls []) := by
    refine lv_goto (tgt := 2530) hx hb dL_law_1228 (by decide) ?_
    exact W.widen hc hs (kont C G f fd H locs ls hR hP hD hS (lv_sub hl [2, 3, 4, 5, 6, 7] rfl))
  refine lv_iload hx hb dL_law_1204 (lv_at hl 1 rfl) ?_
  refine z_if_ne (tgt := 1228) hx hb dL_law_1206 (by decide) hI (fun _ => hend) (fun h0 => ?_)
  refine lv_aload_n hx hb dL_law_1209 rfl (lv_at hl 5 rfl) ?_
  refine lv_iconst (v := 0) hx hb dL_law_1210 (by decide) ?_
  refine va_lald hx hb hK hP 27 2 (n := 1) (f := f) rfl rfl vp0 dL_law_1211 ?_
  rw [show f (0 : Int32).toNatClampNeg = f 0 from rfl, hr h0]
  refine lv_iload hx hb dL_law_1212 (lv_at hl 0 rfl) ?_
  refine lv_if_eq (tgt := 1221) hx hb dL_law_1214 (by decide) (fun hz => ?_) (fun hz => ?_)
  · rw [if_pos hz]
    refine lv_lconst (v := 0) hx hb dL_law_1221 (by decide) ?_
    refine W.lcmp hx hb dL_law_1222 ?_
    exact lv_if_eq (tgt := 1228) hx hb dL_law_1223 (by decide) (fun _ => hend) (fun h => absurd (by simp [lg_cmp]) h)
  · rw [if_neg hz]
    refine lv_lconst (v := 1) hx hb dL_law_1217 (by decide) ?_
    refine lv_goto (tgt := 1222) hx hb dL_law_1218 (by decide) ?_
    refine W.lcmp hx hb dL_law_1222 ?_
    exact lv_if_eq (tgt := 1228) hx hb dL_law_1223 (by decide) (fun _ => hend) (fun h => absurd (by simp [lg_cmp]) h)
theorem lw_tailM {i : Int} {c0 s0 : Nat} {w : Int} {x mr : UInt64} (K : LC p l s m args c D cI cC cJ cDD T b L xs) (hR : RelR C G) (hw : w = G 26 0) (hI : I32 w) (hr : w = 0 → fd 0 = x) (hm : w = 0 → x = mr) (hP : va_P D vwCl (VL E F cI cC cJ cDD o od C G f fd) H) (hD : va_D (lA s) (VL E F cI cC cJ cDD o od C G f fd)) (hS : va_S (lA s) s.heap H locs) (hl : lv_has ls 9 [(7, .double mr), (6, .int (iI w)), (0, .ref b), (1, .ref (E 0)), (2, .ref (F 0)), (3, .ref o), (4, .ref od), (5, .int (iI i))])
    (hc : cells ≤ c0 + 2) (hs : slots ≤ s0 + 12) (hcr : cells ≤ room_1.cells ∧ slots ≤ room_1.slots) (kont : LK p l e s m args below meth c D cI cC cJ cDD E F o od b i Q c0 s0) :
    W p l e room_1 s m args below meth c H locs cells slots Q (F0 m 2312 ls []) := by
  refine lw_thr K hw hP hD hS hl.1 (lv_at hl 4 rfl) (lv_at hl 1 rfl) hcr dL_law_2312 dL_law_2313 dL_law_2316 dL_law_2318 (fun H locs hP hS => ?_)
  obtain ⟨hx, hb, hml, hown, hts, -, -, hK, -, -, -, -⟩ := K
  have hend : W p l e room_1 s m args below meth c H locs cells slots Q (F0 m 2360 ls []) := by
    refine lv_goto (tgt := 2530) hx hb dL_law_2360 (by decide) ?_
    exact W.widen hc hs (kont C G f fd H locs ls hR hP hD hS (lv_sub hl [2, 3, 4, 5, 6, 7] rfl))
  refine lv_iload hx hb dL_law_2323 (lv_at hl 1 rfl) ?_
  refine z_if_ne (tgt := 2360) hx hb dL_law_2325 (by decide) hI (fun _ => hend) (fun h0 => ?_)
  refine lv_aload hx hb dL_law_2328 (lv_at hl 6 rfl) ?_
  refine lv_iconst (v := 0) hx hb dL_law_2330 (by decide) ?_
  refine va_dald hx hb hK hP 28 3 (n := 1) (f := fd) rfl rfl vp0 dL_law_2331 ?_
  rw [show fd (0 : Int32).toNatClampNeg = fd 0 from rfl, hr h0, hm h0]
  refine lv_dload hx hb dL_law_2332 (lv_at hl 0 rfl) ?_
  refine lv_dcmp hx hb dL_law_2334 ?_
  refine lv_if_eq (tgt := 2360) hx hb dL_law_2335 (by decide) (fun _ => hend) (fun hz => ?_)
  refine lv_aload hx hb dL_law_2338 (lv_at hl 6 rfl) ?_
  refine lv_iconst (v := 0) hx hb dL_law_2340 (by decide) ?_
  refine va_dald hx hb hK hP 28 3 (n := 1) (f := fd) rfl rfl vp0 dL_law_2341 ?_
  refine lv_aload hx hb dL_law_2342 (lv_at hl 6 rfl) ?_
  refine lv_iconst (v := 0) hx hb dL_law_2344 (by decide) ?_
  refine va_dald hx hb hK hP 28 3 (n := 1) (f := fd) rfl rfl vp0 dL_law_2345 ?_
  rw [show fd (0 : Int32).toNatClampNeg = fd 0 from rfl, hr h0, hm h0]
  refine lv_dcmp hx hb dL_law_2346 ?_
  refine lv_if_eq (tgt := 2358) hx hb dL_law_2347 (by decide) (fun h => absurd h hz) (fun _ => ?_)
  refine lv_dload hx hb dL_law_2350 (lv_at hl 0 rfl) ?_
  refine lv_dload hx hb dL_law_2352 (lv_at hl 0 rfl) ?_
  refine lv_dcmp hx hb dL_law_2354 ?_
  exact lv_if_ne (tgt := 2360) hx hb dL_law_2355 (by decide) (fun _ => hend) (fun h => absurd h hz)
theorem lw_tailS {i : Int} {c0 s0 : Nat} {w : Int} {x mr : UInt32} (K : LC p l s m args c D cI cC cJ cDD T b L xs) (hR : RelR C G) (hw : w = G 26 0) (hI : I32 w) (hr : w = 0 → fd 0 = FP.f2d x) (hm : w = 0 → x = mr) (hv : w = 0 → vf_n64 (FP.f2d x) ∧ Op.cmpValue (FP.dcmp (FP.f2d x) (FP.f2d x)) .l = 0) (hP : va_P D vwCl (VL E F cI cC cJ cDD o od C G f fd) H) (hD : va_D (lA s) (VL E F cI cC cJ cDD o od C G f fd)) (hS : va_S (lA s) s.heap H locs) (hl : lv_has ls 9 [(7, .float mr), (6, .int (iI w)), (0, .ref b), (1, .ref (E 0)), (2, .ref (F 0)), (3, .ref o), (4, .ref od), (5, .int (iI i))])
    (hc : cells ≤ c0 + 2) (hs : slots ≤ s0 + 12) (hcr : cells ≤ room_1.cells ∧ slots ≤ room_1.slots) (kont : LK p l e s m args below meth c D cI cC cJ cDD E F o od b i Q c0 s0) :
    W p l e room_1 s m args below meth c H locs cells slots Q (F0 m 2377 ls []) := by
  refine lw_thr K hw hP hD hS hl.1 (lv_at hl 4 rfl) (lv_at hl 1 rfl) hcr dL_law_2377 dL_law_2378 dL_law_2381 dL_law_2383 (fun H locs hP hS => ?_)
  obtain ⟨hx, hb, hml, hown, hts, -, -, hK, -, -, -, -⟩ := K
  have hend : W p l e room_1 s m args below meth c H locs cells slots Q (F0 m 2426 ls []) := by
    refine lv_goto (tgt := 2530) hx hb dL_law_2426 (by decide) ?_
    exact W.widen hc hs (kont C G f fd H locs ls hR hP hD hS (lv_sub hl [2, 3, 4, 5, 6, 7] rfl))
  refine lv_iload hx hb dL_law_2388 (lv_at hl 1 rfl) ?_
  refine z_if_ne (tgt := 2426) hx hb dL_law_2390 (by decide) hI (fun _ => hend) (fun h0 => ?_)
  obtain ⟨v1, v2⟩ := hv h0
  rw [hm h0] at v1 v2
  refine lv_aload hx hb dL_law_2393 (lv_at hl 6 rfl) ?_
  refine lv_iconst (v := 0) hx hb dL_law_2395 (by decide) ?_
  refine va_dald hx hb hK hP 28 3 (n := 1) (f := fd) rfl rfl vp0 dL_law_2396 ?_
  rw [show fd (0 : Int32).toNatClampNeg = fd 0 from rfl, hr h0, hm h0]
  refine lv_fload hx hb dL_law_2397 (lv_at hl 0 rfl) ?_
  refine lv_f2d hx hb dL_law_2399 v1 ?_
  refine lv_dcmp hx hb dL_law_2400 ?_
  exact lv_if_eq (tgt := 2426) hx hb dL_law_2401 (by decide) (fun _ => hend) (fun hz => absurd v2 hz)
end
