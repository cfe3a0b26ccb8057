/-! ROWS OVER WHOLE NUMBERS, continued: arraycopy, Math.min and max, shifts and bits, chars, static tables. -/
def cpI (σ τ : Int → Int) (sp dp n : Int) : Int → Int := fun z => if dp ≤ z ∧ z < dp + n then σ (sp + (z - dp)) else τ z
def mcp (M : Mem) (k0 : Nat) (sp : Int) (k1 : Nat) (dp n : Int) : Mem := fun k => cond (Nat.beq k k1) (cpI (M k0) (M k1) sp dp n) (M k)
def zmin (a b : Int) : Int := if b < a then b else a
def zmax (a b : Int) : Int := if a < b then b else a
def zshl (a b : Int) : Int := (iI a <<< (iI b &&& 31)).toInt
def zshr (a b : Int) : Int := (iI a >>> (iI b &&& 31)).toInt
def zand (a b : Int) : Int := (iI a &&& iI b).toInt
def zor (a b : Int) : Int := (iI a ||| iI b).toInt
def zush (a b : Int) : Int := ((iI a).toUInt32 >>> ((iI b).toUInt32 &&& Int32.toUInt32 31)).toInt32.toInt
theorem zush_I (a b : Int) : I32 (zush a b) := I32_x _
theorem zmin_r (a b : Int) : zmin a b ≤ a ∧ zmin a b ≤ b ∧ (zmin a b = a ∨ zmin a b = b) := by unfold zmin; split <;> omega
theorem zmax_r (a b : Int) : a ≤ zmax a b ∧ b ≤ zmax a b ∧ (zmax a b = a ∨ zmax a b = b) := by unfold zmax; split <;> omega
theorem tb_r {L : List Int} {lo hi : Int} (h0 : lo ≤ 0 ∧ 0 ≤ hi) (h : ∀ x ∈ L, lo ≤ x ∧ x ≤ hi) (k : Nat) : lo ≤ L.getD k 0 ∧ L.getD k 0 ≤ hi := by
  rw [List.getD_eq_getElem?_getD]
  cases e : L[k]? with
  | none => exact h0
  | some x => exact h x (List.mem_of_getElem? e)
theorem swm_r (z : Int) : 0 ≤ swm z ∧ swm z ≤ 8 := tb_r (by decide) (by decide) _
theorem crs_r (z : Int) : 0 ≤ crs z ∧ crs z ≤ 3 := tb_r (by decide) (by decide) _
theorem sml_r (z : Int) : 0 ≤ sml z ∧ sml z ≤ 127 := tb_r (by decide) (by decide) _
theorem bgl_r (z : Int) : 0 ≤ bgl z ∧ bgl z ≤ 127 := tb_r (by decide) (by decide) _
theorem fln_r (z : Int) : 0 ≤ fln z ∧ fln z ≤ 9 := tb_r (by decide) (by decide) _
theorem fln_N {N : Nat} {z : Int} (h : (N : Int) = fln z) : N < 2147483648 := by have := fln_r z; omega
theorem zand255 (a : Int) : 0 ≤ zand a 255 ∧ zand a 255 ≤ 255 := by
  unfold zand
  have h : (iI a &&& iI 255).toInt = ((iI a &&& iI 255).toBitVec.toNat : Int) ∧ (iI a &&& iI 255).toBitVec.toNat ≤ 255 := by
    have e : (iI a &&& iI 255).toBitVec = (iI a).toBitVec &&& 255#32 := rfl
    have hle : (iI a &&& iI 255).toBitVec.toNat ≤ 255 := by
      rw [e, BitVec.toNat_and]
      exact Nat.and_le_right
    refine ⟨?_, hle⟩
    show (iI a &&& iI 255).toBitVec.toInt = _
    rw [BitVec.toInt_eq_toNat_cond, if_pos (by omega)]
  omega
theorem nr_y0 : narrow .byte (.int (iI 0)) = .int (iI 0) := by decide +kernel
theorem zshl_I (a b : Int) : I32 (zshl a b) := I32_x _
theorem zshr_I (a b : Int) : I32 (zshr a b) := I32_x _
theorem zand_I (a b : Int) : I32 (zand a b) := I32_x _
theorem zor_I (a b : Int) : I32 (zor a b) := I32_x _
def zchr (a : Int) : Int := ((iI a).toUInt32 % 65536).toInt32.toInt
theorem cpI_e {σ τ : Int → Int} {sp dp n : Int} (h1 : 0 ≤ sp) (h2 : 0 ≤ dp) (h3 : 0 ≤ n) : va_cpy (aI σ) (aI τ) sp.toNat dp.toNat n.toNat = aI (cpI σ τ sp dp n) := by
  funext k
  unfold va_cpy aI cpI
  by_cases h : dp ≤ (k : Int) ∧ (k : Int) < dp + n
  · rw [if_pos h, if_pos (by omega)]
    congr 2
    omega
  · rw [if_neg h, if_neg (by omega)]
section
variable {p : Program} {l : Launch} {e : Env} {R : Room} {s : State} {m : MethodId} {args : Array Value} {below : List Frame} {meth : Method} {c : Code} {H : Heap} {locs : List Loc} {cells slots : Nat} {Q : State → Prop}
variable {cc : ByteArray} {pc : Nat} {ls : Array Slot} {rest : List Value}
theorem z_ishl (hx : p.tables.exec = Jvm.exec) (hb : c.code = cc) {a b : Int} (hdg : decode cc pc = .ok (.ishl, 1)) (k : W p l e R s m args below meth c H locs cells slots Q (F0 m (pc + 1) ls (.int (iI (zshl a b)) :: rest))) : W p l e R s m args below meth c H locs cells slots Q (F0 m pc ls (.int (iI b) :: .int (iI a) :: rest)) :=
  lv_ishl hx hb hdg (by unfold zshl at k; rw [iI_x] at k; exact k)
theorem z_ishr (hx : p.tables.exec = Jvm.exec) (hb : c.code = cc) {a b : Int} (hdg : decode cc pc = .ok (.ishr, 1)) (k : W p l e R s m args below meth c H locs cells slots Q (F0 m (pc + 1) ls (.int (iI (zshr a b)) :: rest))) : W p l e R s m args below meth c H locs cells slots Q (F0 m pc ls (.int (iI b) :: .int (iI a) :: rest)) :=
  lv_ishr hx hb hdg (by unfold zshr at k; rw [iI_x] at k; exact k)
theorem z_iand (hx : p.tables.exec = Jvm.exec) (hb : c.code = cc) {a b : Int} (hdg : decode cc pc = .ok (.iand, 1)) (k : W p l e R s m args below meth c H locs cells slots Q (F0 m (pc + 1) ls (.int (iI (zand a b)) :: rest))) : W p l e R s m args below meth c H locs cells slots Q (F0 m pc ls (.int (iI b) :: .int (iI a) :: rest)) :=
  lv_iand hx hb hdg (by unfold zand at k; rw [iI_x] at k; exact k)
theorem z_ior (hx : p.tables.exec = Jvm.exec) (hb : c.code = cc) {a b : Int} (hdg : decode cc pc = .ok (.ior, 1)) (k : W p l e R s m args below meth c H locs cells slots Q (F0 m (pc + 1) ls (.int (iI (zor a b)) :: rest))) : W p l e R s m args below meth c H locs cells slots Q (F0 m pc ls (.int (iI b) :: .int (iI a) :: rest)) :=
  lv_ior hx hb hdg (by unfold zor at k; rw [iI_x] at k; exact k)
theorem z_i2c (hx : p.tables.exec = Jvm.exec) (hb : c.code = cc) {a : Int} (hdg : decode cc pc = .ok (.i2c, 1)) (h0 : 0 ≤ a) (h1 : a < 65536) (k : W p l e R s m args below meth c H locs cells slots Q (F0 m (pc + 1) ls (.int (iI a) :: rest))) : W p l e R s m args below meth c H locs cells slots Q (F0 m pc ls (.int (iI a) :: rest)) := by
  refine lv_i2c hx hb hdg (v := iI a) ?_ k
  obtain ⟨n, rfl⟩ := Int.eq_ofNat_of_zero_le h0
  rw [pk_char, ← iI_nI]
  show nI (n % 2 ^ 32 % 65536) = nI n
  congr 1
  omega
theorem z_iushr (hx : p.tables.exec = Jvm.exec) (hb : c.code = cc) {a b : Int} (hdg : decode cc pc = .ok (.iushr, 1)) (k : W p l e R s m args below meth c H locs cells slots Q (F0 m (pc + 1) ls (.int (iI (zush a b)) :: rest))) : W p l e R s m args below meth c H locs cells slots Q (F0 m pc ls (.int (iI b) :: .int (iI a) :: rest)) :=
  lv_iushr hx hb hdg (iI_x _).symm k
theorem z_ldc (hx : p.tables.exec = Jvm.exec) (hb : c.code = cc) {own : String} {index : Nat} {v : Int32} {n : Int} (hown : s.vm.findClass own = some m.cls) (hconst : (Jvm.Cond.constant own index v).before args s = true) (hv : v = iI n) (hdg : decode cc pc = .ok (.ldc index, 2)) (k : W p l e R s m args below meth c H locs cells slots Q (F0 m (pc + 2) ls (.int (iI n) :: rest))) : W p l e R s m args below meth c H locs cells slots Q (F0 m pc ls rest) :=
  lv_ldc hx hb hown hconst hdg (by rw [hv]; exact k)
theorem z_ldc_w (hx : p.tables.exec = Jvm.exec) (hb : c.code = cc) {own : String} {index : Nat} {v : Int32} {n : Int} (hown : s.vm.findClass own = some m.cls) (hconst : (Jvm.Cond.constant own index v).before args s = true) (hv : v = iI n) (hdg : decode cc pc = .ok (.ldc_w index, 3)) (k : W p l e R s m args below meth c H locs cells slots Q (F0 m (pc + 3) ls (.int (iI n) :: rest))) : W p l e R s m args below meth c H locs cells slots Q (F0 m pc ls rest) :=
  lv_ldcw hx hb hown hconst hdg (by rw [hv]; exact k)
theorem z_mmin (hx : p.tables.exec = Jvm.exec) (hb : c.code = cc) (hml : c.maxLocals = ls.size) {own : String} {index : Nat} (hown : s.vm.findClass own = some m.cls) (hlink : (Cond.methodLink own index Lib.Math.min.name).before args s = true) (hstat : (Cond.static Lib.Math.min.name).before args s = true) (hini : (Cond.initialized "java/lang/Math").before args s = true) (hcode : (Cond.code Lib.Math.min.name Lib.Math.min.code 2 (some .int)).before args s = true)
    (hframes : 1 ≤ R.frames) (hlocals : (rest.map fun v => v.category).sum + 13 ≤ R.locals) (hc : cells ≤ R.cells) (hs : slots ≤ R.slots) {a b : Int} (ha : I32 a) (hb2 : I32 b) (hdg : decode cc pc = .ok (.invokestatic index, 3))
    (k : W p l e R s m args below meth c H locs cells slots Q (F0 m (pc + 3) ls (.int (iI (zmin a b)) :: rest))) : W p l e R s m args below meth c H locs cells slots Q (F0 m pc ls (.int (iI b) :: .int (iI a) :: rest)) := by
  refine va_mmin hx hb hml hown hlink hstat hini hcode hframes hlocals hc hs hdg ?_
  have e : (if iI b < iI a then iI b else iI a) = iI (zmin a b) := by
    unfold zmin
    by_cases h : b < a
    · rw [if_pos h, if_pos ((iI_lt hb2 ha).mpr h)]
    · rw [if_neg h, if_neg (fun q => h ((iI_lt hb2 ha).mp q))]
  rw [e]
  exact k
theorem z_mmax (hx : p.tables.exec = Jvm.exec) (hb : c.code = cc) (hml : c.maxLocals = ls.size) {own : String} {index : Nat} (hown : s.vm.findClass own = some m.cls) (hlink : (Cond.methodLink own index Lib.Math.max.name).before args s = true) (hstat : (Cond.static Lib.Math.max.name).before args s = true) (hini : (Cond.initialized "java/lang/Math").before args s = true) (hcode : (Cond.code Lib.Math.max.name Lib.Math.max.code 2 (some .int)).before args s = true)
    (hframes : 1 ≤ R.frames) (hlocals : (rest.map fun v => v.category).sum + 13 ≤ R.locals) (hc : cells ≤ R.cells) (hs : slots ≤ R.slots) {a b : Int} (ha : I32 a) (hb2 : I32 b) (hdg : decode cc pc = .ok (.invokestatic index, 3))
    (k : W p l e R s m args below meth c H locs cells slots Q (F0 m (pc + 3) ls (.int (iI (zmax a b)) :: rest))) : W p l e R s m args below meth c H locs cells slots Q (F0 m pc ls (.int (iI b) :: .int (iI a) :: rest)) := by
  refine va_mmax hx hb hml hown hlink hstat hini hcode hframes hlocals hc hs hdg ?_
  have e : (if iI a < iI b then iI b else iI a) = iI (zmax a b) := by
    unfold zmax
    by_cases h : a < b
    · rw [if_pos h, if_pos ((iI_lt ha hb2).mpr h)]
    · rw [if_neg h, if_neg (fun q => h ((iI_lt ha hb2).mp q))]
  rw [e]
  exact k
section
variable {D : va_G} {cl : List vw_C} {ws : va_W} {tys : List (ClassId × FieldType)} {a : Nat} {A : Nat → Prop} {H0 : Heap}
theorem z_copyi (hx : p.tables.exec = Jvm.exec) (hb : c.code = cc) (hml : c.maxLocals = ls.size) {own : String} {index : Nat} (hown : s.vm.findClass own = some m.cls) (hlink : (Cond.methodLink own index arraycopyName).before args s = true) (hnat : (Cond.native arraycopyName).before args s = true) (hstat : (Cond.static arraycopyName).before args s = true) (hini : (Cond.initialized "java/lang/System").before args s = true)
    (hK : va_K D cl tys s) (hP : va_P D cl ws H) (hD : va_D A ws) (hS : va_S A H0 H locs) (q0 q1 t0 : Nat) {a0 : Nat} {c0 : ClassId} {n0 n1 : Nat} {σ τ : Int → Int} {ws' : va_W} (ha0 : ws[q0]? = some (a0, .inl (c0, n0, .inl (aI σ)))) (ha1 : ws[q1]? = some (a, .inl (c0, n1, .inl (aI τ)))) (ht0 : tys[t0]? = some (c0, .int))
    {sp dp n : Int} (h1 : 0 ≤ sp) (h2 : 0 ≤ dp) (h3 : 0 ≤ n) (h4 : sp + n ≤ n0) (h5 : dp + n ≤ n1) (hn0 : n0 < 2147483648) (hn1 : n1 < 2147483648)
    (hframes : 1 ≤ R.frames) (hlocals : (rest.map fun v => v.category).sum + 18 ≤ R.locals) (hdg : decode cc pc = .ok (.invokestatic index, 3))
    (hw : ws.set q1 (a, .inl (c0, n1, .inl (aI (cpI σ τ sp dp n)))) = ws')
    (kk : ∀ (H1 : Heap) (locs1 : List Loc), va_P D cl ws' H1 → va_D A ws' → va_S A H0 H1 locs1 → W p l e R s m args below meth c H1 locs1 cells slots Q (F0 m (pc + 3) ls rest)) : W p l e R s m args below meth c H locs cells slots Q (F0 m pc ls (.int (iI n) :: .int (iI dp) :: .ref a :: .int (iI sp) :: .ref a0 :: rest)) := by
  have i1 : I32 sp := ⟨by omega, by omega⟩
  have i2 : I32 dp := ⟨by omega, by omega⟩
  have i3 : I32 n := ⟨by omega, by omega⟩
  have ng : ∀ {z : Int}, 0 ≤ z → I32 z → ¬ iI z < 0 := fun {z} h0 hz q => by have := (iI_lt (b := 0) hz (by decide)).mp q; omega
  refine va_copyi hx hb hml hown hlink hnat hstat hini hK hP hD hS q0 q1 t0 t0 ha0 ha1 ht0 ht0 rfl (ng h1 i1) (ng h2 i2) (ng h3 i3) (by rw [iI_cl i1, iI_cl i3]; omega) (by rw [iI_cl i2, iI_cl i3]; omega) (fun _ _ => rfl) hframes hlocals hdg (fun H1 locs1 p1 d1 s1 => ?_)
  rw [iI_cl i1, iI_cl i2, iI_cl i3, cpI_e h1 h2 h3, hw] at p1 d1
  exact kk H1 locs1 p1 d1 s1
/-- static tables of numbers -/
theorem z_ti (hx : p.tables.exec = Jvm.exec) (hb : c.code = cc) {t N : Nat} {f : Int → Int} (hT : va_T .int t N (fun j => .int (iI (f j))) A s s.heap) (hS : va_S A s.heap H locs) {z : Int} (h0 : 0 ≤ z) (h1 : z < N) (hN : N < 2147483648) (hdg : decode cc pc = .ok (.iaload, 1))
    (kk : W p l e R s m args below meth c H locs cells slots Q (F0 m (pc + 1) ls (.int (iI (f z)) :: rest))) : W p l e R s m args below meth c H locs cells slots Q (F0 m pc ls (.int (iI z) :: .ref t :: rest)) :=
  va_ti hx hb hT hS (iI_in h0 h1 hN) (v := .int (iI (f z))) (by rw [iI_cl ⟨by omega, by omega⟩, Int.toNat_of_nonneg h0]) hdg kk
theorem z_tc (hx : p.tables.exec = Jvm.exec) (hb : c.code = cc) {t N : Nat} {f : Int → Int} (hT : va_T .char t N (fun j => .int (iI (f j))) A s s.heap) (hS : va_S A s.heap H locs) {z : Int} (h0 : 0 ≤ z) (h1 : z < N) (hN : N < 2147483648) (hdg : decode cc pc = .ok (.caload, 1))
    (kk : W p l e R s m args below meth c H locs cells slots Q (F0 m (pc + 1) ls (.int (iI (f z)) :: rest))) : W p l e R s m args below meth c H locs cells slots Q (F0 m pc ls (.int (iI z) :: .ref t :: rest)) :=
  va_tc hx hb hT hS (iI_in h0 h1 hN) (v := .int (iI (f z))) (by rw [iI_cl ⟨by omega, by omega⟩, Int.toNat_of_nonneg h0]) hdg kk
theorem z_tb (hx : p.tables.exec = Jvm.exec) (hb : c.code = cc) {t N : Nat} {f : Int → Int} (hT : va_T .byte t N (fun j => .int (iI (f j))) A s s.heap) (hS : va_S A s.heap H locs) {z : Int} (h0 : 0 ≤ z) (h1 : z < N) (hN : N < 2147483648) (hdg : decode cc pc = .ok (.baload, 1))
    (kk : W p l e R s m args below meth c H locs cells slots Q (F0 m (pc + 1) ls (.int (iI (f z)) :: rest))) : W p l e R s m args below meth c H locs cells slots Q (F0 m pc ls (.int (iI z) :: .ref t :: rest)) :=
  va_tb hx hb hT hS (iI_in h0 h1 hN) (v := .int (iI (f z))) (by rw [iI_cl ⟨by omega, by omega⟩, Int.toNat_of_nonneg h0]) hdg kk
theorem z_tlen (hx : p.tables.exec = Jvm.exec) (hb : c.code = cc) {t N : Nat} {ty : FieldType} {f : Nat → Value} (hT : va_T ty t N f A s s.heap) (hS : va_S A s.heap H locs) {v : Int} (hv : (N : Int) = v) (hdg : decode cc pc = .ok (.arraylength, 1))
    (kk : W p l e R s m args below meth c H locs cells slots Q (F0 m (pc + 1) ls (.int (iI v) :: rest))) : W p l e R s m args below meth c H locs cells slots Q (F0 m pc ls (.ref t :: rest)) := by
  subst hv
  exact va_tlen hx hb hT hS (v := iI (N : Int)) (by rw [← iI_nI]; rfl) hdg kk
end
end
/-- contracts with any answer rv -/
def crQ (D : va_G) (V : Mem → va_W) (M : Mem) (rv : Value) (M' : Mem) : Array Value → State → Outcome → State → Prop := fun _ st oc t => (oc = .returned (some rv) ∧ va_P D vwCl (V M') t.heap) ∧ va_F (wA (V M)) st t
def Cr (l : Launch) (y : MethodName) (ws : List Cond) (fr lo : Nat) (As : List Value) (D : va_G) (tys : List (ClassId × FieldType)) (V : Mem → va_W) (Z : State → Prop) (M : Mem) (rv : Value) (M' : Mem) : Prop :=
  Met l y ws (zRm fr lo) (wPre As D tys (V M) Z) (crQ D V M rv M') 0 0 (wA (V M))
/-- a command, or null -/
def zq (T : Nat → Nat) (z : Int) : Value := if z < 0 then .null else .ref (T z.toNat)
theorem zq_n {T : Nat → Nat} {z : Int} (h : z < 0) : zq T z = .null := if_pos h
theorem zq_c {T : Nat → Nat} {z : Int} (h : ¬ z < 0) : zq T z = .ref (T z.toNat) := if_neg h
section
variable {p : Program} {l : Launch} {e : Env} {R : Room} {s : State} {m : MethodId} {args : Array Value} {below : List Frame} {meth : Method} {c : Code} {H : Heap} {locs : List Loc} {cells slots : Nat} {Q : State → Prop}
variable {cc : ByteArray} {pc : Nat} {ls : Array Slot} {rest : List Value}
variable {D : va_G} {tys tys' : List (ClassId × FieldType)} {A : Nat → Prop} {H0 : Heap}
theorem ct_run {V : Mem → va_W} {M M' : Mem} {rv : Value} {st0 : List Value} {a : Array Value} {A0 : Nat → Prop} (hr : va_Run p l e R s m args below meth c H locs cells slots 0 0 (F0 m pc ls st0) rest (crQ D V M rv M' a) (wA (V M))) (hS : va_S A0 H0 H locs) (hA : ∀ q, wA (V M) q → A0 q)
    (kk : ∀ (H1 : Heap) (locs1 : List Loc), va_P D vwCl (V M') H1 → va_S A0 H0 H1 locs1 → W p l e R s m args below meth c H1 locs1 cells slots Q (F0 m (pc + 3) ls (rv :: rest))) : W p l e R s m args below meth c H locs cells slots Q (F0 m pc ls st0) := by
  intro T hT X
  obtain ⟨v, st₀, t, T', L, h0, X', hL, e1, e2, ⟨⟨hv, hb⟩, hz, hk⟩, st⟩ := hr T hT X
  cases hv
  rw [h0] at hz hk
  rw [← e1] at hb
  obtain ⟨t2, a1, b1⟩ := kk T'.heap (locs ++ L) hb
    ⟨Nat.le_trans hS.1 (by rw [e1]; exact hz), fun q h1 h2 => by rw [e1, hk q (Nat.lt_of_lt_of_le h1 hS.1) (fun z => h2 (hA q z))]; exact hS.2.1 q h1 h2, fun q hq => by
      rcases List.mem_append.mp hq with h | h
      · exact hS.2.2 q h
      · exact hA _ (hL q h)⟩ T' rfl X'
  exact ⟨t2, st t2 a1, b1⟩
theorem z_alenN (hx : p.tables.exec = Jvm.exec) (hb : c.code = cc) {cl : List vw_C} {ws : va_W} {a : Nat} (hK : va_K D cl tys s) (hP : va_P D cl ws H) (q0 t0 : Nat) {cA : ClassId} {n : Nat} {x : (Nat → Int32) ⊕ ((Nat → Int64) ⊕ ((Nat → UInt32) ⊕ ((Nat → UInt64) ⊕ (Nat → Option Nat))))} (ha : ws[q0]? = some (a, .inl (cA, n, x))) {ty : FieldType} (ht : tys[t0]? = some (cA, ty)) {v : Int} (hv : (n : Int) = v) (hdg : decode cc pc = .ok (.arraylength, 1))
    (kk : W p l e R s m args below meth c H locs cells slots Q (F0 m (pc + 1) ls (.int (iI v) :: rest))) : W p l e R s m args below meth c H locs cells slots Q (F0 m pc ls (.ref a :: rest)) := by subst hv; exact z_alen hx hb hK hP q0 t0 ha ht hdg kk
theorem z_aload_nq (hx : p.tables.exec = Jvm.exec) (hb : c.code = cc) {k : Fin 4} {i : Nat} {T : Nat → Nat} {z : Int} (hdg : decode cc pc = .ok (.aload_n k, 1)) (hi : (k : Nat) = i) (hl : ls[i]? = some (.val (zq T z))) (kk : W p l e R s m args below meth c H locs cells slots Q (F0 m (pc + 1) ls (zq T z :: rest))) : W p l e R s m args below meth c H locs cells slots Q (F0 m pc ls rest) := by
  by_cases h : z < 0
  · rw [zq_n h] at hl kk; exact lv_aload_nN hx hb hdg hi hl kk
  · rw [zq_c h] at hl kk; exact lv_aload_n hx hb hdg hi hl kk
theorem z_aloadq (hx : p.tables.exec = Jvm.exec) (hb : c.code = cc) {i : Nat} {T : Nat → Nat} {z : Int} (hdg : decode cc pc = .ok (.aload i, 2)) (hl : ls[i]? = some (.val (zq T z))) (kk : W p l e R s m args below meth c H locs cells slots Q (F0 m (pc + 2) ls (zq T z :: rest))) : W p l e R s m args below meth c H locs cells slots Q (F0 m pc ls rest) := by
  by_cases h : z < 0
  · rw [zq_n h] at hl kk; exact lv_aloadN hx hb hdg hl kk
  · rw [zq_c h] at hl kk; exact lv_aload hx hb hdg hl kk
theorem z_astore_nq (hx : p.tables.exec = Jvm.exec) (hb : c.code = cc) {k : Fin 4} {i nL : Nat} {T : Nat → Nat} {z : Int} {lv lv' : List (Nat × Value)} (hdg : decode cc pc = .ok (.astore_n k, 1)) (hi : (k : Nat) = i) (h : lv_has ls nL lv) (hn : i < nL) (hl : (i, zq T z) :: lv.filter (fun q => !(q.1 == i) && !(q.1 + 1 == i && q.2.category == 2)) = lv')
    (kk : ∀ ls' : Array Slot, lv_has ls' nL lv' → W p l e R s m args below meth c H locs cells slots Q (F0 m (pc + 1) ls' rest)) : W p l e R s m args below meth c H locs cells slots Q (F0 m pc ls (zq T z :: rest)) := by
  by_cases h9 : z < 0
  · rw [zq_n h9] at hl ⊢; exact lv_astore_nN hx hb hdg hi h hn hl kk
  · rw [zq_c h9] at hl ⊢; exact lv_astore_n hx hb hdg hi h hn hl kk
theorem z_astoreq (hx : p.tables.exec = Jvm.exec) (hb : c.code = cc) {i nL : Nat} {T : Nat → Nat} {z : Int} {lv lv' : List (Nat × Value)} (hdg : decode cc pc = .ok (.astore i, 2)) (h : lv_has ls nL lv) (hn : i < nL) (hl : (i, zq T z) :: lv.filter (fun q => !(q.1 == i) && !(q.1 + 1 == i && q.2.category == 2)) = lv')
    (kk : ∀ ls' : Array Slot, lv_has ls' nL lv' → W p l e R s m args below meth c H locs cells slots Q (F0 m (pc + 2) ls' rest)) : W p l e R s m args below meth c H locs cells slots Q (F0 m pc ls (zq T z :: rest)) := by
  by_cases h9 : z < 0
  · rw [zq_n h9] at hl ⊢; exact lv_astoreN hx hb hdg h hn hl kk
  · rw [zq_c h9] at hl ⊢; exact lv_astore hx hb hdg h hn hl kk
theorem cr_r (hx : p.tables.exec = Jvm.exec) (hb : c.code = cc) {rt : String} (hr : meth.sig.returnType = some (.object rt)) (hlocks : meth.locks = false) {V : Mem → va_W} {M M' : Mem} {a : Nat} (hS : va_S (wA (V M)) s.heap H locs) (hP : va_P D vwCl (V M') H) (hdg : decode cc pc = .ok (.areturn, 1)) : W p l e R s m args below meth c H locs 0 0 (MQ below (crQ D V M (.ref a) M') args s 0 0 (wA (V M))) (F0 m pc ls [.ref a]) :=
  W.aret hx hb hr (Or.inl ⟨_, rfl⟩) (Or.inr ⟨_, rfl⟩) (fun t ht hW => ⟨⟨rfl, by show va_P D vwCl (V M') t.heap; rw [ht]; exact hP⟩, hS.F ht⟩) hS.2.2 hdg hlocks
theorem cr_d (hx : p.tables.exec = Jvm.exec) (hb : c.code = cc) (hr : meth.sig.returnType = some .double) (hlocks : meth.locks = false) {V : Mem → va_W} {M M' : Mem} {v : UInt64} (hS : va_S (wA (V M)) s.heap H locs) (hP : va_P D vwCl (V M') H) (hdg : decode cc pc = .ok (.dreturn, 1)) : W p l e R s m args below meth c H locs 0 0 (MQ below (crQ D V M (.double v) M') args s 0 0 (wA (V M))) (F0 m pc ls [.double v]) :=
  W.dret hx hb hr (fun t ht hW => ⟨⟨rfl, by show va_P D vwCl (V M') t.heap; rw [ht]; exact hP⟩, hS.F ht⟩) hS.2.2 hdg hlocks
theorem cr_f (hx : p.tables.exec = Jvm.exec) (hb : c.code = cc) (hr : meth.sig.returnType = some .float) (hlocks : meth.locks = false) {V : Mem → va_W} {M M' : Mem} {v : UInt32} (hS : va_S (wA (V M)) s.heap H locs) (hP : va_P D vwCl (V M') H) (hdg : decode cc pc = .ok (.freturn, 1)) : W p l e R s m args below meth c H locs 0 0 (MQ below (crQ D V M (.float v) M') args s 0 0 (wA (V M))) (F0 m pc ls [.float v]) :=
  W.fret hx hb hr (fun t ht hW => ⟨⟨rfl, by show va_P D vwCl (V M') t.heap; rw [ht]; exact hP⟩, hS.F ht⟩) hS.2.2 hdg hlocks
theorem cr_q (hx : p.tables.exec = Jvm.exec) (hb : c.code = cc) {rt : String} (hr : meth.sig.returnType = some (.object rt)) (hlocks : meth.locks = false) {V : Mem → va_W} {M M' : Mem} {T : Nat → Nat} {z r : Int} {v : Value} (he : z = r) (hv : zq T z = v) (hS : va_S (wA (V M)) s.heap H locs) (hP : va_P D vwCl (V M') H) (hdg : decode cc pc = .ok (.areturn, 1)) : W p l e R s m args below meth c H locs 0 0 (MQ below (crQ D V M (zq T r) M') args s 0 0 (wA (V M))) (F0 m pc ls [v]) := by
  subst he
  subst hv
  exact W.aret hx hb hr (Or.inl ⟨_, rfl⟩) (by
    by_cases h : z < 0
    · exact Or.inl (zq_n h)
    · exact Or.inr ⟨_, zq_c h⟩) (fun t ht hW => ⟨⟨rfl, by show va_P D vwCl (V M') t.heap; rw [ht]; exact hP⟩, hS.F ht⟩) hS.2.2 hdg hlocks

theorem Cr.of {y : MethodName} {ws ws' : List Cond} {fr lo : Nat} {As : List Value} {V : Mem → va_W} {Z : State → Prop} {M M' : Mem} {rv : Value} {cc : ByteArray} {maxL : Nat} {ret : Option FieldType} (hy : plainName y.cls = true) (hw : ws = Cond.code y cc maxL ret :: ws') (hn : (lg_sl As).length ≤ maxL)
    (body : ∀ (p : Program) (e : Env) (s : State) (m : MethodId) (args : Array Value) (below : List Frame) (meth : Method) (c : Code) (ls : Array Slot), p.tables.exec = Jvm.exec → c.code = cc → c.maxLocals = maxL → meth.sig.returnType = ret → s.vm.findClass y.cls = some m.cls → (∀ w ∈ ws, w.before args s = true) → meth.locks = false → va_P D vwCl (V M) s.heap → va_K D vwCl tys s → va_D (wA (V M)) (V M) → Z s → va_S (wA (V M)) s.heap s.heap [] → lv_has ls maxL (lv_args 0 As) →
      W p l e (zRm fr lo) s m args below meth c s.heap [] 0 0 (MQ below (crQ D V M rv M') args s 0 0 (wA (V M))) (F0 m 0 ls [])) : Cr l y ws fr lo As D tys V Z M rv M' := by
  refine Met.ofW (cc := cc) (maxL := maxL) (ret := ret) hy hw ?_
  intro p e s m args below meth c s₁ B hml hv
  obtain ⟨rfl, hP, hK, hD, hZ⟩ := hv
  have hl := lv_entry As (n := maxL) hn
  rw [lg_entry_eq]
  generalize (lg_sl As ++ List.replicate (maxL - (lg_sl As).length) Slot.unset).toArray = ls at hl ⊢
  exact body p e s m As.toArray below meth c ls B.exec B.bytes hml B.returns (findClass_of_methodNamed B.named) (atoms_spec (ws := ws) B.pre) B.notSynchronized hP hK (wr_self hD) hZ va_S.rf hl

theorem ct_Vr {y : MethodName} {bytes : ByteArray} {maxL nL n index fr lo : Nat} {ret : Option FieldType} {ws Ts : List Cond} {own C : String} {As stk : List Value} {V : Mem → va_W} {Z : State → Prop} {M0 M M' : Mem} {rv : Value} {b : Addr} {ci q0 : Nat} {cq : vw_C} {fs : List Value}
    (hV : VFix V) (hZo : ∀ M : Mem, ZOk (V M) Z) (hZb : ZBl Z) (hZ : Z s) (S0 : CallFix p m c cc nL s args Ts own) (hM : Cr l y ws fr lo (.ref b :: As) D tys V Z M rv M') (cw : CallW R s args own C index y bytes maxL ret ws (zRm fr lo) 0 0 n) (hK : va_K D vwCl tys s) (hP : va_P D vwCl (V M) H) (hD : va_D (wA (V M0)) (V M)) (hS : va_S (wA (V M0)) s.heap H locs) (hc : vwCl[ci]? = some cq) (hC1 : cq.1 = C) (hq : (V M)[q0]? = some (b, .inr (ci, fs))) 
    (hn : As.length = n) (hsize : ls.size = nL) (hst : stk = As.reverse ++ .ref b :: rest) (hcat : (rest.map fun v => v.category).sum ≤ 8) (hdg : decode cc pc = .ok (.invokevirtual index, 3)) (hf : cells ≤ R.cells ∧ slots ≤ R.slots)
    (kk : ∀ (H1 : Heap) (locs1 : List Loc), va_P D vwCl (V M') H1 → va_D (wA (V M0)) (V M') → va_S (wA (V M0)) s.heap H1 locs1 → W p l e R s m args below meth c H1 locs1 cells slots Q (F0 m (pc + 3) ls (rv :: rest))) : W p l e R s m args below meth c H locs cells slots Q (F0 m pc ls stk) := by
  subst hst
  exact ct_run (rest := rest) (va_runV (As := As) (rest := rest) S0 hM cw ⟨wr_blind hZb, by rw [← hC1]; exact va_recv hK hP hc hq, fun U hU hW => ⟨rfl, by rw [hU]; exact hP, va_K.moved hW.alike hK, wA_any hD, hZo M0 s U hW (by rw [hU]; exact hS.1) (fun q h1 h2 => by rw [hU]; exact hS.2.1 q h1 h2) hZ⟩⟩ rfl hn hsize rfl (lv_room hcat) hdg hf) hS (fun q h => wA_in hD q h) (fun H1 locs1 hB hS1 => kk H1 locs1 hB (wj_D hD (hV _ _)) hS1)

theorem ct_Sr {y : MethodName} {bytes : ByteArray} {maxL nL n index fr lo : Nat} {ret : Option FieldType} {ws Ts : List Cond} {own : String} {As stk : List Value} {V : Mem → va_W} {Z : State → Prop} {M0 M M' : Mem} {rv : Value} 
    (hV : VFix V) (hZo : ∀ M : Mem, ZOk (V M) Z) (hZb : ZBl Z) (hZ : Z s) (S0 : CallFix p m c cc nL s args Ts own) (hM : Cr l y ws fr lo As D tys V Z M rv M') (cw : CallB R s args own index y bytes maxL ret ws (zRm fr lo) 0 0 n ∧ (Cond.static y).before args s = true) (hK : va_K D vwCl tys s) (hP : va_P D vwCl (V M) H) (hD : va_D (wA (V M0)) (V M)) (hS : va_S (wA (V M0)) s.heap H locs) 
    (hn : As.length = n) (hsize : ls.size = nL) (hst : stk = As.reverse ++ rest) (hcat : (rest.map fun v => v.category).sum ≤ 8) (hdg : decode cc pc = .ok (.invokestatic index, 3)) (hf : cells ≤ R.cells ∧ slots ≤ R.slots)
    (kk : ∀ (H1 : Heap) (locs1 : List Loc), va_P D vwCl (V M') H1 → va_D (wA (V M0)) (V M') → va_S (wA (V M0)) s.heap H1 locs1 → W p l e R s m args below meth c H1 locs1 cells slots Q (F0 m (pc + 3) ls (rv :: rest))) : W p l e R s m args below meth c H locs cells slots Q (F0 m pc ls stk) := by
  subst hst
  exact ct_run (rest := rest) (va_runS (As := As) (rest := rest) S0 hM cw ⟨wr_blind hZb, fun U hU hW => ⟨rfl, by rw [hU]; exact hP, va_K.moved hW.alike hK, wA_any hD, hZo M0 s U hW (by rw [hU]; exact hS.1) (fun q h1 h2 => by rw [hU]; exact hS.2.1 q h1 h2) hZ⟩⟩ rfl hn hsize rfl (lv_room hcat) hdg hf) hS (fun q h => wA_in hD q h) (fun H1 locs1 hB hS1 => kk H1 locs1 hB (wj_D hD (hV _ _)) hS1)

theorem ct_Nr {y : MethodName} {bytes : ByteArray} {maxL nL n index fr lo : Nat} {ret : Option FieldType} {ws Ts : List Cond} {own host : String} {As stk : List Value} {V : Mem → va_W} {Z : State → Prop} {M0 M M' : Mem} {rv : Value} 
    (hV : VFix V) (hZo : ∀ M : Mem, ZOk (V M) Z) (hZb : ZBl Z) (hZ : Z s) (S0 : CallFix p m c cc nL s args Ts own) (hM : Cr l y ws fr lo As D tys V Z M rv M') (cw : va_CN R s args own index y host bytes maxL ret ws (zRm fr lo) 0 0 n ∧ (Cond.static y).before args s = true ∧ True) (hK : va_K D vwCl tys s) (hP : va_P D vwCl (V M) H) (hD : va_D (wA (V M0)) (V M)) (hS : va_S (wA (V M0)) s.heap H locs) 
    (hn : As.length = n) (hsize : ls.size = nL) (hst : stk = As.reverse ++ rest) (hcat : (rest.map fun v => v.category).sum ≤ 8) (hdg : decode cc pc = .ok (.invokestatic index, 3)) (hf : cells ≤ R.cells ∧ slots ≤ R.slots)
    (kk : ∀ (H1 : Heap) (locs1 : List Loc), va_P D vwCl (V M') H1 → va_D (wA (V M0)) (V M') → va_S (wA (V M0)) s.heap H1 locs1 → W p l e R s m args below meth c H1 locs1 cells slots Q (F0 m (pc + 3) ls (rv :: rest))) : W p l e R s m args below meth c H locs cells slots Q (F0 m pc ls stk) := by
  subst hst
  exact ct_run (rest := rest) (va_runSN (As := As) (rest := rest) S0 hM cw ⟨wr_blind hZb, fun U hU hW => ⟨rfl, by rw [hU]; exact hP, va_K.moved hW.alike hK, wA_any hD, hZo M0 s U hW (by rw [hU]; exact hS.1) (fun q h1 h2 => by rw [hU]; exact hS.2.1 q h1 h2) hZ⟩⟩ rfl hn hsize rfl (lv_room hcat) hdg hf) hS (fun q h => wA_in hD q h) (fun H1 locs1 hB hS1 => kk H1 locs1 hB (wj_D hD (hV _ _)) hS1)

theorem ct_Oi {y : MethodName} {bytes : ByteArray} {maxL nL n index fr lo : Nat} {ret : Option FieldType} {ws Ts : List Cond} {own C : String} {As stk : List Value} {V : Mem → va_W} {Z : State → Prop} {M0 M M' : Mem} {r : Int} {b : Addr} 
    (hV : VFix V) (hZo : ∀ M : Mem, ZOk (V M) Z) (hZb : ZBl Z) (hZ : Z s) (S0 : CallFix p m c cc nL s args Ts own) (hM : Ci l y ws fr lo (.ref b :: As) D tys V Z M r M') (cw : CallW R s args own C index y bytes maxL ret ws (zRm fr lo) 0 0 n) (hK : va_K D vwCl tys s) (hP : va_P D vwCl (V M) H) (hD : va_D (wA (V M0)) (V M)) (hS : va_S (wA (V M0)) s.heap H locs) (hrc : ∃ cell : Cell, H[b]? = some cell ∧ cell.vm.isStatics = false ∧ s.vm.findClass C = some cell.cls) 
    (hn : As.length = n) (hsize : ls.size = nL) (hst : stk = As.reverse ++ .ref b :: rest) (hcat : (rest.map fun v => v.category).sum ≤ 8) (hdg : decode cc pc = .ok (.invokevirtual index, 3)) (hf : cells ≤ R.cells ∧ slots ≤ R.slots)
    (kk : ∀ (H1 : Heap) (locs1 : List Loc), va_P D vwCl (V M') H1 → va_D (wA (V M0)) (V M') → va_S (wA (V M0)) s.heap H1 locs1 → W p l e R s m args below meth c H1 locs1 cells slots Q (F0 m (pc + 3) ls (.int (iI r) :: rest))) : W p l e R s m args below meth c H locs cells slots Q (F0 m pc ls stk) := by
  subst hst
  refine va_calli (mc := 0) (ms := 0) (rest := rest) (va_runV (As := As) (rest := rest) S0 hM cw ⟨wr_blind hZb, hrc, fun U hU hW => ⟨rfl, by rw [hU]; exact hP, va_K.moved hW.alike hK, wA_any hD, hZo M0 s U hW (by rw [hU]; exact hS.1) (fun q h1 h2 => by rw [hU]; exact hS.2.1 q h1 h2) hZ⟩⟩ rfl hn hsize rfl (lv_room hcat) hdg hf) hS (fun q _ h => wA_in hD q h) (fun q h => wA_in hD q h) (fun r' u t H1 locs1 ht hvm hp hB hz hk hS1 => ?_)
  rw [show r' = iI r from hp]
  rw [ht] at hB
  exact kk H1 locs1 hB (wj_D hD (hV _ _)) hS1

theorem ct_Ui {x y : MethodName} {bytes : ByteArray} {maxL nL n index fr lo : Nat} {ret : Option FieldType} {ws Ts : List Cond} {own C owner : String} {As stk : List Value} {V : Mem → va_W} {Z : State → Prop} {M0 M M' : Mem} {r : Int} {b : Addr} 
    (hV : VFix V) (hZo : ∀ M : Mem, ZOk (V M) Z) (hZb : ZBl Z) (hZ : Z s) (S0 : CallFix p m c cc nL s args Ts own) (hM : Ci l y ws fr lo (.ref b :: As) D tys V Z M r M') (cw : va_CU R s args own C owner index x y bytes maxL ret ws (zRm fr lo) 0 0 n) (hK : va_K D vwCl tys s) (hP : va_P D vwCl (V M) H) (hD : va_D (wA (V M0)) (V M)) (hS : va_S (wA (V M0)) s.heap H locs) (hrc : ∃ cell : Cell, H[b]? = some cell ∧ cell.vm.isStatics = false ∧ s.vm.findClass C = some cell.cls) 
    (hn : As.length = n) (hsize : ls.size = nL) (hst : stk = As.reverse ++ .ref b :: rest) (hcat : (rest.map fun v => v.category).sum ≤ 8) (hdg : decode cc pc = .ok (.invokevirtual index, 3)) (hf : cells ≤ R.cells ∧ slots ≤ R.slots)
    (kk : ∀ (H1 : Heap) (locs1 : List Loc), va_P D vwCl (V M') H1 → va_D (wA (V M0)) (V M') → va_S (wA (V M0)) s.heap H1 locs1 → W p l e R s m args below meth c H1 locs1 cells slots Q (F0 m (pc + 3) ls (.int (iI r) :: rest))) : W p l e R s m args below meth c H locs cells slots Q (F0 m pc ls stk) := by
  subst hst
  refine va_calli (mc := 0) (ms := 0) (rest := rest) (va_runU (As := As) (rest := rest) S0 hM cw ⟨wr_blind hZb, hrc, fun U hU hW => ⟨rfl, by rw [hU]; exact hP, va_K.moved hW.alike hK, wA_any hD, hZo M0 s U hW (by rw [hU]; exact hS.1) (fun q h1 h2 => by rw [hU]; exact hS.2.1 q h1 h2) hZ⟩⟩ rfl hn hsize rfl (lv_room hcat) hdg hf) hS (fun q _ h => wA_in hD q h) (fun q h => wA_in hD q h) (fun r' u t H1 locs1 ht hvm hp hB hz hk hS1 => ?_)
  rw [show r' = iI r from hp]
  rw [ht] at hB
  exact kk H1 locs1 hB (wj_D hD (hV _ _)) hS1

theorem ct_Ov {y : MethodName} {bytes : ByteArray} {maxL nL n index fr lo : Nat} {ret : Option FieldType} {ws Ts : List Cond} {own C : String} {As stk : List Value} {V : Mem → va_W} {Z : State → Prop} {M0 M M' : Mem} {b : Addr} 
    (hV : VFix V) (hZo : ∀ M : Mem, ZOk (V M) Z) (hZb : ZBl Z) (hZ : Z s) (S0 : CallFix p m c cc nL s args Ts own) (hM : Cv l y ws fr lo (.ref b :: As) D tys V Z M M') (cw : CallW R s args own C index y bytes maxL ret ws (zRm fr lo) 0 0 n) (hK : va_K D vwCl tys s) (hP : va_P D vwCl (V M) H) (hD : va_D (wA (V M0)) (V M)) (hS : va_S (wA (V M0)) s.heap H locs) (hrc : ∃ cell : Cell, H[b]? = some cell ∧ cell.vm.isStatics = false ∧ s.vm.findClass C = some cell.cls) 
    (hn : As.length = n) (hsize : ls.size = nL) (hst : stk = As.reverse ++ .ref b :: rest) (hcat : (rest.map fun v => v.category).sum ≤ 8) (hdg : decode cc pc = .ok (.invokevirtual index, 3)) (hf : cells ≤ R.cells ∧ slots ≤ R.slots)
    (kk : ∀ (H1 : Heap) (locs1 : List Loc), va_P D vwCl (V M') H1 → va_D (wA (V M0)) (V M') → va_S (wA (V M0)) s.heap H1 locs1 → W p l e R s m args below meth c H1 locs1 cells slots Q (F0 m (pc + 3) ls (rest))) : W p l e R s m args below meth c H locs cells slots Q (F0 m pc ls stk) := by
  subst hst
  refine va_callv (mc := 0) (ms := 0) (rest := rest) (va_runV (As := As) (rest := rest) S0 hM cw ⟨wr_blind hZb, hrc, fun U hU hW => ⟨rfl, by rw [hU]; exact hP, va_K.moved hW.alike hK, wA_any hD, hZo M0 s U hW (by rw [hU]; exact hS.1) (fun q h1 h2 => by rw [hU]; exact hS.2.1 q h1 h2) hZ⟩⟩ rfl hn hsize rfl (lv_room hcat) hdg hf) hS (fun q _ h => wA_in hD q h) (fun q h => wA_in hD q h) (fun u t H1 locs1 ht hvm hp hB hz hk hS1 => ?_)
  rw [ht] at hB
  exact kk H1 locs1 hB (wj_D hD (hV _ _)) hS1

end
theorem VCc_0_14 {E : Nat → Nat} {cI cC : ClassId} {M : Mem} {sp dp n : Int} : (VC E cI cC M).set 17 (E 17, .inl (cI, 80, .inl (aI (cpI (M 0) (M 14) sp dp n)))) = VC E cI cC (mcp M 0 sp 14 dp n) := rfl
theorem VCc_14_0 {E : Nat → Nat} {cI cC : ClassId} {M : Mem} {sp dp n : Int} : (VC E cI cC M).set 3 (E 3, .inl (cI, 80, .inl (aI (cpI (M 14) (M 0) sp dp n)))) = VC E cI cC (mcp M 14 sp 0 dp n) := rfl
theorem VCc_0_15 {E : Nat → Nat} {cI cC : ClassId} {M : Mem} {sp dp n : Int} : (VC E cI cC M).set 18 (E 18, .inl (cI, 80, .inl (aI (cpI (M 0) (M 15) sp dp n)))) = VC E cI cC (mcp M 0 sp 15 dp n) := rfl
theorem VCc_15_0 {E : Nat → Nat} {cI cC : ClassId} {M : Mem} {sp dp n : Int} : (VC E cI cC M).set 3 (E 3, .inl (cI, 80, .inl (aI (cpI (M 15) (M 0) sp dp n)))) = VC E cI cC (mcp M 15 sp 0 dp n) := rfl
theorem VCc_8_8 {E : Nat → Nat} {cI cC : ClassId} {M : Mem} {sp dp n : Int} : (VC E cI cC M).set 12 (E 12, .inl (cI, 640, .inl (aI (cpI (M 8) (M 8) sp dp n)))) = VC E cI cC (mcp M 8 sp 8 dp n) := rfl
theorem VCc_14_8 {E : Nat → Nat} {cI cC : ClassId} {M : Mem} {sp dp n : Int} : (VC E cI cC M).set 12 (E 12, .inl (cI, 640, .inl (aI (cpI (M 14) (M 8) sp dp n)))) = VC E cI cC (mcp M 14 sp 8 dp n) := rfl
theorem VCc_8_14 {E : Nat → Nat} {cI cC : ClassId} {M : Mem} {sp dp n : Int} : (VC E cI cC M).set 17 (E 17, .inl (cI, 80, .inl (aI (cpI (M 8) (M 14) sp dp n)))) = VC E cI cC (mcp M 8 sp 14 dp n) := rfl
theorem VCc_6_5 {E : Nat → Nat} {cI cC : ClassId} {M : Mem} {sp dp n : Int} : (VC E cI cC M).set 9 (E 9, .inl (cI, 4, .inl (aI (cpI (M 6) (M 5) sp dp n)))) = VC E cI cC (mcp M 6 sp 5 dp n) := rfl
