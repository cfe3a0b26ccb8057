/-! ROWS OVER WHOLE NUMBERS, continued: arraycopy, Math.min and max, shifts and bits, chars, static tables. -/
def cpI (σ τ : Int → Int) (sp dp n : Int) : Int → Int := fun z => if dp ≤ z ∧ z < dp + n then σ (sp + (z - dp)) else τ z
def mcp (M : Mem) (k0 : Nat) (sp : Int) (k1 : Nat) (dp n : Int) : Mem := fun k => cond (Nat.beq k k1) (cpI (M k0) (M k1) sp dp n) (M k)
def zmin (a b : Int) : Int := if b < a then b else a
def zmax (a b : Int) : Int := if a < b then b else a
def zshl (a b : Int) : Int := (iI a <<< (iI b &&& 31)).toInt
def zshr (a b : Int) : Int := (iI a >>> (iI b &&& 31)).toInt
def zand (a b : Int) : Int := (iI a &&& iI b).toInt
def zor (a b : Int) : Int := (iI a ||| iI b).toInt
theorem zshl_I (a b : Int) : I32 (zshl a b) := I32_x _
theorem zshr_I (a b : Int) : I32 (zshr a b) := I32_x _
theorem zand_I (a b : Int) : I32 (zand a b) := I32_x _
theorem zor_I (a b : Int) : I32 (zor a b) := I32_x _
def zchr (a : Int) : Int := ((iI a).toUInt32 % 65536).toInt32.toInt
theorem cpI_e {σ τ : Int → Int} {sp dp n : Int} (h1 : 0 ≤ sp) (h2 : 0 ≤ dp) (h3 : 0 ≤ n) : va_cpy (aI σ) (aI τ) sp.toNat dp.toNat n.toNat = aI (cpI σ τ sp dp n) := by
  funext k
  unfold va_cpy aI cpI
  by_cases h : dp ≤ (k : Int) ∧ (k : Int) < dp + n
  · rw [if_pos h, if_pos (by omega)]
    congr 2
    omega
  · rw [if_neg h, if_neg (by omega)]
section
variable {p : Program} {l : Launch} {e : Env} {R : Room} {s : State} {m : MethodId} {args : Array Value} {below : List Frame} {meth : Method} {c : Code} {H : Heap} {locs : List Loc} {cells slots : Nat} {Q : State → Prop}
variable {cc : ByteArray} {pc : Nat} {ls : Array Slot} {rest : List Value}
theorem z_ishl (hx : p.tables.exec = Jvm.exec) (hb : c.code = cc) {a b : Int} (hdg : decode cc pc = .ok (.ishl, 1)) (k : W p l e R s m args below meth c H locs cells slots Q (F0 m (pc + 1) ls (.int (iI (zshl a b)) :: rest))) : W p l e R s m args below meth c H locs cells slots Q (F0 m pc ls (.int (iI b) :: .int (iI a) :: rest)) :=
  lv_ishl hx hb hdg (by unfold zshl at k; rw [iI_x] at k; exact k)
theorem z_ishr (hx : p.tables.exec = Jvm.exec) (hb : c.code = cc) {a b : Int} (hdg : decode cc pc = .ok (.ishr, 1)) (k : W p l e R s m args below meth c H locs cells slots Q (F0 m (pc + 1) ls (.int (iI (zshr a b)) :: rest))) : W p l e R s m args below meth c H locs cells slots Q (F0 m pc ls (.int (iI b) :: .int (iI a) :: rest)) :=
  lv_ishr hx hb hdg (by unfold zshr at k; rw [iI_x] at k; exact k)
theorem z_iand (hx : p.tables.exec = Jvm.exec) (hb : c.code = cc) {a b : Int} (hdg : decode cc pc = .ok (.iand, 1)) (k : W p l e R s m args below meth c H locs cells slots Q (F0 m (pc + 1) ls (.int (iI (zand a b)) :: rest))) : W p l e R s m args below meth c H locs cells slots Q (F0 m pc ls (.int (iI b) :: .int (iI a) :: rest)) :=
  lv_iand hx hb hdg (by unfold zand at k; rw [iI_x] at k; exact k)
theorem z_ior (hx : p.tables.exec = Jvm.exec) (hb : c.code = cc) {a b : Int} (hdg : decode cc pc = .ok (.ior, 1)) (k : W p l e R s m args below meth c H locs cells slots Q (F0 m (pc + 1) ls (.int (iI (zor a b)) :: rest))) : W p l e R s m args below meth c H locs cells slots Q (F0 m pc ls (.int (iI b) :: .int (iI a) :: rest)) :=
  lv_ior hx hb hdg (by unfold zor at k; rw [iI_x] at k; exact k)
theorem z_i2c (hx : p.tables.exec = Jvm.exec) (hb : c.code = cc) {a : Int} (hdg : decode cc pc = .ok (.i2c, 1)) (h0 : 0 ≤ a) (h1 : a < 65536) (k : W p l e R s m args below meth c H locs cells slots Q (F0 m (pc + 1) ls (.int (iI a) :: rest))) : W p l e R s m args below meth c H locs cells slots Q (F0 m pc ls (.int (iI a) :: rest)) := by
  refine lv_i2c hx hb hdg (v := iI a) ?_ k
  have h := nr_c h0 h1
  obtain ⟨n, rfl⟩ := Int.eq_ofNat_of_zero_le h0
  have h2 := (pk_charN (q := n) (by omega)).1
  have h3 := (pk_charN (q := n) (by omega)).2
  rw [iI_nI] at h2 h3
  first | exact h3 | exact h2 | simpa using h3
theorem z_mmin (hx : p.tables.exec = Jvm.exec) (hb : c.code = cc) (hml : c.maxLocals = ls.size) {own : String} {index : Nat} (hown : s.vm.findClass own = some m.cls) (hlink : (Cond.methodLink own index Lib.Math.min.name).before args s = true) (hstat : (Cond.static Lib.Math.min.name).before args s = true) (hini : (Cond.initialized "java/lang/Math").before args s = true) (hcode : (Cond.code Lib.Math.min.name Lib.Math.min.code 2 (some .int)).before args s = true)
    (hframes : 1 ≤ R.frames) (hlocals : (rest.map fun v => v.category).sum + 13 ≤ R.locals) (hc : cells ≤ R.cells) (hs : slots ≤ R.slots) {a b : Int} (ha : I32 a) (hb2 : I32 b) (hdg : decode cc pc = .ok (.invokestatic index, 3))
    (k : W p l e R s m args below meth c H locs cells slots Q (F0 m (pc + 3) ls (.int (iI (zmin a b)) :: rest))) : W p l e R s m args below meth c H locs cells slots Q (F0 m pc ls (.int (iI b) :: .int (iI a) :: rest)) := by
  refine va_mmin hx hb hml hown hlink hstat hini hcode hframes hlocals hc hs hdg ?_
  have e : (if iI b < iI a then iI b else iI a) = iI (zmin a b) := by
    unfold zmin
    by_cases h : b < a
    · rw [if_pos h, if_pos ((iI_lt hb2 ha).mpr h)]
    · rw [if_neg h, if_neg (fun q => h ((iI_lt hb2 ha).mp q))]
  rw [e]
  exact k
theorem z_mmax (hx : p.tables.exec = Jvm.exec) (hb : c.code = cc) (hml : c.maxLocals = ls.size) {own : String} {index : Nat} (hown : s.vm.findClass own = some m.cls) (hlink : (Cond.methodLink own index Lib.Math.max.name).before args s = true) (hstat : (Cond.static Lib.Math.max.name).before args s = true) (hini : (Cond.initialized "java/lang/Math").before args s = true) (hcode : (Cond.code Lib.Math.max.name Lib.Math.max.code 2 (some .int)).before args s = true)
    (hframes : 1 ≤ R.frames) (hlocals : (rest.map fun v => v.category).sum + 13 ≤ R.locals) (hc : cells ≤ R.cells) (hs : slots ≤ R.slots) {a b : Int} (ha : I32 a) (hb2 : I32 b) (hdg : decode cc pc = .ok (.invokestatic index, 3))
    (k : W p l e R s m args below meth c H locs cells slots Q (F0 m (pc + 3) ls (.int (iI (zmax a b)) :: rest))) : W p l e R s m args below meth c H locs cells slots Q (F0 m pc ls (.int (iI b) :: .int (iI a) :: rest)) := by
  refine va_mmax hx hb hml hown hlink hstat hini hcode hframes hlocals hc hs hdg ?_
  have e : (if iI a < iI b then iI b else iI a) = iI (zmax a b) := by
    unfold zmax
    by_cases h : a < b
    · rw [if_pos h, if_pos ((iI_lt ha hb2).mpr h)]
    · rw [if_neg h, if_neg (fun q => h ((iI_lt ha hb2).mp q))]
  rw [e]
  exact k
section
variable {D : va_G} {cl : List vw_C} {ws : va_W} {tys : List (ClassId × FieldType)} {a : Nat} {A : Nat → Prop} {H0 : Heap}
theorem z_copyi (hx : p.tables.exec = Jvm.exec) (hb : c.code = cc) (hml : c.maxLocals = ls.size) {own : String} {index : Nat} (hown : s.vm.findClass own = some m.cls) (hlink : (Cond.methodLink own index arraycopyName).before args s = true) (hnat : (Cond.native arraycopyName).before args s = true) (hstat : (Cond.static arraycopyName).before args s = true) (hini : (Cond.initialized "java/lang/System").before args s = true)
    (hK : va_K D cl tys s) (hP : va_P D cl ws H) (hD : va_D A ws) (hS : va_S A H0 H locs) (q0 q1 t0 : Nat) {a0 : Nat} {c0 : ClassId} {n0 n1 : Nat} {σ τ : Int → Int} {ws' : va_W} (ha0 : ws[q0]? = some (a0, .inl (c0, n0, .inl (aI σ)))) (ha1 : ws[q1]? = some (a, .inl (c0, n1, .inl (aI τ)))) (ht0 : tys[t0]? = some (c0, .int))
    {sp dp n : Int} (h1 : 0 ≤ sp) (h2 : 0 ≤ dp) (h3 : 0 ≤ n) (h4 : sp + n ≤ n0) (h5 : dp + n ≤ n1) (hn0 : n0 < 2147483648) (hn1 : n1 < 2147483648)
    (hframes : 1 ≤ R.frames) (hlocals : (rest.map fun v => v.category).sum + 18 ≤ R.locals) (hdg : decode cc pc = .ok (.invokestatic index, 3))
    (hw : ws.set q1 (a, .inl (c0, n1, .inl (aI (cpI σ τ sp dp n)))) = ws')
    (kk : ∀ (H1 : Heap) (locs1 : List Loc), va_P D cl ws' H1 → va_D A ws' → va_S A H0 H1 locs1 → W p l e R s m args below meth c H1 locs1 cells slots Q (F0 m (pc + 3) ls rest)) : W p l e R s m args below meth c H locs cells slots Q (F0 m pc ls (.int (iI n) :: .int (iI dp) :: .ref a :: .int (iI sp) :: .ref a0 :: rest)) := by
  have i1 : I32 sp := ⟨by omega, by omega⟩
  have i2 : I32 dp := ⟨by omega, by omega⟩
  have i3 : I32 n := ⟨by omega, by omega⟩
  have ng : ∀ {z : Int}, 0 ≤ z → I32 z → ¬ iI z < 0 := fun {z} h0 hz q => by have := (iI_lt (b := 0) hz (by decide)).mp q; omega
  refine va_copyi hx hb hml hown hlink hnat hstat hini hK hP hD hS q0 q1 t0 t0 ha0 ha1 ht0 ht0 rfl (ng h1 i1) (ng h2 i2) (ng h3 i3) (by rw [iI_cl i1, iI_cl i3]; omega) (by rw [iI_cl i2, iI_cl i3]; omega) (fun _ _ => rfl) hframes hlocals hdg (fun H1 locs1 p1 d1 s1 => ?_)
  rw [iI_cl i1, iI_cl i2, iI_cl i3, cpI_e h1 h2 h3, hw] at p1 d1
  exact kk H1 locs1 p1 d1 s1
/-- static tables of numbers -/
theorem z_ti (hx : p.tables.exec = Jvm.exec) (hb : c.code = cc) {t N : Nat} {f : Int → Int} (hT : va_T .int t N (fun j => .int (iI (f j))) A s s.heap) (hS : va_S A s.heap H locs) {z : Int} (h0 : 0 ≤ z) (h1 : z < N) (hN : N < 2147483648) (hdg : decode cc pc = .ok (.iaload, 1))
    (kk : W p l e R s m args below meth c H locs cells slots Q (F0 m (pc + 1) ls (.int (iI (f z)) :: rest))) : W p l e R s m args below meth c H locs cells slots Q (F0 m pc ls (.int (iI z) :: .ref t :: rest)) :=
  va_ti hx hb hT hS (iI_in h0 h1 hN) (v := .int (iI (f z))) (by rw [iI_cl ⟨by omega, by omega⟩, Int.toNat_of_nonneg h0]) hdg kk
theorem z_tc (hx : p.tables.exec = Jvm.exec) (hb : c.code = cc) {t N : Nat} {f : Int → Int} (hT : va_T .char t N (fun j => .int (iI (f j))) A s s.heap) (hS : va_S A s.heap H locs) {z : Int} (h0 : 0 ≤ z) (h1 : z < N) (hN : N < 2147483648) (hdg : decode cc pc = .ok (.caload, 1))
    (kk : W p l e R s m args below meth c H locs cells slots Q (F0 m (pc + 1) ls (.int (iI (f z)) :: rest))) : W p l e R s m args below meth c H locs cells slots Q (F0 m pc ls (.int (iI z) :: .ref t :: rest)) :=
  va_tc hx hb hT hS (iI_in h0 h1 hN) (v := .int (iI (f z))) (by rw [iI_cl ⟨by omega, by omega⟩, Int.toNat_of_nonneg h0]) hdg kk
theorem z_tlen (hx : p.tables.exec = Jvm.exec) (hb : c.code = cc) {t N : Nat} {ty : FieldType} {f : Nat → Value} (hT : va_T ty t N f A s s.heap) (hS : va_S A s.heap H locs) (hdg : decode cc pc = .ok (.arraylength, 1))
    (kk : W p l e R s m args below meth c H locs cells slots Q (F0 m (pc + 1) ls (.int (iI (N : Int)) :: rest))) : W p l e R s m args below meth c H locs cells slots Q (F0 m pc ls (.ref t :: rest)) :=
  va_tlen hx hb hT hS (v := iI (N : Int)) (by rw [← iI_nI]; rfl) hdg kk
end
end
