/-! WORLDS: VC the class's cells, VG the model's; M region place is a number; E k the address of cell k. -/
abbrev TY (cI cC : ClassId) : List (ClassId × FieldType) := [(cI, .int), (cC, .char)]
def VC (E : Nat → Nat) (cI cC : ClassId) (M : Mem) : va_W := [(E 0, .inr (8, [.ref (E 1), .ref (E 2), .ref (E 4), .ref (E 11), .ref (E 13), .ref (E 15), .ref (E 17), .ref (E 18), .int (iI (M 16 0)), .int (iI (M 17 0)), .int (iI (M 18 0)), .int (iI (M 19 0))])), (E 1, .inr (5, [.ref (E 2), .ref (E 4)])), (E 2, .inr (6, [.ref (E 3)])), (E 3, .inl (cI, 80, .inl (aI (M 0)))), (E 4, .inr (4, [.ref (E 5), .ref (E 6), .ref (E 7), .ref (E 8), .ref (E 9), .ref (E 10), .int (iI (M 7 0))])), (E 5, .inl (cI, 6, .inl (aI (M 1)))), (E 6, .inl (cI, 6, .inl (aI (M 2)))), (E 7, .inl (cI, 6, .inl (aI (M 3)))), (E 8, .inl (cI, 6, .inl (aI (M 4)))), (E 9, .inl (cI, 4, .inl (aI (M 5)))), (E 10, .inl (cI, 4, .inl (aI (M 6)))), (E 11, .inr (2, [.ref (E 12), .int (iI (M 9 0))])), (E 12, .inl (cI, 640, .inl (aI (M 8)))), (E 13, .inr (7, [.ref (E 14), .int (iI (M 11 0))])), (E 14, .inl (cC, 60, .inl (aI (M 10)))), (E 15, .inr (3, [.ref (E 16), .int (iI (M 13 0))])), (E 16, .inl (cC, 23, .inl (aI (M 12)))), (E 17, .inl (cI, 80, .inl (aI (M 14)))), (E 18, .inl (cI, 80, .inl (aI (M 15))))]
theorem VC_fix (E : Nat → Nat) (cI cC : ClassId) : VFix (VC E cI cC) := fun _ _ => rfl
theorem VC_0 {E : Nat → Nat} {cI cC : ClassId} {M : Mem} : (VC E cI cC M)[0]? = some (E 0, .inr (8, [.ref (E 1), .ref (E 2), .ref (E 4), .ref (E 11), .ref (E 13), .ref (E 15), .ref (E 17), .ref (E 18), .int (iI (M 16 0)), .int (iI (M 17 0)), .int (iI (M 18 0)), .int (iI (M 19 0))])) := rfl
theorem VC_1 {E : Nat → Nat} {cI cC : ClassId} {M : Mem} : (VC E cI cC M)[1]? = some (E 1, .inr (5, [.ref (E 2), .ref (E 4)])) := rfl
theorem VC_2 {E : Nat → Nat} {cI cC : ClassId} {M : Mem} : (VC E cI cC M)[2]? = some (E 2, .inr (6, [.ref (E 3)])) := rfl
theorem VC_3 {E : Nat → Nat} {cI cC : ClassId} {M : Mem} : (VC E cI cC M)[3]? = some (E 3, .inl (cI, 80, .inl (aI (M 0)))) := rfl
theorem VC_4 {E : Nat → Nat} {cI cC : ClassId} {M : Mem} : (VC E cI cC M)[4]? = some (E 4, .inr (4, [.ref (E 5), .ref (E 6), .ref (E 7), .ref (E 8), .ref (E 9), .ref (E 10), .int (iI (M 7 0))])) := rfl
theorem VC_5 {E : Nat → Nat} {cI cC : ClassId} {M : Mem} : (VC E cI cC M)[5]? = some (E 5, .inl (cI, 6, .inl (aI (M 1)))) := rfl
theorem VC_6 {E : Nat → Nat} {cI cC : ClassId} {M : Mem} : (VC E cI cC M)[6]? = some (E 6, .inl (cI, 6, .inl (aI (M 2)))) := rfl
theorem VC_7 {E : Nat → Nat} {cI cC : ClassId} {M : Mem} : (VC E cI cC M)[7]? = some (E 7, .inl (cI, 6, .inl (aI (M 3)))) := rfl
theorem VC_8 {E : Nat → Nat} {cI cC : ClassId} {M : Mem} : (VC E cI cC M)[8]? = some (E 8, .inl (cI, 6, .inl (aI (M 4)))) := rfl
theorem VC_9 {E : Nat → Nat} {cI cC : ClassId} {M : Mem} : (VC E cI cC M)[9]? = some (E 9, .inl (cI, 4, .inl (aI (M 5)))) := rfl
theorem VC_10 {E : Nat → Nat} {cI cC : ClassId} {M : Mem} : (VC E cI cC M)[10]? = some (E 10, .inl (cI, 4, .inl (aI (M 6)))) := rfl
theorem VC_11 {E : Nat → Nat} {cI cC : ClassId} {M : Mem} : (VC E cI cC M)[11]? = some (E 11, .inr (2, [.ref (E 12), .int (iI (M 9 0))])) := rfl
theorem VC_12 {E : Nat → Nat} {cI cC : ClassId} {M : Mem} : (VC E cI cC M)[12]? = some (E 12, .inl (cI, 640, .inl (aI (M 8)))) := rfl
theorem VC_13 {E : Nat → Nat} {cI cC : ClassId} {M : Mem} : (VC E cI cC M)[13]? = some (E 13, .inr (7, [.ref (E 14), .int (iI (M 11 0))])) := rfl
theorem VC_14 {E : Nat → Nat} {cI cC : ClassId} {M : Mem} : (VC E cI cC M)[14]? = some (E 14, .inl (cC, 60, .inl (aI (M 10)))) := rfl
theorem VC_15 {E : Nat → Nat} {cI cC : ClassId} {M : Mem} : (VC E cI cC M)[15]? = some (E 15, .inr (3, [.ref (E 16), .int (iI (M 13 0))])) := rfl
theorem VC_16 {E : Nat → Nat} {cI cC : ClassId} {M : Mem} : (VC E cI cC M)[16]? = some (E 16, .inl (cC, 23, .inl (aI (M 12)))) := rfl
theorem VC_17 {E : Nat → Nat} {cI cC : ClassId} {M : Mem} : (VC E cI cC M)[17]? = some (E 17, .inl (cI, 80, .inl (aI (M 14)))) := rfl
theorem VC_18 {E : Nat → Nat} {cI cC : ClassId} {M : Mem} : (VC E cI cC M)[18]? = some (E 18, .inl (cI, 80, .inl (aI (M 15)))) := rfl
theorem VCf_16 {E : Nat → Nat} {cI cC : ClassId} {M : Mem} {v : Int} : (VC E cI cC M).set 0 (E 0, .inr (8, ([.ref (E 1), .ref (E 2), .ref (E 4), .ref (E 11), .ref (E 13), .ref (E 15), .ref (E 17), .ref (E 18), .int (iI (M 16 0)), .int (iI (M 17 0)), .int (iI (M 18 0)), .int (iI (M 19 0))] : List Value).set 8 (.int (iI v)))) = VC E cI cC (msf M 16 v) := rfl
theorem VCf_17 {E : Nat → Nat} {cI cC : ClassId} {M : Mem} {v : Int} : (VC E cI cC M).set 0 (E 0, .inr (8, ([.ref (E 1), .ref (E 2), .ref (E 4), .ref (E 11), .ref (E 13), .ref (E 15), .ref (E 17), .ref (E 18), .int (iI (M 16 0)), .int (iI (M 17 0)), .int (iI (M 18 0)), .int (iI (M 19 0))] : List Value).set 9 (.int (iI v)))) = VC E cI cC (msf M 17 v) := rfl
theorem VCf_18 {E : Nat → Nat} {cI cC : ClassId} {M : Mem} {v : Int} : (VC E cI cC M).set 0 (E 0, .inr (8, ([.ref (E 1), .ref (E 2), .ref (E 4), .ref (E 11), .ref (E 13), .ref (E 15), .ref (E 17), .ref (E 18), .int (iI (M 16 0)), .int (iI (M 17 0)), .int (iI (M 18 0)), .int (iI (M 19 0))] : List Value).set 10 (.int (iI v)))) = VC E cI cC (msf M 18 v) := rfl
theorem VCf_19 {E : Nat → Nat} {cI cC : ClassId} {M : Mem} {v : Int} : (VC E cI cC M).set 0 (E 0, .inr (8, ([.ref (E 1), .ref (E 2), .ref (E 4), .ref (E 11), .ref (E 13), .ref (E 15), .ref (E 17), .ref (E 18), .int (iI (M 16 0)), .int (iI (M 17 0)), .int (iI (M 18 0)), .int (iI (M 19 0))] : List Value).set 11 (.int (iI v)))) = VC E cI cC (msf M 19 v) := rfl
theorem VCw_0 {E : Nat → Nat} {cI cC : ClassId} {M : Mem} {z v : Int} : (VC E cI cC M).set 3 (E 3, .inl (cI, 80, .inl (aI (up (M 0) z v)))) = VC E cI cC (mst M 0 z v) := rfl
theorem VCf_7 {E : Nat → Nat} {cI cC : ClassId} {M : Mem} {v : Int} : (VC E cI cC M).set 4 (E 4, .inr (4, ([.ref (E 5), .ref (E 6), .ref (E 7), .ref (E 8), .ref (E 9), .ref (E 10), .int (iI (M 7 0))] : List Value).set 6 (.int (iI v)))) = VC E cI cC (msf M 7 v) := rfl
theorem VCw_1 {E : Nat → Nat} {cI cC : ClassId} {M : Mem} {z v : Int} : (VC E cI cC M).set 5 (E 5, .inl (cI, 6, .inl (aI (up (M 1) z v)))) = VC E cI cC (mst M 1 z v) := rfl
theorem VCw_2 {E : Nat → Nat} {cI cC : ClassId} {M : Mem} {z v : Int} : (VC E cI cC M).set 6 (E 6, .inl (cI, 6, .inl (aI (up (M 2) z v)))) = VC E cI cC (mst M 2 z v) := rfl
theorem VCw_3 {E : Nat → Nat} {cI cC : ClassId} {M : Mem} {z v : Int} : (VC E cI cC M).set 7 (E 7, .inl (cI, 6, .inl (aI (up (M 3) z v)))) = VC E cI cC (mst M 3 z v) := rfl
theorem VCw_4 {E : Nat → Nat} {cI cC : ClassId} {M : Mem} {z v : Int} : (VC E cI cC M).set 8 (E 8, .inl (cI, 6, .inl (aI (up (M 4) z v)))) = VC E cI cC (mst M 4 z v) := rfl
theorem VCw_5 {E : Nat → Nat} {cI cC : ClassId} {M : Mem} {z v : Int} : (VC E cI cC M).set 9 (E 9, .inl (cI, 4, .inl (aI (up (M 5) z v)))) = VC E cI cC (mst M 5 z v) := rfl
theorem VCw_6 {E : Nat → Nat} {cI cC : ClassId} {M : Mem} {z v : Int} : (VC E cI cC M).set 10 (E 10, .inl (cI, 4, .inl (aI (up (M 6) z v)))) = VC E cI cC (mst M 6 z v) := rfl
theorem VCf_9 {E : Nat → Nat} {cI cC : ClassId} {M : Mem} {v : Int} : (VC E cI cC M).set 11 (E 11, .inr (2, ([.ref (E 12), .int (iI (M 9 0))] : List Value).set 1 (.int (iI v)))) = VC E cI cC (msf M 9 v) := rfl
theorem VCw_8 {E : Nat → Nat} {cI cC : ClassId} {M : Mem} {z v : Int} : (VC E cI cC M).set 12 (E 12, .inl (cI, 640, .inl (aI (up (M 8) z v)))) = VC E cI cC (mst M 8 z v) := rfl
theorem VCf_11 {E : Nat → Nat} {cI cC : ClassId} {M : Mem} {v : Int} : (VC E cI cC M).set 13 (E 13, .inr (7, ([.ref (E 14), .int (iI (M 11 0))] : List Value).set 1 (.int (iI v)))) = VC E cI cC (msf M 11 v) := rfl
theorem VCw_10 {E : Nat → Nat} {cI cC : ClassId} {M : Mem} {z v : Int} : (VC E cI cC M).set 14 (E 14, .inl (cC, 60, .inl (aI (up (M 10) z v)))) = VC E cI cC (mst M 10 z v) := rfl
theorem VCf_13 {E : Nat → Nat} {cI cC : ClassId} {M : Mem} {v : Int} : (VC E cI cC M).set 15 (E 15, .inr (3, ([.ref (E 16), .int (iI (M 13 0))] : List Value).set 1 (.int (iI v)))) = VC E cI cC (msf M 13 v) := rfl
theorem VCw_12 {E : Nat → Nat} {cI cC : ClassId} {M : Mem} {z v : Int} : (VC E cI cC M).set 16 (E 16, .inl (cC, 23, .inl (aI (up (M 12) z v)))) = VC E cI cC (mst M 12 z v) := rfl
theorem VCw_14 {E : Nat → Nat} {cI cC : ClassId} {M : Mem} {z v : Int} : (VC E cI cC M).set 17 (E 17, .inl (cI, 80, .inl (aI (up (M 14) z v)))) = VC E cI cC (mst M 14 z v) := rfl
theorem VCw_15 {E : Nat → Nat} {cI cC : ClassId} {M : Mem} {z v : Int} : (VC E cI cC M).set 18 (E 18, .inl (cI, 80, .inl (aI (up (M 15) z v)))) = VC E cI cC (mst M 15 z v) := rfl
