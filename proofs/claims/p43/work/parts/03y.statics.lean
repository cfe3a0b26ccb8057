/-! STATICS: what stands at the start and nobody writes: tables, the commands and their forms, texts of throws, words of nest mates. T gives the addresses. -/
def swm (z : Int) : Int := ([1, 2, 3, 5, 8, 0, 4, 6, 7] : List Int).getD z.toNat 0
def crs (z : Int) : Int := ([0, 3, 1, 2, 2] : List Int).getD z.toNat 0
def sml (z : Int) : Int := ([46, 115, 102, 98, 99] : List Int).getD z.toNat 0
def bgl (z : Int) : Int := ([46, 83, 70, 66, 43] : List Int).getD z.toNat 0
def fln (z : Int) : Int := ([5, 7, 6, 6, 6, 6, 7, 9, 9] : List Int).getD z.toNat 0
def fch (z k : Int) : Int := (([[110, 101, 119, 32, 35], [102, 111, 108, 100, 32, 35, 64], [111, 112, 101, 110, 32, 35], [116, 97, 107, 101, 32, 35], [119, 97, 115, 104, 32, 35], [114, 101, 97, 100, 32, 35], [108, 97, 121, 32, 35, 32, 35], [109, 111, 118, 101, 32, 35, 32, 35, 35], [115, 116, 97, 105, 110, 32, 35, 43, 35]] : List (List Int)).getD z.toNat []).getD k.toNat 0
def cmN (j : Nat) : String := (["NEW", "FOLD", "OPEN", "TAKE", "WASH", "READ", "LAY", "MOVE", "STAIN"] : List String).getD j ""
def ZA (T : Nat → Nat) (A : Nat → Prop) (U : State) : Prop := (va_Z RX8 "COMMANDS" "[LNapkinSyntax$Command;" (.ref (T 9)) A U U.heap) ∧ (va_T (.object "NapkinSyntax$Command") (T 9) 9 (fun j => .ref (T j)) A U U.heap) ∧ (va_Z RX0 "$SwitchMap$NapkinSyntax$Command" "[I" (.ref (T 10)) A U U.heap) ∧ (va_T .int (T 10) 9 (fun j => .int (iI (swm j))) A U U.heap) ∧ (va_Z RX8 "CREASES" "[I" (.ref (T 11)) A U U.heap) ∧ (va_T .int (T 11) 5 (fun j => .int (iI (crs j))) A U U.heap) ∧ (va_Z RX8 "SMALL_LETTERS" "[C" (.ref (T 12)) A U U.heap) ∧ (va_T .char (T 12) 5 (fun j => .int (iI (sml j))) A U U.heap) ∧ (va_Z RX8 "BIG_LETTERS" "[C" (.ref (T 13)) A U U.heap) ∧ (va_T .char (T 13) 5 (fun j => .int (iI (bgl j))) A U U.heap) ∧ (va_Z RJ0 "COMPACT_STRINGS" "Z" (.int (iI 1)) A U U.heap) ∧ (∀ j : Nat, j < 9 → va_Z RX1 (cmN j) "LNapkinSyntax$Command;" (.ref (T j)) A U U.heap) ∧ (∀ j : Nat, j < 9 → va_O RX1 (T j) A U U.heap) ∧ (∀ j : Nat, j < 9 → va_OF "java/lang/Enum" "ordinal" "I" (.int (iI (j : Int))) (T j) A U U.heap) ∧ (∀ j : Nat, j < 9 → va_OF RX1 "form" "Ljava/lang/String;" (.ref (T (14 + j))) (T j) A U U.heap) ∧ (∀ j : Nat, j < 9 → va_O RJ0 (T (14 + j)) A U U.heap) ∧ (∀ j : Nat, j < 9 → va_OF RJ0 "value" "[B" (.ref (T (23 + j))) (T (14 + j)) A U U.heap) ∧ (∀ j : Nat, j < 9 → va_OF RJ0 "coder" "B" (.int (iI 0)) (T (14 + j)) A U U.heap) ∧ (∀ j : Nat, j < 9 → ∃ N : Nat, (N : Int) = fln j ∧ va_T .byte (T (23 + j)) N (fun k => .int (iI (fch j k))) A U U.heap) ∧ (vx_Zq Bundle.tN "UNASSIGNED_STACK" Bundle.steD A U U.heap) ∧ (vx_Zq Bundle.tN "SUPPRESSED_SENTINEL" Bundle.listD A U U.heap) ∧ (va_Zq "jdk/internal/util/Preconditions" "SIOOBE_FORMATTER" "Ljava/util/function/BiFunction;" A U U.heap) ∧ (vk_R RX8 112 "there is no such napkin" (T 32) U) ∧ (vk_R RX8 141 "what is from 0 to 6" (T 33) U) ∧ (vk_R RX8 170 "what is from 0 to 5" (T 34) U) ∧ (vk_R RX8 178 "there is no such place" (T 35) U) ∧ (vk_R RX8 203 "there is no such phrase" (T 37) U) ∧ (vk_R RX8 217 "what is from 0 to 3" (T 38) U) ∧ (vk_R RX8 225 "the table would not be right by any" (T 39) U) ∧ (vk_R RX8 238 "the table says nothing" (T 40) U) ∧ (vk_R RX8 263 "there are 60 characters" (T 41) U) ∧ (vk_R RX8 279 "the text is malformed" (T 42) U) ∧ (vk_R RX8 317 "a command of the text is refused" (T 43) U) ∧ (vk_R RX8 323 "no text was malformed" (T 44) U) ∧ (vk_R RX8 325 "nothing was refused, or there is no cause" (T 45) U) ∧ (vk_R RX8 346 "there is no such character" (T 46) U) ∧ (vk_R RX8 380 "what is from 0 to 11" (T 47) U) ∧ (vk_R RX8 384 "no change can be undone" (T 49) U) ∧ (vk_R RX8 389 "there is no snapshot" (T 50) U) ∧ (vk_R RX8 392 "there is no such napkin, table or place" (T 51) U) ∧ (vk_R RX8 394 "the number is out of range" (T 52) U) ∧ (vk_R RX8 396 "the call is refused" (T 53) U) ∧ (vk_R RX8 401 "there is no such table" (T 54) U) ∧ (va_Nw (.methodLinkNest RX8 9 ⟨RX5, "<init>", "()V"⟩ RX8) U) ∧ (va_Nw (.methodLinkNest RX5 11 ⟨RX6, "<init>", "()V"⟩ RX8) U) ∧ (va_Nw (.methodLinkNest RX5 20 ⟨RX4, "<init>", "()V"⟩ RX8) U) ∧ (va_Nw (.methodLinkNest RX8 30 ⟨RX2, "<init>", "()V"⟩ RX8) U) ∧ (va_Nw (.methodLinkNest RX8 37 ⟨RX7, "<init>", "()V"⟩ RX8) U) ∧ (va_Nw (.methodLinkNest RX8 44 ⟨RX3, "<init>", "()V"⟩ RX8) U) ∧ (va_Nw (.methodLinkNest RX5 111 ⟨RX8, "refusedFor", "(II)I"⟩ RX8) U) ∧ (va_Nw (.methodLinkNest RX5 124 ⟨RX8, "isTable", "(I)Z"⟩ RX8) U) ∧ (va_Nw (.methodLinkNest RX7 62 ⟨RX8, "letterIn", "([CI)C"⟩ RX8) U) ∧ (va_Nw (.fieldLinkNest RX8 16 "NapkinSyntax$Service" "state" "LNapkinSyntax$State;" RX8) U) ∧ (va_Nw (.fieldLinkNest RX5 143 "NapkinSyntax" "CREASES" "[I" RX8) U) ∧ (va_Nw (.fieldLinkNest RX7 36 "NapkinSyntax" "COMMANDS" "[LNapkinSyntax$Command;" RX8) U) ∧ (va_Nw (.fieldLinkNest RX7 59 "NapkinSyntax" "SMALL_LETTERS" "[C" RX8) U) ∧ (va_Nw (.castable "java/lang/IndexOutOfBoundsException" "java/lang/IndexOutOfBoundsException") U) ∧ (va_Nw (.castable "java/lang/IllegalArgumentException" "java/lang/IllegalArgumentException") U) ∧ (va_Nw (.castable "java/lang/UnsupportedOperationException" "java/lang/UnsupportedOperationException") U) ∧ (va_Nw (.castable "java/util/NoSuchElementException" "java/util/NoSuchElementException") U) ∧ (va_Nw (.castable "java/lang/IllegalStateException" "java/lang/IllegalStateException") U) ∧ (va_Nw (.castable "java/lang/ArithmeticException" "java/lang/ArithmeticException") U) ∧ (va_Nw (.declares (Bundle.initS "java/lang/RuntimeException")) U) ∧ (va_Nw (.declares (Bundle.initS "java/lang/Exception")) U) ∧ (va_Nw (.declares (Bundle.initS Bundle.tN)) U)
theorem ZA_keep {T : Nat → Nat} {A : Nat → Prop} {s U : State} (hW : s.WarmedH U.vm) (hq : ∀ q : Nat, q < s.heap.size → ¬ A q → U.heap[q]? = s.heap[q]?) (h : ZA T A s) : ZA T A U := by
  obtain ⟨h0, h1, h2, h3, h4, h5, h6, h7, h8, h9, h10, h11, h12, h13, h14, h15, h16, h17, h18, h19, h20, h21, h22, h23, h24, h25, h26, h27, h28, h29, h30, h31, h32, h33, h34, h35, h36, h37, h38, h39, h40, h41, h42, h43, h44, h45, h46, h47, h48, h49, h50, h51, h52, h53, h54, h55, h56, h57, h58, h59, h60, h61, h62, h63, h64⟩ := h
  exact ⟨va_Z.moved hW.alike (h0.kept hq), va_T.moved hW.alike (h1.kept hq), va_Z.moved hW.alike (h2.kept hq), va_T.moved hW.alike (h3.kept hq), va_Z.moved hW.alike (h4.kept hq), va_T.moved hW.alike (h5.kept hq), va_Z.moved hW.alike (h6.kept hq), va_T.moved hW.alike (h7.kept hq), va_Z.moved hW.alike (h8.kept hq), va_T.moved hW.alike (h9.kept hq), va_Z.moved hW.alike (h10.kept hq), fun j hj => va_Z.moved hW.alike ((h11 j hj).kept hq), fun j hj => va_O.moved hW.alike ((h12 j hj).kept hq), fun j hj => va_OF.moved hW.alike ((h13 j hj).kept hq), fun j hj => va_OF.moved hW.alike ((h14 j hj).kept hq), fun j hj => va_O.moved hW.alike ((h15 j hj).kept hq), fun j hj => va_OF.moved hW.alike ((h16 j hj).kept hq), fun j hj => va_OF.moved hW.alike ((h17 j hj).kept hq), fun j hj => by obtain ⟨N, e, x⟩ := h18 j hj; exact ⟨N, e, va_T.moved hW.alike (x.kept hq)⟩, vx_Zq.moved hW.alike (h19.kept hq), vx_Zq.moved hW.alike (h20.kept hq), va_Zq.moved hW.alike (h21.kept hq), vk_R.warm hW h22, vk_R.warm hW h23, vk_R.warm hW h24, vk_R.warm hW h25, vk_R.warm hW h26, vk_R.warm hW h27, vk_R.warm hW h28, vk_R.warm hW h29, vk_R.warm hW h30, vk_R.warm hW h31, vk_R.warm hW h32, vk_R.warm hW h33, vk_R.warm hW h34, vk_R.warm hW h35, vk_R.warm hW h36, vk_R.warm hW h37, vk_R.warm hW h38, vk_R.warm hW h39, vk_R.warm hW h40, vk_R.warm hW h41, vk_R.warm hW h42, va_Nw.warmM hW h43, va_Nw.warmM hW h44, va_Nw.warmM hW h45, va_Nw.warmM hW h46, va_Nw.warmM hW h47, va_Nw.warmM hW h48, va_Nw.warmM hW h49, va_Nw.warmM hW h50, va_Nw.warmM hW h51, va_Nw.warmF hW h52, va_Nw.warmF hW h53, va_Nw.warmF hW h54, va_Nw.warmF hW h55, va_Nw.warmC hW h56, va_Nw.warmC hW h57, va_Nw.warmC hW h58, va_Nw.warmC hW h59, va_Nw.warmC hW h60, va_Nw.warmC hW h61, va_Nw.warmD hW h62, va_Nw.warmD hW h63, va_Nw.warmD hW h64⟩
theorem ZA_narrow {T : Nat → Nat} {A B : Nat → Prop} {U : State} (hAB : ∀ q, B q → A q) (h : ZA T A U) : ZA T B U := by
  obtain ⟨h0, h1, h2, h3, h4, h5, h6, h7, h8, h9, h10, h11, h12, h13, h14, h15, h16, h17, h18, h19, h20, h21, h22, h23, h24, h25, h26, h27, h28, h29, h30, h31, h32, h33, h34, h35, h36, h37, h38, h39, h40, h41, h42, h43, h44, h45, h46, h47, h48, h49, h50, h51, h52, h53, h54, h55, h56, h57, h58, h59, h60, h61, h62, h63, h64⟩ := h
  exact ⟨h0.narrow hAB, h1.narrow hAB, h2.narrow hAB, h3.narrow hAB, h4.narrow hAB, h5.narrow hAB, h6.narrow hAB, h7.narrow hAB, h8.narrow hAB, h9.narrow hAB, h10.narrow hAB, fun j hj => (h11 j hj).narrow hAB, fun j hj => (h12 j hj).narrow hAB, fun j hj => (h13 j hj).narrow hAB, fun j hj => (h14 j hj).narrow hAB, fun j hj => (h15 j hj).narrow hAB, fun j hj => (h16 j hj).narrow hAB, fun j hj => (h17 j hj).narrow hAB, fun j hj => by obtain ⟨N, e, x⟩ := h18 j hj; exact ⟨N, e, x.narrow hAB⟩, h19.narrow hAB, h20.narrow hAB, h21.narrow hAB, h22, h23, h24, h25, h26, h27, h28, h29, h30, h31, h32, h33, h34, h35, h36, h37, h38, h39, h40, h41, h42, h43, h44, h45, h46, h47, h48, h49, h50, h51, h52, h53, h54, h55, h56, h57, h58, h59, h60, h61, h62, h63, h64⟩
def M00 : Mem := fun _ _ => 0
def ZC (E : Nat → Nat) (cI cC : ClassId) (T : Nat → Nat) (U : State) : Prop := ZA T (wA (VC E cI cC M00)) U
theorem ZC_A (E : Nat → Nat) (cI cC : ClassId) (M : Mem) : wA (VC E cI cC M) = wA (VC E cI cC M00) := rfl
theorem ZC_ok (E : Nat → Nat) (cI cC : ClassId) (T : Nat → Nat) : ∀ M : Mem, ZOk (VC E cI cC M) (ZC E cI cC T) := fun M s U hW _ hq h => ZA_keep hW (fun q h1 h2 => hq q h1 (by rw [ZC_A]; exact h2)) h
theorem ZC_bl (E : Nat → Nat) (cI cC : ClassId) (T : Nat → Nat) : ZBl (ZC E cI cC T) := fun a U g mk h => ZA_keep (s := U) (U := U.calling g mk a) (State.WarmedH.refl U) (fun _ _ _ => rfl) h
theorem ZC_co {E : Nat → Nat} {cI cC : ClassId} {T : Nat → Nat} {s : State} (h : ZC E cI cC T s) (M : Mem) : va_Z RX8 "COMMANDS" "[LNapkinSyntax$Command;" (.ref (T 9)) (wA (VC E cI cC M)) s s.heap := by
  rw [ZC_A]
  exact h.1
theorem ZC_cot {E : Nat → Nat} {cI cC : ClassId} {T : Nat → Nat} {s : State} (h : ZC E cI cC T s) (M : Mem) : va_T (.object "NapkinSyntax$Command") (T 9) 9 (fun j => .ref (T j)) (wA (VC E cI cC M)) s s.heap := by
  rw [ZC_A]
  exact h.2.1
theorem ZC_sw {E : Nat → Nat} {cI cC : ClassId} {T : Nat → Nat} {s : State} (h : ZC E cI cC T s) (M : Mem) : va_Z RX0 "$SwitchMap$NapkinSyntax$Command" "[I" (.ref (T 10)) (wA (VC E cI cC M)) s s.heap := by
  rw [ZC_A]
  exact h.2.2.1
theorem ZC_swt {E : Nat → Nat} {cI cC : ClassId} {T : Nat → Nat} {s : State} (h : ZC E cI cC T s) (M : Mem) : va_T .int (T 10) 9 (fun j => .int (iI (swm j))) (wA (VC E cI cC M)) s s.heap := by
  rw [ZC_A]
  exact h.2.2.2.1
theorem ZC_cr {E : Nat → Nat} {cI cC : ClassId} {T : Nat → Nat} {s : State} (h : ZC E cI cC T s) (M : Mem) : va_Z RX8 "CREASES" "[I" (.ref (T 11)) (wA (VC E cI cC M)) s s.heap := by
  rw [ZC_A]
  exact h.2.2.2.2.1
theorem ZC_crt {E : Nat → Nat} {cI cC : ClassId} {T : Nat → Nat} {s : State} (h : ZC E cI cC T s) (M : Mem) : va_T .int (T 11) 5 (fun j => .int (iI (crs j))) (wA (VC E cI cC M)) s s.heap := by
  rw [ZC_A]
  exact h.2.2.2.2.2.1
theorem ZC_sm {E : Nat → Nat} {cI cC : ClassId} {T : Nat → Nat} {s : State} (h : ZC E cI cC T s) (M : Mem) : va_Z RX8 "SMALL_LETTERS" "[C" (.ref (T 12)) (wA (VC E cI cC M)) s s.heap := by
  rw [ZC_A]
  exact h.2.2.2.2.2.2.1
theorem ZC_smt {E : Nat → Nat} {cI cC : ClassId} {T : Nat → Nat} {s : State} (h : ZC E cI cC T s) (M : Mem) : va_T .char (T 12) 5 (fun j => .int (iI (sml j))) (wA (VC E cI cC M)) s s.heap := by
  rw [ZC_A]
  exact h.2.2.2.2.2.2.2.1
theorem ZC_bg {E : Nat → Nat} {cI cC : ClassId} {T : Nat → Nat} {s : State} (h : ZC E cI cC T s) (M : Mem) : va_Z RX8 "BIG_LETTERS" "[C" (.ref (T 13)) (wA (VC E cI cC M)) s s.heap := by
  rw [ZC_A]
  exact h.2.2.2.2.2.2.2.2.1
theorem ZC_bgt {E : Nat → Nat} {cI cC : ClassId} {T : Nat → Nat} {s : State} (h : ZC E cI cC T s) (M : Mem) : va_T .char (T 13) 5 (fun j => .int (iI (bgl j))) (wA (VC E cI cC M)) s s.heap := by
  rw [ZC_A]
  exact h.2.2.2.2.2.2.2.2.2.1
theorem ZC_cs {E : Nat → Nat} {cI cC : ClassId} {T : Nat → Nat} {s : State} (h : ZC E cI cC T s) (M : Mem) : va_Z RJ0 "COMPACT_STRINGS" "Z" (.int (iI 1)) (wA (VC E cI cC M)) s s.heap := by
  rw [ZC_A]
  exact h.2.2.2.2.2.2.2.2.2.2.1
theorem ZC_cm {E : Nat → Nat} {cI cC : ClassId} {T : Nat → Nat} {s : State} (h : ZC E cI cC T s) (M : Mem) : ∀ j : Nat, j < 9 → va_Z RX1 (cmN j) "LNapkinSyntax$Command;" (.ref (T j)) (wA (VC E cI cC M)) s s.heap := by
  rw [ZC_A]
  exact h.2.2.2.2.2.2.2.2.2.2.2.1
theorem ZC_cmo {E : Nat → Nat} {cI cC : ClassId} {T : Nat → Nat} {s : State} (h : ZC E cI cC T s) (M : Mem) : ∀ j : Nat, j < 9 → va_O RX1 (T j) (wA (VC E cI cC M)) s s.heap := by
  rw [ZC_A]
  exact h.2.2.2.2.2.2.2.2.2.2.2.2.1
theorem ZC_ord {E : Nat → Nat} {cI cC : ClassId} {T : Nat → Nat} {s : State} (h : ZC E cI cC T s) (M : Mem) : ∀ j : Nat, j < 9 → va_OF "java/lang/Enum" "ordinal" "I" (.int (iI (j : Int))) (T j) (wA (VC E cI cC M)) s s.heap := by
  rw [ZC_A]
  exact h.2.2.2.2.2.2.2.2.2.2.2.2.2.1
theorem ZC_frm {E : Nat → Nat} {cI cC : ClassId} {T : Nat → Nat} {s : State} (h : ZC E cI cC T s) (M : Mem) : ∀ j : Nat, j < 9 → va_OF RX1 "form" "Ljava/lang/String;" (.ref (T (14 + j))) (T j) (wA (VC E cI cC M)) s s.heap := by
  rw [ZC_A]
  exact h.2.2.2.2.2.2.2.2.2.2.2.2.2.2.1
theorem ZC_sto {E : Nat → Nat} {cI cC : ClassId} {T : Nat → Nat} {s : State} (h : ZC E cI cC T s) (M : Mem) : ∀ j : Nat, j < 9 → va_O RJ0 (T (14 + j)) (wA (VC E cI cC M)) s s.heap := by
  rw [ZC_A]
  exact h.2.2.2.2.2.2.2.2.2.2.2.2.2.2.2.1
theorem ZC_stv {E : Nat → Nat} {cI cC : ClassId} {T : Nat → Nat} {s : State} (h : ZC E cI cC T s) (M : Mem) : ∀ j : Nat, j < 9 → va_OF RJ0 "value" "[B" (.ref (T (23 + j))) (T (14 + j)) (wA (VC E cI cC M)) s s.heap := by
  rw [ZC_A]
  exact h.2.2.2.2.2.2.2.2.2.2.2.2.2.2.2.2.1
theorem ZC_stc {E : Nat → Nat} {cI cC : ClassId} {T : Nat → Nat} {s : State} (h : ZC E cI cC T s) (M : Mem) : ∀ j : Nat, j < 9 → va_OF RJ0 "coder" "B" (.int (iI 0)) (T (14 + j)) (wA (VC E cI cC M)) s s.heap := by
  rw [ZC_A]
  exact h.2.2.2.2.2.2.2.2.2.2.2.2.2.2.2.2.2.1
theorem ZC_stb {E : Nat → Nat} {cI cC : ClassId} {T : Nat → Nat} {s : State} (h : ZC E cI cC T s) (M : Mem) : ∀ j : Nat, j < 9 → ∃ N : Nat, (N : Int) = fln j ∧ va_T .byte (T (23 + j)) N (fun k => .int (iI (fch j k))) (wA (VC E cI cC M)) s s.heap := by
  rw [ZC_A]
  exact h.2.2.2.2.2.2.2.2.2.2.2.2.2.2.2.2.2.2.1
theorem ZC_us {E : Nat → Nat} {cI cC : ClassId} {T : Nat → Nat} {s : State} (h : ZC E cI cC T s) (M : Mem) : vx_Zq Bundle.tN "UNASSIGNED_STACK" Bundle.steD (wA (VC E cI cC M)) s s.heap := by
  rw [ZC_A]
  exact h.2.2.2.2.2.2.2.2.2.2.2.2.2.2.2.2.2.2.2.1
theorem ZC_ss {E : Nat → Nat} {cI cC : ClassId} {T : Nat → Nat} {s : State} (h : ZC E cI cC T s) (M : Mem) : vx_Zq Bundle.tN "SUPPRESSED_SENTINEL" Bundle.listD (wA (VC E cI cC M)) s s.heap := by
  rw [ZC_A]
  exact h.2.2.2.2.2.2.2.2.2.2.2.2.2.2.2.2.2.2.2.2.1
theorem ZC_fm {E : Nat → Nat} {cI cC : ClassId} {T : Nat → Nat} {s : State} (h : ZC E cI cC T s) (M : Mem) : va_Zq "jdk/internal/util/Preconditions" "SIOOBE_FORMATTER" "Ljava/util/function/BiFunction;" (wA (VC E cI cC M)) s s.heap := by
  rw [ZC_A]
  exact h.2.2.2.2.2.2.2.2.2.2.2.2.2.2.2.2.2.2.2.2.2.1
theorem ZC_t112 {E : Nat → Nat} {cI cC : ClassId} {T : Nat → Nat} {s : State} (h : ZC E cI cC T s) : vk_R RX8 112 "there is no such napkin" (T 32) s := by
  skip
  exact h.2.2.2.2.2.2.2.2.2.2.2.2.2.2.2.2.2.2.2.2.2.2.1
theorem ZC_t141 {E : Nat → Nat} {cI cC : ClassId} {T : Nat → Nat} {s : State} (h : ZC E cI cC T s) : vk_R RX8 141 "what is from 0 to 6" (T 33) s := by
  skip
  exact h.2.2.2.2.2.2.2.2.2.2.2.2.2.2.2.2.2.2.2.2.2.2.2.1
theorem ZC_t170 {E : Nat → Nat} {cI cC : ClassId} {T : Nat → Nat} {s : State} (h : ZC E cI cC T s) : vk_R RX8 170 "what is from 0 to 5" (T 34) s := by
  skip
  exact h.2.2.2.2.2.2.2.2.2.2.2.2.2.2.2.2.2.2.2.2.2.2.2.2.1
theorem ZC_t178 {E : Nat → Nat} {cI cC : ClassId} {T : Nat → Nat} {s : State} (h : ZC E cI cC T s) : vk_R RX8 178 "there is no such place" (T 35) s := by
  skip
  exact h.2.2.2.2.2.2.2.2.2.2.2.2.2.2.2.2.2.2.2.2.2.2.2.2.2.1
theorem ZC_t203 {E : Nat → Nat} {cI cC : ClassId} {T : Nat → Nat} {s : State} (h : ZC E cI cC T s) : vk_R RX8 203 "there is no such phrase" (T 37) s := by
  skip
  exact h.2.2.2.2.2.2.2.2.2.2.2.2.2.2.2.2.2.2.2.2.2.2.2.2.2.2.1
theorem ZC_t217 {E : Nat → Nat} {cI cC : ClassId} {T : Nat → Nat} {s : State} (h : ZC E cI cC T s) : vk_R RX8 217 "what is from 0 to 3" (T 38) s := by
  skip
  exact h.2.2.2.2.2.2.2.2.2.2.2.2.2.2.2.2.2.2.2.2.2.2.2.2.2.2.2.1
theorem ZC_t225 {E : Nat → Nat} {cI cC : ClassId} {T : Nat → Nat} {s : State} (h : ZC E cI cC T s) : vk_R RX8 225 "the table would not be right by any" (T 39) s := by
  skip
  exact h.2.2.2.2.2.2.2.2.2.2.2.2.2.2.2.2.2.2.2.2.2.2.2.2.2.2.2.2.1
theorem ZC_t238 {E : Nat → Nat} {cI cC : ClassId} {T : Nat → Nat} {s : State} (h : ZC E cI cC T s) : vk_R RX8 238 "the table says nothing" (T 40) s := by
  skip
  exact h.2.2.2.2.2.2.2.2.2.2.2.2.2.2.2.2.2.2.2.2.2.2.2.2.2.2.2.2.2.1
theorem ZC_t263 {E : Nat → Nat} {cI cC : ClassId} {T : Nat → Nat} {s : State} (h : ZC E cI cC T s) : vk_R RX8 263 "there are 60 characters" (T 41) s := by
  skip
  exact h.2.2.2.2.2.2.2.2.2.2.2.2.2.2.2.2.2.2.2.2.2.2.2.2.2.2.2.2.2.2.1
theorem ZC_t279 {E : Nat → Nat} {cI cC : ClassId} {T : Nat → Nat} {s : State} (h : ZC E cI cC T s) : vk_R RX8 279 "the text is malformed" (T 42) s := by
  skip
  exact h.2.2.2.2.2.2.2.2.2.2.2.2.2.2.2.2.2.2.2.2.2.2.2.2.2.2.2.2.2.2.2.1
theorem ZC_t317 {E : Nat → Nat} {cI cC : ClassId} {T : Nat → Nat} {s : State} (h : ZC E cI cC T s) : vk_R RX8 317 "a command of the text is refused" (T 43) s := by
  skip
  exact h.2.2.2.2.2.2.2.2.2.2.2.2.2.2.2.2.2.2.2.2.2.2.2.2.2.2.2.2.2.2.2.2.1
theorem ZC_t323 {E : Nat → Nat} {cI cC : ClassId} {T : Nat → Nat} {s : State} (h : ZC E cI cC T s) : vk_R RX8 323 "no text was malformed" (T 44) s := by
  skip
  exact h.2.2.2.2.2.2.2.2.2.2.2.2.2.2.2.2.2.2.2.2.2.2.2.2.2.2.2.2.2.2.2.2.2.1
theorem ZC_t325 {E : Nat → Nat} {cI cC : ClassId} {T : Nat → Nat} {s : State} (h : ZC E cI cC T s) : vk_R RX8 325 "nothing was refused, or there is no cause" (T 45) s := by
  skip
  exact h.2.2.2.2.2.2.2.2.2.2.2.2.2.2.2.2.2.2.2.2.2.2.2.2.2.2.2.2.2.2.2.2.2.2.1
theorem ZC_t346 {E : Nat → Nat} {cI cC : ClassId} {T : Nat → Nat} {s : State} (h : ZC E cI cC T s) : vk_R RX8 346 "there is no such character" (T 46) s := by
  skip
  exact h.2.2.2.2.2.2.2.2.2.2.2.2.2.2.2.2.2.2.2.2.2.2.2.2.2.2.2.2.2.2.2.2.2.2.2.1
theorem ZC_t380 {E : Nat → Nat} {cI cC : ClassId} {T : Nat → Nat} {s : State} (h : ZC E cI cC T s) : vk_R RX8 380 "what is from 0 to 11" (T 47) s := by
  skip
  exact h.2.2.2.2.2.2.2.2.2.2.2.2.2.2.2.2.2.2.2.2.2.2.2.2.2.2.2.2.2.2.2.2.2.2.2.2.1
theorem ZC_t384 {E : Nat → Nat} {cI cC : ClassId} {T : Nat → Nat} {s : State} (h : ZC E cI cC T s) : vk_R RX8 384 "no change can be undone" (T 49) s := by
  skip
  exact h.2.2.2.2.2.2.2.2.2.2.2.2.2.2.2.2.2.2.2.2.2.2.2.2.2.2.2.2.2.2.2.2.2.2.2.2.2.1
theorem ZC_t389 {E : Nat → Nat} {cI cC : ClassId} {T : Nat → Nat} {s : State} (h : ZC E cI cC T s) : vk_R RX8 389 "there is no snapshot" (T 50) s := by
  skip
  exact h.2.2.2.2.2.2.2.2.2.2.2.2.2.2.2.2.2.2.2.2.2.2.2.2.2.2.2.2.2.2.2.2.2.2.2.2.2.2.1
theorem ZC_t392 {E : Nat → Nat} {cI cC : ClassId} {T : Nat → Nat} {s : State} (h : ZC E cI cC T s) : vk_R RX8 392 "there is no such napkin, table or place" (T 51) s := by
  skip
  exact h.2.2.2.2.2.2.2.2.2.2.2.2.2.2.2.2.2.2.2.2.2.2.2.2.2.2.2.2.2.2.2.2.2.2.2.2.2.2.2.1
theorem ZC_t394 {E : Nat → Nat} {cI cC : ClassId} {T : Nat → Nat} {s : State} (h : ZC E cI cC T s) : vk_R RX8 394 "the number is out of range" (T 52) s := by
  skip
  exact h.2.2.2.2.2.2.2.2.2.2.2.2.2.2.2.2.2.2.2.2.2.2.2.2.2.2.2.2.2.2.2.2.2.2.2.2.2.2.2.2.1
theorem ZC_t396 {E : Nat → Nat} {cI cC : ClassId} {T : Nat → Nat} {s : State} (h : ZC E cI cC T s) : vk_R RX8 396 "the call is refused" (T 53) s := by
  skip
  exact h.2.2.2.2.2.2.2.2.2.2.2.2.2.2.2.2.2.2.2.2.2.2.2.2.2.2.2.2.2.2.2.2.2.2.2.2.2.2.2.2.2.1
theorem ZC_t401 {E : Nat → Nat} {cI cC : ClassId} {T : Nat → Nat} {s : State} (h : ZC E cI cC T s) : vk_R RX8 401 "there is no such table" (T 54) s := by
  skip
  exact h.2.2.2.2.2.2.2.2.2.2.2.2.2.2.2.2.2.2.2.2.2.2.2.2.2.2.2.2.2.2.2.2.2.2.2.2.2.2.2.2.2.2.1
theorem ZC_nX8_9 {E : Nat → Nat} {cI cC : ClassId} {T : Nat → Nat} {s : State} (h : ZC E cI cC T s) : va_Nw (.methodLinkNest RX8 9 ⟨RX5, "<init>", "()V"⟩ RX8) s := by
  skip
  exact h.2.2.2.2.2.2.2.2.2.2.2.2.2.2.2.2.2.2.2.2.2.2.2.2.2.2.2.2.2.2.2.2.2.2.2.2.2.2.2.2.2.2.2.1
theorem ZC_nX5_11 {E : Nat → Nat} {cI cC : ClassId} {T : Nat → Nat} {s : State} (h : ZC E cI cC T s) : va_Nw (.methodLinkNest RX5 11 ⟨RX6, "<init>", "()V"⟩ RX8) s := by
  skip
  exact h.2.2.2.2.2.2.2.2.2.2.2.2.2.2.2.2.2.2.2.2.2.2.2.2.2.2.2.2.2.2.2.2.2.2.2.2.2.2.2.2.2.2.2.2.1
theorem ZC_nX5_20 {E : Nat → Nat} {cI cC : ClassId} {T : Nat → Nat} {s : State} (h : ZC E cI cC T s) : va_Nw (.methodLinkNest RX5 20 ⟨RX4, "<init>", "()V"⟩ RX8) s := by
  skip
  exact h.2.2.2.2.2.2.2.2.2.2.2.2.2.2.2.2.2.2.2.2.2.2.2.2.2.2.2.2.2.2.2.2.2.2.2.2.2.2.2.2.2.2.2.2.2.1
theorem ZC_nX8_30 {E : Nat → Nat} {cI cC : ClassId} {T : Nat → Nat} {s : State} (h : ZC E cI cC T s) : va_Nw (.methodLinkNest RX8 30 ⟨RX2, "<init>", "()V"⟩ RX8) s := by
  skip
  exact h.2.2.2.2.2.2.2.2.2.2.2.2.2.2.2.2.2.2.2.2.2.2.2.2.2.2.2.2.2.2.2.2.2.2.2.2.2.2.2.2.2.2.2.2.2.2.1
theorem ZC_nX8_37 {E : Nat → Nat} {cI cC : ClassId} {T : Nat → Nat} {s : State} (h : ZC E cI cC T s) : va_Nw (.methodLinkNest RX8 37 ⟨RX7, "<init>", "()V"⟩ RX8) s := by
  skip
  exact h.2.2.2.2.2.2.2.2.2.2.2.2.2.2.2.2.2.2.2.2.2.2.2.2.2.2.2.2.2.2.2.2.2.2.2.2.2.2.2.2.2.2.2.2.2.2.2.1
theorem ZC_nX8_44 {E : Nat → Nat} {cI cC : ClassId} {T : Nat → Nat} {s : State} (h : ZC E cI cC T s) : va_Nw (.methodLinkNest RX8 44 ⟨RX3, "<init>", "()V"⟩ RX8) s := by
  skip
  exact h.2.2.2.2.2.2.2.2.2.2.2.2.2.2.2.2.2.2.2.2.2.2.2.2.2.2.2.2.2.2.2.2.2.2.2.2.2.2.2.2.2.2.2.2.2.2.2.2.1
theorem ZC_nX5_111 {E : Nat → Nat} {cI cC : ClassId} {T : Nat → Nat} {s : State} (h : ZC E cI cC T s) : va_Nw (.methodLinkNest RX5 111 ⟨RX8, "refusedFor", "(II)I"⟩ RX8) s := by
  skip
  exact h.2.2.2.2.2.2.2.2.2.2.2.2.2.2.2.2.2.2.2.2.2.2.2.2.2.2.2.2.2.2.2.2.2.2.2.2.2.2.2.2.2.2.2.2.2.2.2.2.2.1
theorem ZC_nX5_124 {E : Nat → Nat} {cI cC : ClassId} {T : Nat → Nat} {s : State} (h : ZC E cI cC T s) : va_Nw (.methodLinkNest RX5 124 ⟨RX8, "isTable", "(I)Z"⟩ RX8) s := by
  skip
  exact h.2.2.2.2.2.2.2.2.2.2.2.2.2.2.2.2.2.2.2.2.2.2.2.2.2.2.2.2.2.2.2.2.2.2.2.2.2.2.2.2.2.2.2.2.2.2.2.2.2.2.1
theorem ZC_nX7_62 {E : Nat → Nat} {cI cC : ClassId} {T : Nat → Nat} {s : State} (h : ZC E cI cC T s) : va_Nw (.methodLinkNest RX7 62 ⟨RX8, "letterIn", "([CI)C"⟩ RX8) s := by
  skip
  exact h.2.2.2.2.2.2.2.2.2.2.2.2.2.2.2.2.2.2.2.2.2.2.2.2.2.2.2.2.2.2.2.2.2.2.2.2.2.2.2.2.2.2.2.2.2.2.2.2.2.2.2.1
theorem ZC_nfX8_16 {E : Nat → Nat} {cI cC : ClassId} {T : Nat → Nat} {s : State} (h : ZC E cI cC T s) : va_Nw (.fieldLinkNest RX8 16 "NapkinSyntax$Service" "state" "LNapkinSyntax$State;" RX8) s := by
  skip
  exact h.2.2.2.2.2.2.2.2.2.2.2.2.2.2.2.2.2.2.2.2.2.2.2.2.2.2.2.2.2.2.2.2.2.2.2.2.2.2.2.2.2.2.2.2.2.2.2.2.2.2.2.2.1
theorem ZC_nfX5_143 {E : Nat → Nat} {cI cC : ClassId} {T : Nat → Nat} {s : State} (h : ZC E cI cC T s) : va_Nw (.fieldLinkNest RX5 143 "NapkinSyntax" "CREASES" "[I" RX8) s := by
  skip
  exact h.2.2.2.2.2.2.2.2.2.2.2.2.2.2.2.2.2.2.2.2.2.2.2.2.2.2.2.2.2.2.2.2.2.2.2.2.2.2.2.2.2.2.2.2.2.2.2.2.2.2.2.2.2.1
theorem ZC_nfX7_36 {E : Nat → Nat} {cI cC : ClassId} {T : Nat → Nat} {s : State} (h : ZC E cI cC T s) : va_Nw (.fieldLinkNest RX7 36 "NapkinSyntax" "COMMANDS" "[LNapkinSyntax$Command;" RX8) s := by
  skip
  exact h.2.2.2.2.2.2.2.2.2.2.2.2.2.2.2.2.2.2.2.2.2.2.2.2.2.2.2.2.2.2.2.2.2.2.2.2.2.2.2.2.2.2.2.2.2.2.2.2.2.2.2.2.2.2.1
theorem ZC_nfX7_59 {E : Nat → Nat} {cI cC : ClassId} {T : Nat → Nat} {s : State} (h : ZC E cI cC T s) : va_Nw (.fieldLinkNest RX7 59 "NapkinSyntax" "SMALL_LETTERS" "[C" RX8) s := by
  skip
  exact h.2.2.2.2.2.2.2.2.2.2.2.2.2.2.2.2.2.2.2.2.2.2.2.2.2.2.2.2.2.2.2.2.2.2.2.2.2.2.2.2.2.2.2.2.2.2.2.2.2.2.2.2.2.2.2.1
theorem ZC_x1 {E : Nat → Nat} {cI cC : ClassId} {T : Nat → Nat} {s : State} (h : ZC E cI cC T s) : va_Nw (.castable "java/lang/IndexOutOfBoundsException" "java/lang/IndexOutOfBoundsException") s := by
  skip
  exact h.2.2.2.2.2.2.2.2.2.2.2.2.2.2.2.2.2.2.2.2.2.2.2.2.2.2.2.2.2.2.2.2.2.2.2.2.2.2.2.2.2.2.2.2.2.2.2.2.2.2.2.2.2.2.2.2.1
theorem ZC_x2 {E : Nat → Nat} {cI cC : ClassId} {T : Nat → Nat} {s : State} (h : ZC E cI cC T s) : va_Nw (.castable "java/lang/IllegalArgumentException" "java/lang/IllegalArgumentException") s := by
  skip
  exact h.2.2.2.2.2.2.2.2.2.2.2.2.2.2.2.2.2.2.2.2.2.2.2.2.2.2.2.2.2.2.2.2.2.2.2.2.2.2.2.2.2.2.2.2.2.2.2.2.2.2.2.2.2.2.2.2.2.1
theorem ZC_x3 {E : Nat → Nat} {cI cC : ClassId} {T : Nat → Nat} {s : State} (h : ZC E cI cC T s) : va_Nw (.castable "java/lang/UnsupportedOperationException" "java/lang/UnsupportedOperationException") s := by
  skip
  exact h.2.2.2.2.2.2.2.2.2.2.2.2.2.2.2.2.2.2.2.2.2.2.2.2.2.2.2.2.2.2.2.2.2.2.2.2.2.2.2.2.2.2.2.2.2.2.2.2.2.2.2.2.2.2.2.2.2.2.1
theorem ZC_x4 {E : Nat → Nat} {cI cC : ClassId} {T : Nat → Nat} {s : State} (h : ZC E cI cC T s) : va_Nw (.castable "java/util/NoSuchElementException" "java/util/NoSuchElementException") s := by
  skip
  exact h.2.2.2.2.2.2.2.2.2.2.2.2.2.2.2.2.2.2.2.2.2.2.2.2.2.2.2.2.2.2.2.2.2.2.2.2.2.2.2.2.2.2.2.2.2.2.2.2.2.2.2.2.2.2.2.2.2.2.2.1
theorem ZC_x5 {E : Nat → Nat} {cI cC : ClassId} {T : Nat → Nat} {s : State} (h : ZC E cI cC T s) : va_Nw (.castable "java/lang/IllegalStateException" "java/lang/IllegalStateException") s := by
  skip
  exact h.2.2.2.2.2.2.2.2.2.2.2.2.2.2.2.2.2.2.2.2.2.2.2.2.2.2.2.2.2.2.2.2.2.2.2.2.2.2.2.2.2.2.2.2.2.2.2.2.2.2.2.2.2.2.2.2.2.2.2.2.1
theorem ZC_x6 {E : Nat → Nat} {cI cC : ClassId} {T : Nat → Nat} {s : State} (h : ZC E cI cC T s) : va_Nw (.castable "java/lang/ArithmeticException" "java/lang/ArithmeticException") s := by
  skip
  exact h.2.2.2.2.2.2.2.2.2.2.2.2.2.2.2.2.2.2.2.2.2.2.2.2.2.2.2.2.2.2.2.2.2.2.2.2.2.2.2.2.2.2.2.2.2.2.2.2.2.2.2.2.2.2.2.2.2.2.2.2.2.1
theorem ZC_d1 {E : Nat → Nat} {cI cC : ClassId} {T : Nat → Nat} {s : State} (h : ZC E cI cC T s) : va_Nw (.declares (Bundle.initS "java/lang/RuntimeException")) s := by
  skip
  exact h.2.2.2.2.2.2.2.2.2.2.2.2.2.2.2.2.2.2.2.2.2.2.2.2.2.2.2.2.2.2.2.2.2.2.2.2.2.2.2.2.2.2.2.2.2.2.2.2.2.2.2.2.2.2.2.2.2.2.2.2.2.2.1
theorem ZC_d2 {E : Nat → Nat} {cI cC : ClassId} {T : Nat → Nat} {s : State} (h : ZC E cI cC T s) : va_Nw (.declares (Bundle.initS "java/lang/Exception")) s := by
  skip
  exact h.2.2.2.2.2.2.2.2.2.2.2.2.2.2.2.2.2.2.2.2.2.2.2.2.2.2.2.2.2.2.2.2.2.2.2.2.2.2.2.2.2.2.2.2.2.2.2.2.2.2.2.2.2.2.2.2.2.2.2.2.2.2.2.1
theorem ZC_d3 {E : Nat → Nat} {cI cC : ClassId} {T : Nat → Nat} {s : State} (h : ZC E cI cC T s) : va_Nw (.declares (Bundle.initS Bundle.tN)) s := by
  skip
  exact h.2.2.2.2.2.2.2.2.2.2.2.2.2.2.2.2.2.2.2.2.2.2.2.2.2.2.2.2.2.2.2.2.2.2.2.2.2.2.2.2.2.2.2.2.2.2.2.2.2.2.2.2.2.2.2.2.2.2.2.2.2.2.2.2
