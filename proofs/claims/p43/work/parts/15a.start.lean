/-! What stands at the start (written by gen14.py). -/
def nFl : List (List Cond) := [flatC narrow_1_1, flatC narrow_1_2, flatC narrow_1_3, flatC narrow_1_4]
theorem nFl_in {j : Nat} {c : List Cond} (h : nFl[j]? = some c) : ∀ w ∈ c, w ∈ flatC (Jvm.Cond.and given_1 narrow_1) := fun w hw => by
  have e : flatC (Jvm.Cond.and given_1 narrow_1) = flatC given_1 ++ ((flatC narrow_1_1 ++ flatC narrow_1_2) ++ (flatC narrow_1_3 ++ flatC narrow_1_4)) := rfl
  rw [e]
  simp only [List.mem_append]
  rcases (show j = 0 ∨ j = 1 ∨ j = 2 ∨ j = 3 ∨ 4 ≤ j by omega) with rfl | rfl | rfl | rfl | hj
  · cases h; simp only [hw, true_or, or_true]
  · cases h; simp only [hw, true_or, or_true]
  · cases h; simp only [hw, true_or, or_true]
  · cases h; simp only [hw, true_or, or_true]
  · rw [List.getElem?_eq_none (by show nFl.length ≤ j; exact hj)] at h; cases h
theorem nFl_ok {nw : List Cond} (ps : List (Nat × Nat)) (he : nw = ps.filterMap (fun q => (nFl[q.1]?).bind (fun c => c[q.2]?))) {args : Array Value} {s : State} (h : (Jvm.Cond.and given_1 narrow_1).before args s = true) : ∀ w ∈ nw, w.before args s = true := fun w hw => flat_of_before _ h w (by
  rw [he] at hw
  obtain ⟨q, -, hq⟩ := List.mem_filterMap.mp hw
  obtain ⟨c, hc, hi⟩ := Option.bind_eq_some_iff.mp hq
  exact nFl_in hc w (List.mem_of_getElem? hi))
set_option maxRecDepth 100000 in
def nwl : List Cond := [(Jvm.Cond.exactly (Jvm.Term.static "NapkinSyntax$Command" "NEW" "LNapkinSyntax$Command;") "NapkinSyntax$Command"), (Jvm.Cond.exactly (Jvm.Term.static "NapkinSyntax$Command" "FOLD" "LNapkinSyntax$Command;") "NapkinSyntax$Command"), (Jvm.Cond.exactly (Jvm.Term.static "NapkinSyntax$Command" "OPEN" "LNapkinSyntax$Command;") "NapkinSyntax$Command"), (Jvm.Cond.exactly (Jvm.Term.static "NapkinSyntax$Command" "TAKE" "LNapkinSyntax$Command;") "NapkinSyntax$Command"), (Jvm.Cond.exactly (Jvm.Term.static "NapkinSyntax$Command" "WASH" "LNapkinSyntax$Command;") "NapkinSyntax$Command"), (Jvm.Cond.exactly (Jvm.Term.static "NapkinSyntax$Command" "READ" "LNapkinSyntax$Command;") "NapkinSyntax$Command"), (Jvm.Cond.exactly (Jvm.Term.static "NapkinSyntax$Command" "LAY" "LNapkinSyntax$Command;") "NapkinSyntax$Command"), (Jvm.Cond.exactly (Jvm.Term.static "NapkinSyntax$Command" "MOVE" "LNapkinSyntax$Command;") "NapkinSyntax$Command"), (Jvm.Cond.exactly (Jvm.Term.static "NapkinSyntax$Command" "STAIN" "LNapkinSyntax$Command;") "NapkinSyntax$Command"), (Jvm.Cond.eq (Jvm.Term.field (Jvm.Term.static "NapkinSyntax$Command" "NEW" "LNapkinSyntax$Command;") "java/lang/Enum" "ordinal" "I") (Jvm.Term.int (0 : Int32))), (Jvm.Cond.eq (Jvm.Term.field (Jvm.Term.static "NapkinSyntax$Command" "FOLD" "LNapkinSyntax$Command;") "java/lang/Enum" "ordinal" "I") (Jvm.Term.int (1 : Int32))), (Jvm.Cond.eq (Jvm.Term.field (Jvm.Term.static "NapkinSyntax$Command" "OPEN" "LNapkinSyntax$Command;") "java/lang/Enum" "ordinal" "I") (Jvm.Term.int (2 : Int32))), (Jvm.Cond.eq (Jvm.Term.field (Jvm.Term.static "NapkinSyntax$Command" "TAKE" "LNapkinSyntax$Command;") "java/lang/Enum" "ordinal" "I") (Jvm.Term.int (3 : Int32))), (Jvm.Cond.eq (Jvm.Term.field (Jvm.Term.static "NapkinSyntax$Command" "WASH" "LNapkinSyntax$Command;") "java/lang/Enum" "ordinal" "I") (Jvm.Term.int (4 : Int32))), (Jvm.Cond.eq (Jvm.Term.field (Jvm.Term.static "NapkinSyntax$Command" "READ" "LNapkinSyntax$Command;") "java/lang/Enum" "ordinal" "I") (Jvm.Term.int (5 : Int32))), (Jvm.Cond.eq (Jvm.Term.field (Jvm.Term.static "NapkinSyntax$Command" "LAY" "LNapkinSyntax$Command;") "java/lang/Enum" "ordinal" "I") (Jvm.Term.int (6 : Int32))), (Jvm.Cond.eq (Jvm.Term.field (Jvm.Term.static "NapkinSyntax$Command" "MOVE" "LNapkinSyntax$Command;") "java/lang/Enum" "ordinal" "I") (Jvm.Term.int (7 : Int32))), (Jvm.Cond.eq (Jvm.Term.field (Jvm.Term.static "NapkinSyntax$Command" "STAIN" "LNapkinSyntax$Command;") "java/lang/Enum" "ordinal" "I") (Jvm.Term.int (8 : Int32))), (Jvm.Cond.eq (Jvm.Term.field (Jvm.Term.static "NapkinSyntax$Command" "NEW" "LNapkinSyntax$Command;") "NapkinSyntax$Command" "form" "Ljava/lang/String;") (Jvm.Term.string "NapkinSyntax$Command" (65 : Nat))), (Jvm.Cond.eq (Jvm.Term.field (Jvm.Term.static "NapkinSyntax$Command" "FOLD" "LNapkinSyntax$Command;") "NapkinSyntax$Command" "form" "Ljava/lang/String;") (Jvm.Term.string "NapkinSyntax$Command" (71 : Nat))), (Jvm.Cond.eq (Jvm.Term.field (Jvm.Term.static "NapkinSyntax$Command" "OPEN" "LNapkinSyntax$Command;") "NapkinSyntax$Command" "form" "Ljava/lang/String;") (Jvm.Term.string "NapkinSyntax$Command" (74 : Nat))), (Jvm.Cond.eq (Jvm.Term.field (Jvm.Term.static "NapkinSyntax$Command" "TAKE" "LNapkinSyntax$Command;") "NapkinSyntax$Command" "form" "Ljava/lang/String;") (Jvm.Term.string "NapkinSyntax$Command" (77 : Nat))), (Jvm.Cond.eq (Jvm.Term.field (Jvm.Term.static "NapkinSyntax$Command" "WASH" "LNapkinSyntax$Command;") "NapkinSyntax$Command" "form" "Ljava/lang/String;") (Jvm.Term.string "NapkinSyntax$Command" (80 : Nat))), (Jvm.Cond.eq (Jvm.Term.field (Jvm.Term.static "NapkinSyntax$Command" "READ" "LNapkinSyntax$Command;") "NapkinSyntax$Command" "form" "Ljava/lang/String;") (Jvm.Term.string "NapkinSyntax$Command" (83 : Nat))), (Jvm.Cond.eq (Jvm.Term.field (Jvm.Term.static "NapkinSyntax$Command" "LAY" "LNapkinSyntax$Command;") "NapkinSyntax$Command" "form" "Ljava/lang/String;") (Jvm.Term.string "NapkinSyntax$Command" (86 : Nat))), (Jvm.Cond.eq (Jvm.Term.field (Jvm.Term.static "NapkinSyntax$Command" "MOVE" "LNapkinSyntax$Command;") "NapkinSyntax$Command" "form" "Ljava/lang/String;") (Jvm.Term.string "NapkinSyntax$Command" (89 : Nat))), (Jvm.Cond.eq (Jvm.Term.field (Jvm.Term.static "NapkinSyntax$Command" "STAIN" "LNapkinSyntax$Command;") "NapkinSyntax$Command" "form" "Ljava/lang/String;") (Jvm.Term.string "NapkinSyntax$Command" (92 : Nat))), (Jvm.Cond.eq (Jvm.Term.elem (Jvm.Term.static "NapkinSyntax" "COMMANDS" "[LNapkinSyntax$Command;") (Jvm.Term.int (0 : Int32))) (Jvm.Term.static "NapkinSyntax$Command" "NEW" "LNapkinSyntax$Command;")), (Jvm.Cond.eq (Jvm.Term.elem (Jvm.Term.static "NapkinSyntax" "COMMANDS" "[LNapkinSyntax$Command;") (Jvm.Term.int (1 : Int32))) (Jvm.Term.static "NapkinSyntax$Command" "FOLD" "LNapkinSyntax$Command;")), (Jvm.Cond.eq (Jvm.Term.elem (Jvm.Term.static "NapkinSyntax" "COMMANDS" "[LNapkinSyntax$Command;") (Jvm.Term.int (2 : Int32))) (Jvm.Term.static "NapkinSyntax$Command" "OPEN" "LNapkinSyntax$Command;")), (Jvm.Cond.eq (Jvm.Term.elem (Jvm.Term.static "NapkinSyntax" "COMMANDS" "[LNapkinSyntax$Command;") (Jvm.Term.int (3 : Int32))) (Jvm.Term.static "NapkinSyntax$Command" "TAKE" "LNapkinSyntax$Command;")), (Jvm.Cond.eq (Jvm.Term.elem (Jvm.Term.static "NapkinSyntax" "COMMANDS" "[LNapkinSyntax$Command;") (Jvm.Term.int (4 : Int32))) (Jvm.Term.static "NapkinSyntax$Command" "WASH" "LNapkinSyntax$Command;")), (Jvm.Cond.eq (Jvm.Term.elem (Jvm.Term.static "NapkinSyntax" "COMMANDS" "[LNapkinSyntax$Command;") (Jvm.Term.int (5 : Int32))) (Jvm.Term.static "NapkinSyntax$Command" "READ" "LNapkinSyntax$Command;")), (Jvm.Cond.eq (Jvm.Term.elem (Jvm.Term.static "NapkinSyntax" "COMMANDS" "[LNapkinSyntax$Command;") (Jvm.Term.int (6 : Int32))) (Jvm.Term.static "NapkinSyntax$Command" "LAY" "LNapkinSyntax$Command;")), (Jvm.Cond.eq (Jvm.Term.elem (Jvm.Term.static "NapkinSyntax" "COMMANDS" "[LNapkinSyntax$Command;") (Jvm.Term.int (7 : Int32))) (Jvm.Term.static "NapkinSyntax$Command" "MOVE" "LNapkinSyntax$Command;")), (Jvm.Cond.eq (Jvm.Term.elem (Jvm.Term.static "NapkinSyntax" "COMMANDS" "[LNapkinSyntax$Command;") (Jvm.Term.int (8 : Int32))) (Jvm.Term.static "NapkinSyntax$Command" "STAIN" "LNapkinSyntax$Command;")), (Jvm.Cond.arrayOf (Jvm.Term.static "NapkinSyntax" "COMMANDS" "[LNapkinSyntax$Command;") (Jvm.ClassFile.FieldType.object "NapkinSyntax$Command")), (Jvm.Cond.eq (Jvm.Term.length (Jvm.Term.static "NapkinSyntax" "COMMANDS" "[LNapkinSyntax$Command;")) (Jvm.Term.int (9 : Int32))), (Jvm.Cond.arrayOf (Jvm.Term.static "NapkinSyntax$1" "$SwitchMap$NapkinSyntax$Command" "[I") Jvm.ClassFile.FieldType.int), (Jvm.Cond.eq (Jvm.Term.length (Jvm.Term.static "NapkinSyntax$1" "$SwitchMap$NapkinSyntax$Command" "[I")) (Jvm.Term.int (9 : Int32))), (Jvm.Cond.eq (Jvm.Term.elem (Jvm.Term.static "NapkinSyntax$1" "$SwitchMap$NapkinSyntax$Command" "[I") (Jvm.Term.int (0 : Int32))) (Jvm.Term.int (1 : Int32))), (Jvm.Cond.eq (Jvm.Term.elem (Jvm.Term.static "NapkinSyntax$1" "$SwitchMap$NapkinSyntax$Command" "[I") (Jvm.Term.int (1 : Int32))) (Jvm.Term.int (2 : Int32))), (Jvm.Cond.eq (Jvm.Term.elem (Jvm.Term.static "NapkinSyntax$1" "$SwitchMap$NapkinSyntax$Command" "[I") (Jvm.Term.int (2 : Int32))) (Jvm.Term.int (3 : Int32))), (Jvm.Cond.eq (Jvm.Term.elem (Jvm.Term.static "NapkinSyntax$1" "$SwitchMap$NapkinSyntax$Command" "[I") (Jvm.Term.int (3 : Int32))) (Jvm.Term.int (5 : Int32))), (Jvm.Cond.eq (Jvm.Term.elem (Jvm.Term.static "NapkinSyntax$1" "$SwitchMap$NapkinSyntax$Command" "[I") (Jvm.Term.int (4 : Int32))) (Jvm.Term.int (8 : Int32))), (Jvm.Cond.eq (Jvm.Term.elem (Jvm.Term.static "NapkinSyntax$1" "$SwitchMap$NapkinSyntax$Command" "[I") (Jvm.Term.int (5 : Int32))) (Jvm.Term.int (0 : Int32))), (Jvm.Cond.eq (Jvm.Term.elem (Jvm.Term.static "NapkinSyntax$1" "$SwitchMap$NapkinSyntax$Command" "[I") (Jvm.Term.int (6 : Int32))) (Jvm.Term.int (4 : Int32))), (Jvm.Cond.eq (Jvm.Term.elem (Jvm.Term.static "NapkinSyntax$1" "$SwitchMap$NapkinSyntax$Command" "[I") (Jvm.Term.int (7 : Int32))) (Jvm.Term.int (6 : Int32))), (Jvm.Cond.eq (Jvm.Term.elem (Jvm.Term.static "NapkinSyntax$1" "$SwitchMap$NapkinSyntax$Command" "[I") (Jvm.Term.int (8 : Int32))) (Jvm.Term.int (7 : Int32))), (Jvm.Cond.arrayOf (Jvm.Term.static "NapkinSyntax" "CREASES" "[I") Jvm.ClassFile.FieldType.int), (Jvm.Cond.eq (Jvm.Term.length (Jvm.Term.static "NapkinSyntax" "CREASES" "[I")) (Jvm.Term.int (5 : Int32))), (Jvm.Cond.eq (Jvm.Term.elem (Jvm.Term.static "NapkinSyntax" "CREASES" "[I") (Jvm.Term.int (0 : Int32))) (Jvm.Term.int (0 : Int32))), (Jvm.Cond.eq (Jvm.Term.elem (Jvm.Term.static "NapkinSyntax" "CREASES" "[I") (Jvm.Term.int (1 : Int32))) (Jvm.Term.int (3 : Int32))), (Jvm.Cond.eq (Jvm.Term.elem (Jvm.Term.static "NapkinSyntax" "CREASES" "[I") (Jvm.Term.int (2 : Int32))) (Jvm.Term.int (1 : Int32))), (Jvm.Cond.eq (Jvm.Term.elem (Jvm.Term.static "NapkinSyntax" "CREASES" "[I") (Jvm.Term.int (3 : Int32))) (Jvm.Term.int (2 : Int32))), (Jvm.Cond.eq (Jvm.Term.elem (Jvm.Term.static "NapkinSyntax" "CREASES" "[I") (Jvm.Term.int (4 : Int32))) (Jvm.Term.int (2 : Int32))), (Jvm.Cond.arrayOf (Jvm.Term.static "NapkinSyntax" "SMALL_LETTERS" "[C") Jvm.ClassFile.FieldType.char), (Jvm.Cond.eq (Jvm.Term.length (Jvm.Term.static "NapkinSyntax" "SMALL_LETTERS" "[C")) (Jvm.Term.int (5 : Int32))), (Jvm.Cond.eq (Jvm.Term.elem (Jvm.Term.static "NapkinSyntax" "SMALL_LETTERS" "[C") (Jvm.Term.int (0 : Int32))) (Jvm.Term.int (46 : Int32))), (Jvm.Cond.eq (Jvm.Term.elem (Jvm.Term.static "NapkinSyntax" "SMALL_LETTERS" "[C") (Jvm.Term.int (1 : Int32))) (Jvm.Term.int (115 : Int32))), (Jvm.Cond.eq (Jvm.Term.elem (Jvm.Term.static "NapkinSyntax" "SMALL_LETTERS" "[C") (Jvm.Term.int (2 : Int32))) (Jvm.Term.int (102 : Int32))), (Jvm.Cond.eq (Jvm.Term.elem (Jvm.Term.static "NapkinSyntax" "SMALL_LETTERS" "[C") (Jvm.Term.int (3 : Int32))) (Jvm.Term.int (98 : Int32))), (Jvm.Cond.eq (Jvm.Term.elem (Jvm.Term.static "NapkinSyntax" "SMALL_LETTERS" "[C") (Jvm.Term.int (4 : Int32))) (Jvm.Term.int (99 : Int32))), (Jvm.Cond.arrayOf (Jvm.Term.static "NapkinSyntax" "BIG_LETTERS" "[C") Jvm.ClassFile.FieldType.char), (Jvm.Cond.eq (Jvm.Term.length (Jvm.Term.static "NapkinSyntax" "BIG_LETTERS" "[C")) (Jvm.Term.int (5 : Int32))), (Jvm.Cond.eq (Jvm.Term.elem (Jvm.Term.static "NapkinSyntax" "BIG_LETTERS" "[C") (Jvm.Term.int (0 : Int32))) (Jvm.Term.int (46 : Int32))), (Jvm.Cond.eq (Jvm.Term.elem (Jvm.Term.static "NapkinSyntax" "BIG_LETTERS" "[C") (Jvm.Term.int (1 : Int32))) (Jvm.Term.int (83 : Int32))), (Jvm.Cond.eq (Jvm.Term.elem (Jvm.Term.static "NapkinSyntax" "BIG_LETTERS" "[C") (Jvm.Term.int (2 : Int32))) (Jvm.Term.int (70 : Int32))), (Jvm.Cond.eq (Jvm.Term.elem (Jvm.Term.static "NapkinSyntax" "BIG_LETTERS" "[C") (Jvm.Term.int (3 : Int32))) (Jvm.Term.int (66 : Int32))), (Jvm.Cond.eq (Jvm.Term.elem (Jvm.Term.static "NapkinSyntax" "BIG_LETTERS" "[C") (Jvm.Term.int (4 : Int32))) (Jvm.Term.int (43 : Int32))), (Jvm.Cond.exactly (Jvm.Term.string "NapkinSyntax$Command" (65 : Nat)) "java/lang/String"), (Jvm.Cond.eq (Jvm.Term.field (Jvm.Term.string "NapkinSyntax$Command" (65 : Nat)) "java/lang/String" "coder" "B") (Jvm.Term.int (0 : Int32))), (Jvm.Cond.arrayOf (Jvm.Term.field (Jvm.Term.string "NapkinSyntax$Command" (65 : Nat)) "java/lang/String" "value" "[B") Jvm.ClassFile.FieldType.byte), (Jvm.Cond.eq (Jvm.Term.length (Jvm.Term.field (Jvm.Term.string "NapkinSyntax$Command" (65 : Nat)) "java/lang/String" "value" "[B")) (Jvm.Term.int (5 : Int32))), (Jvm.Cond.exactly (Jvm.Term.string "NapkinSyntax$Command" (71 : Nat)) "java/lang/String"), (Jvm.Cond.eq (Jvm.Term.field (Jvm.Term.string "NapkinSyntax$Command" (71 : Nat)) "java/lang/String" "coder" "B") (Jvm.Term.int (0 : Int32))), (Jvm.Cond.arrayOf (Jvm.Term.field (Jvm.Term.string "NapkinSyntax$Command" (71 : Nat)) "java/lang/String" "value" "[B") Jvm.ClassFile.FieldType.byte), (Jvm.Cond.eq (Jvm.Term.length (Jvm.Term.field (Jvm.Term.string "NapkinSyntax$Command" (71 : Nat)) "java/lang/String" "value" "[B")) (Jvm.Term.int (7 : Int32))), (Jvm.Cond.exactly (Jvm.Term.string "NapkinSyntax$Command" (74 : Nat)) "java/lang/String"), (Jvm.Cond.eq (Jvm.Term.field (Jvm.Term.string "NapkinSyntax$Command" (74 : Nat)) "java/lang/String" "coder" "B") (Jvm.Term.int (0 : Int32))), (Jvm.Cond.arrayOf (Jvm.Term.field (Jvm.Term.string "NapkinSyntax$Command" (74 : Nat)) "java/lang/String" "value" "[B") Jvm.ClassFile.FieldType.byte), (Jvm.Cond.eq (Jvm.Term.length (Jvm.Term.field (Jvm.Term.string "NapkinSyntax$Command" (74 : Nat)) "java/lang/String" "value" "[B")) (Jvm.Term.int (6 : Int32))), (Jvm.Cond.exactly (Jvm.Term.string "NapkinSyntax$Command" (77 : Nat)) "java/lang/String"), (Jvm.Cond.eq (Jvm.Term.field (Jvm.Term.string "NapkinSyntax$Command" (77 : Nat)) "java/lang/String" "coder" "B") (Jvm.Term.int (0 : Int32))), (Jvm.Cond.arrayOf (Jvm.Term.field (Jvm.Term.string "NapkinSyntax$Command" (77 : Nat)) "java/lang/String" "value" "[B") Jvm.ClassFile.FieldType.byte), (Jvm.Cond.eq (Jvm.Term.length (Jvm.Term.field (Jvm.Term.string "NapkinSyntax$Command" (77 : Nat)) "java/lang/String" "value" "[B")) (Jvm.Term.int (6 : Int32))), (Jvm.Cond.exactly (Jvm.Term.string "NapkinSyntax$Command" (80 : Nat)) "java/lang/String"), (Jvm.Cond.eq (Jvm.Term.field (Jvm.Term.string "NapkinSyntax$Command" (80 : Nat)) "java/lang/String" "coder" "B") (Jvm.Term.int (0 : Int32))), (Jvm.Cond.arrayOf (Jvm.Term.field (Jvm.Term.string "NapkinSyntax$Command" (80 : Nat)) "java/lang/String" "value" "[B") Jvm.ClassFile.FieldType.byte), (Jvm.Cond.eq (Jvm.Term.length (Jvm.Term.field (Jvm.Term.string "NapkinSyntax$Command" (80 : Nat)) "java/lang/String" "value" "[B")) (Jvm.Term.int (6 : Int32))), (Jvm.Cond.exactly (Jvm.Term.string "NapkinSyntax$Command" (83 : Nat)) "java/lang/String"), (Jvm.Cond.eq (Jvm.Term.field (Jvm.Term.string "NapkinSyntax$Command" (83 : Nat)) "java/lang/String" "coder" "B") (Jvm.Term.int (0 : Int32))), (Jvm.Cond.arrayOf (Jvm.Term.field (Jvm.Term.string "NapkinSyntax$Command" (83 : Nat)) "java/lang/String" "value" "[B") Jvm.ClassFile.FieldType.byte), (Jvm.Cond.eq (Jvm.Term.length (Jvm.Term.field (Jvm.Term.string "NapkinSyntax$Command" (83 : Nat)) "java/lang/String" "value" "[B")) (Jvm.Term.int (6 : Int32))), (Jvm.Cond.exactly (Jvm.Term.string "NapkinSyntax$Command" (86 : Nat)) "java/lang/String"), (Jvm.Cond.eq (Jvm.Term.field (Jvm.Term.string "NapkinSyntax$Command" (86 : Nat)) "java/lang/String" "coder" "B") (Jvm.Term.int (0 : Int32))), (Jvm.Cond.arrayOf (Jvm.Term.field (Jvm.Term.string "NapkinSyntax$Command" (86 : Nat)) "java/lang/String" "value" "[B") Jvm.ClassFile.FieldType.byte), (Jvm.Cond.eq (Jvm.Term.length (Jvm.Term.field (Jvm.Term.string "NapkinSyntax$Command" (86 : Nat)) "java/lang/String" "value" "[B")) (Jvm.Term.int (7 : Int32))), (Jvm.Cond.exactly (Jvm.Term.string "NapkinSyntax$Command" (89 : Nat)) "java/lang/String"), (Jvm.Cond.eq (Jvm.Term.field (Jvm.Term.string "NapkinSyntax$Command" (89 : Nat)) "java/lang/String" "coder" "B") (Jvm.Term.int (0 : Int32))), (Jvm.Cond.arrayOf (Jvm.Term.field (Jvm.Term.string "NapkinSyntax$Command" (89 : Nat)) "java/lang/String" "value" "[B") Jvm.ClassFile.FieldType.byte), (Jvm.Cond.eq (Jvm.Term.length (Jvm.Term.field (Jvm.Term.string "NapkinSyntax$Command" (89 : Nat)) "java/lang/String" "value" "[B")) (Jvm.Term.int (9 : Int32))), (Jvm.Cond.exactly (Jvm.Term.string "NapkinSyntax$Command" (92 : Nat)) "java/lang/String"), (Jvm.Cond.eq (Jvm.Term.field (Jvm.Term.string "NapkinSyntax$Command" (92 : Nat)) "java/lang/String" "coder" "B") (Jvm.Term.int (0 : Int32))), (Jvm.Cond.arrayOf (Jvm.Term.field (Jvm.Term.string "NapkinSyntax$Command" (92 : Nat)) "java/lang/String" "value" "[B") Jvm.ClassFile.FieldType.byte), (Jvm.Cond.eq (Jvm.Term.length (Jvm.Term.field (Jvm.Term.string "NapkinSyntax$Command" (92 : Nat)) "java/lang/String" "value" "[B")) (Jvm.Term.int (9 : Int32))), (Jvm.Cond.eq (Jvm.Term.elem (Jvm.Term.field (Jvm.Term.string "NapkinSyntax$Command" (65 : Nat)) "java/lang/String" "value" "[B") (Jvm.Term.int (0 : Int32))) (Jvm.Term.int (110 : Int32))), (Jvm.Cond.eq (Jvm.Term.elem (Jvm.Term.field (Jvm.Term.string "NapkinSyntax$Command" (65 : Nat)) "java/lang/String" "value" "[B") (Jvm.Term.int (1 : Int32))) (Jvm.Term.int (101 : Int32))), (Jvm.Cond.eq (Jvm.Term.elem (Jvm.Term.field (Jvm.Term.string "NapkinSyntax$Command" (65 : Nat)) "java/lang/String" "value" "[B") (Jvm.Term.int (2 : Int32))) (Jvm.Term.int (119 : Int32))), (Jvm.Cond.eq (Jvm.Term.elem (Jvm.Term.field (Jvm.Term.string "NapkinSyntax$Command" (65 : Nat)) "java/lang/String" "value" "[B") (Jvm.Term.int (3 : Int32))) (Jvm.Term.int (32 : Int32))), (Jvm.Cond.eq (Jvm.Term.elem (Jvm.Term.field (Jvm.Term.string "NapkinSyntax$Command" (65 : Nat)) "java/lang/String" "value" "[B") (Jvm.Term.int (4 : Int32))) (Jvm.Term.int (35 : Int32))), (Jvm.Cond.eq (Jvm.Term.elem (Jvm.Term.field (Jvm.Term.string "NapkinSyntax$Command" (71 : Nat)) "java/lang/String" "value" "[B") (Jvm.Term.int (0 : Int32))) (Jvm.Term.int (102 : Int32))), (Jvm.Cond.eq (Jvm.Term.elem (Jvm.Term.field (Jvm.Term.string "NapkinSyntax$Command" (71 : Nat)) "java/lang/String" "value" "[B") (Jvm.Term.int (1 : Int32))) (Jvm.Term.int (111 : Int32))), (Jvm.Cond.eq (Jvm.Term.elem (Jvm.Term.field (Jvm.Term.string "NapkinSyntax$Command" (71 : Nat)) "java/lang/String" "value" "[B") (Jvm.Term.int (2 : Int32))) (Jvm.Term.int (108 : Int32))), (Jvm.Cond.eq (Jvm.Term.elem (Jvm.Term.field (Jvm.Term.string "NapkinSyntax$Command" (71 : Nat)) "java/lang/String" "value" "[B") (Jvm.Term.int (3 : Int32))) (Jvm.Term.int (100 : Int32))), (Jvm.Cond.eq (Jvm.Term.elem (Jvm.Term.field (Jvm.Term.string "NapkinSyntax$Command" (71 : Nat)) "java/lang/String" "value" "[B") (Jvm.Term.int (4 : Int32))) (Jvm.Term.int (32 : Int32))), (Jvm.Cond.eq (Jvm.Term.elem (Jvm.Term.field (Jvm.Term.string "NapkinSyntax$Command" (71 : Nat)) "java/lang/String" "value" "[B") (Jvm.Term.int (5 : Int32))) (Jvm.Term.int (35 : Int32))), (Jvm.Cond.eq (Jvm.Term.elem (Jvm.Term.field (Jvm.Term.string "NapkinSyntax$Command" (71 : Nat)) "java/lang/String" "value" "[B") (Jvm.Term.int (6 : Int32))) (Jvm.Term.int (64 : Int32))), (Jvm.Cond.eq (Jvm.Term.elem (Jvm.Term.field (Jvm.Term.string "NapkinSyntax$Command" (74 : Nat)) "java/lang/String" "value" "[B") (Jvm.Term.int (0 : Int32))) (Jvm.Term.int (111 : Int32))), (Jvm.Cond.eq (Jvm.Term.elem (Jvm.Term.field (Jvm.Term.string "NapkinSyntax$Command" (74 : Nat)) "java/lang/String" "value" "[B") (Jvm.Term.int (1 : Int32))) (Jvm.Term.int (112 : Int32))), (Jvm.Cond.eq (Jvm.Term.elem (Jvm.Term.field (Jvm.Term.string "NapkinSyntax$Command" (74 : Nat)) "java/lang/String" "value" "[B") (Jvm.Term.int (2 : Int32))) (Jvm.Term.int (101 : Int32))), (Jvm.Cond.eq (Jvm.Term.elem (Jvm.Term.field (Jvm.Term.string "NapkinSyntax$Command" (74 : Nat)) "java/lang/String" "value" "[B") (Jvm.Term.int (3 : Int32))) (Jvm.Term.int (110 : Int32))), (Jvm.Cond.eq (Jvm.Term.elem (Jvm.Term.field (Jvm.Term.string "NapkinSyntax$Command" (74 : Nat)) "java/lang/String" "value" "[B") (Jvm.Term.int (4 : Int32))) (Jvm.Term.int (32 : Int32))), (Jvm.Cond.eq (Jvm.Term.elem (Jvm.Term.field (Jvm.Term.string "NapkinSyntax$Command" (74 : Nat)) "java/lang/String" "value" "[B") (Jvm.Term.int (5 : Int32))) (Jvm.Term.int (35 : Int32))), (Jvm.Cond.eq (Jvm.Term.elem (Jvm.Term.field (Jvm.Term.string "NapkinSyntax$Command" (77 : Nat)) "java/lang/String" "value" "[B") (Jvm.Term.int (0 : Int32))) (Jvm.Term.int (116 : Int32))), (Jvm.Cond.eq (Jvm.Term.elem (Jvm.Term.field (Jvm.Term.string "NapkinSyntax$Command" (77 : Nat)) "java/lang/String" "value" "[B") (Jvm.Term.int (1 : Int32))) (Jvm.Term.int (97 : Int32))), (Jvm.Cond.eq (Jvm.Term.elem (Jvm.Term.field (Jvm.Term.string "NapkinSyntax$Command" (77 : Nat)) "java/lang/String" "value" "[B") (Jvm.Term.int (2 : Int32))) (Jvm.Term.int (107 : Int32))), (Jvm.Cond.eq (Jvm.Term.elem (Jvm.Term.field (Jvm.Term.string "NapkinSyntax$Command" (77 : Nat)) "java/lang/String" "value" "[B") (Jvm.Term.int (3 : Int32))) (Jvm.Term.int (101 : Int32))), (Jvm.Cond.eq (Jvm.Term.elem (Jvm.Term.field (Jvm.Term.string "NapkinSyntax$Command" (77 : Nat)) "java/lang/String" "value" "[B") (Jvm.Term.int (4 : Int32))) (Jvm.Term.int (32 : Int32))), (Jvm.Cond.eq (Jvm.Term.elem (Jvm.Term.field (Jvm.Term.string "NapkinSyntax$Command" (77 : Nat)) "java/lang/String" "value" "[B") (Jvm.Term.int (5 : Int32))) (Jvm.Term.int (35 : Int32))), (Jvm.Cond.eq (Jvm.Term.elem (Jvm.Term.field (Jvm.Term.string "NapkinSyntax$Command" (80 : Nat)) "java/lang/String" "value" "[B") (Jvm.Term.int (0 : Int32))) (Jvm.Term.int (119 : Int32))), (Jvm.Cond.eq (Jvm.Term.elem (Jvm.Term.field (Jvm.Term.string "NapkinSyntax$Command" (80 : Nat)) "java/lang/String" "value" "[B") (Jvm.Term.int (1 : Int32))) (Jvm.Term.int (97 : Int32))), (Jvm.Cond.eq (Jvm.Term.elem (Jvm.Term.field (Jvm.Term.string "NapkinSyntax$Command" (80 : Nat)) "java/lang/String" "value" "[B") (Jvm.Term.int (2 : Int32))) (Jvm.Term.int (115 : Int32))), (Jvm.Cond.eq (Jvm.Term.elem (Jvm.Term.field (Jvm.Term.string "NapkinSyntax$Command" (80 : Nat)) "java/lang/String" "value" "[B") (Jvm.Term.int (3 : Int32))) (Jvm.Term.int (104 : Int32))), (Jvm.Cond.eq (Jvm.Term.elem (Jvm.Term.field (Jvm.Term.string "NapkinSyntax$Command" (80 : Nat)) "java/lang/String" "value" "[B") (Jvm.Term.int (4 : Int32))) (Jvm.Term.int (32 : Int32))), (Jvm.Cond.eq (Jvm.Term.elem (Jvm.Term.field (Jvm.Term.string "NapkinSyntax$Command" (80 : Nat)) "java/lang/String" "value" "[B") (Jvm.Term.int (5 : Int32))) (Jvm.Term.int (35 : Int32))), (Jvm.Cond.eq (Jvm.Term.elem (Jvm.Term.field (Jvm.Term.string "NapkinSyntax$Command" (83 : Nat)) "java/lang/String" "value" "[B") (Jvm.Term.int (0 : Int32))) (Jvm.Term.int (114 : Int32))), (Jvm.Cond.eq (Jvm.Term.elem (Jvm.Term.field (Jvm.Term.string "NapkinSyntax$Command" (83 : Nat)) "java/lang/String" "value" "[B") (Jvm.Term.int (1 : Int32))) (Jvm.Term.int (101 : Int32))), (Jvm.Cond.eq (Jvm.Term.elem (Jvm.Term.field (Jvm.Term.string "NapkinSyntax$Command" (83 : Nat)) "java/lang/String" "value" "[B") (Jvm.Term.int (2 : Int32))) (Jvm.Term.int (97 : Int32))), (Jvm.Cond.eq (Jvm.Term.elem (Jvm.Term.field (Jvm.Term.string "NapkinSyntax$Command" (83 : Nat)) "java/lang/String" "value" "[B") (Jvm.Term.int (3 : Int32))) (Jvm.Term.int (100 : Int32))), (Jvm.Cond.eq (Jvm.Term.elem (Jvm.Term.field (Jvm.Term.string "NapkinSyntax$Command" (83 : Nat)) "java/lang/String" "value" "[B") (Jvm.Term.int (4 : Int32))) (Jvm.Term.int (32 : Int32))), (Jvm.Cond.eq (Jvm.Term.elem (Jvm.Term.field (Jvm.Term.string "NapkinSyntax$Command" (83 : Nat)) "java/lang/String" "value" "[B") (Jvm.Term.int (5 : Int32))) (Jvm.Term.int (35 : Int32))), (Jvm.Cond.eq (Jvm.Term.elem (Jvm.Term.field (Jvm.Term.string "NapkinSyntax$Command" (86 : Nat)) "java/lang/String" "value" "[B") (Jvm.Term.int (0 : Int32))) (Jvm.Term.int (108 : Int32))), (Jvm.Cond.eq (Jvm.Term.elem (Jvm.Term.field (Jvm.Term.string "NapkinSyntax$Command" (86 : Nat)) "java/lang/String" "value" "[B") (Jvm.Term.int (1 : Int32))) (Jvm.Term.int (97 : Int32))), (Jvm.Cond.eq (Jvm.Term.elem (Jvm.Term.field (Jvm.Term.string "NapkinSyntax$Command" (86 : Nat)) "java/lang/String" "value" "[B") (Jvm.Term.int (2 : Int32))) (Jvm.Term.int (121 : Int32))), (Jvm.Cond.eq (Jvm.Term.elem (Jvm.Term.field (Jvm.Term.string "NapkinSyntax$Command" (86 : Nat)) "java/lang/String" "value" "[B") (Jvm.Term.int (3 : Int32))) (Jvm.Term.int (32 : Int32))), (Jvm.Cond.eq (Jvm.Term.elem (Jvm.Term.field (Jvm.Term.string "NapkinSyntax$Command" (86 : Nat)) "java/lang/String" "value" "[B") (Jvm.Term.int (4 : Int32))) (Jvm.Term.int (35 : Int32))), (Jvm.Cond.eq (Jvm.Term.elem (Jvm.Term.field (Jvm.Term.string "NapkinSyntax$Command" (86 : Nat)) "java/lang/String" "value" "[B") (Jvm.Term.int (5 : Int32))) (Jvm.Term.int (32 : Int32))), (Jvm.Cond.eq (Jvm.Term.elem (Jvm.Term.field (Jvm.Term.string "NapkinSyntax$Command" (86 : Nat)) "java/lang/String" "value" "[B") (Jvm.Term.int (6 : Int32))) (Jvm.Term.int (35 : Int32))), (Jvm.Cond.eq (Jvm.Term.elem (Jvm.Term.field (Jvm.Term.string "NapkinSyntax$Command" (89 : Nat)) "java/lang/String" "value" "[B") (Jvm.Term.int (0 : Int32))) (Jvm.Term.int (109 : Int32))), (Jvm.Cond.eq (Jvm.Term.elem (Jvm.Term.field (Jvm.Term.string "NapkinSyntax$Command" (89 : Nat)) "java/lang/String" "value" "[B") (Jvm.Term.int (1 : Int32))) (Jvm.Term.int (111 : Int32))), (Jvm.Cond.eq (Jvm.Term.elem (Jvm.Term.field (Jvm.Term.string "NapkinSyntax$Command" (89 : Nat)) "java/lang/String" "value" "[B") (Jvm.Term.int (2 : Int32))) (Jvm.Term.int (118 : Int32))), (Jvm.Cond.eq (Jvm.Term.elem (Jvm.Term.field (Jvm.Term.string "NapkinSyntax$Command" (89 : Nat)) "java/lang/String" "value" "[B") (Jvm.Term.int (3 : Int32))) (Jvm.Term.int (101 : Int32))), (Jvm.Cond.eq (Jvm.Term.elem (Jvm.Term.field (Jvm.Term.string "NapkinSyntax$Command" (89 : Nat)) "java/lang/String" "value" "[B") (Jvm.Term.int (4 : Int32))) (Jvm.Term.int (32 : Int32))), (Jvm.Cond.eq (Jvm.Term.elem (Jvm.Term.field (Jvm.Term.string "NapkinSyntax$Command" (89 : Nat)) "java/lang/String" "value" "[B") (Jvm.Term.int (5 : Int32))) (Jvm.Term.int (35 : Int32))), (Jvm.Cond.eq (Jvm.Term.elem (Jvm.Term.field (Jvm.Term.string "NapkinSyntax$Command" (89 : Nat)) "java/lang/String" "value" "[B") (Jvm.Term.int (6 : Int32))) (Jvm.Term.int (32 : Int32))), (Jvm.Cond.eq (Jvm.Term.elem (Jvm.Term.field (Jvm.Term.string "NapkinSyntax$Command" (89 : Nat)) "java/lang/String" "value" "[B") (Jvm.Term.int (7 : Int32))) (Jvm.Term.int (35 : Int32))), (Jvm.Cond.eq (Jvm.Term.elem (Jvm.Term.field (Jvm.Term.string "NapkinSyntax$Command" (89 : Nat)) "java/lang/String" "value" "[B") (Jvm.Term.int (8 : Int32))) (Jvm.Term.int (35 : Int32))), (Jvm.Cond.eq (Jvm.Term.elem (Jvm.Term.field (Jvm.Term.string "NapkinSyntax$Command" (92 : Nat)) "java/lang/String" "value" "[B") (Jvm.Term.int (0 : Int32))) (Jvm.Term.int (115 : Int32))), (Jvm.Cond.eq (Jvm.Term.elem (Jvm.Term.field (Jvm.Term.string "NapkinSyntax$Command" (92 : Nat)) "java/lang/String" "value" "[B") (Jvm.Term.int (1 : Int32))) (Jvm.Term.int (116 : Int32))), (Jvm.Cond.eq (Jvm.Term.elem (Jvm.Term.field (Jvm.Term.string "NapkinSyntax$Command" (92 : Nat)) "java/lang/String" "value" "[B") (Jvm.Term.int (2 : Int32))) (Jvm.Term.int (97 : Int32))), (Jvm.Cond.eq (Jvm.Term.elem (Jvm.Term.field (Jvm.Term.string "NapkinSyntax$Command" (92 : Nat)) "java/lang/String" "value" "[B") (Jvm.Term.int (3 : Int32))) (Jvm.Term.int (105 : Int32))), (Jvm.Cond.eq (Jvm.Term.elem (Jvm.Term.field (Jvm.Term.string "NapkinSyntax$Command" (92 : Nat)) "java/lang/String" "value" "[B") (Jvm.Term.int (4 : Int32))) (Jvm.Term.int (110 : Int32))), (Jvm.Cond.eq (Jvm.Term.elem (Jvm.Term.field (Jvm.Term.string "NapkinSyntax$Command" (92 : Nat)) "java/lang/String" "value" "[B") (Jvm.Term.int (5 : Int32))) (Jvm.Term.int (32 : Int32))), (Jvm.Cond.eq (Jvm.Term.elem (Jvm.Term.field (Jvm.Term.string "NapkinSyntax$Command" (92 : Nat)) "java/lang/String" "value" "[B") (Jvm.Term.int (6 : Int32))) (Jvm.Term.int (35 : Int32))), (Jvm.Cond.eq (Jvm.Term.elem (Jvm.Term.field (Jvm.Term.string "NapkinSyntax$Command" (92 : Nat)) "java/lang/String" "value" "[B") (Jvm.Term.int (7 : Int32))) (Jvm.Term.int (43 : Int32))), (Jvm.Cond.eq (Jvm.Term.elem (Jvm.Term.field (Jvm.Term.string "NapkinSyntax$Command" (92 : Nat)) "java/lang/String" "value" "[B") (Jvm.Term.int (8 : Int32))) (Jvm.Term.int (35 : Int32))), (Jvm.Cond.exactly (Jvm.Term.string "NapkinSyntax" (112 : Nat)) "java/lang/String"), (Jvm.Cond.exactly (Jvm.Term.string "NapkinSyntax" (141 : Nat)) "java/lang/String"), (Jvm.Cond.exactly (Jvm.Term.string "NapkinSyntax" (170 : Nat)) "java/lang/String"), (Jvm.Cond.exactly (Jvm.Term.string "NapkinSyntax" (178 : Nat)) "java/lang/String"), (Jvm.Cond.exactly (Jvm.Term.string "NapkinSyntax" (203 : Nat)) "java/lang/String"), (Jvm.Cond.exactly (Jvm.Term.string "NapkinSyntax" (217 : Nat)) "java/lang/String"), (Jvm.Cond.exactly (Jvm.Term.string "NapkinSyntax" (225 : Nat)) "java/lang/String"), (Jvm.Cond.exactly (Jvm.Term.string "NapkinSyntax" (238 : Nat)) "java/lang/String"), (Jvm.Cond.exactly (Jvm.Term.string "NapkinSyntax" (263 : Nat)) "java/lang/String"), (Jvm.Cond.exactly (Jvm.Term.string "NapkinSyntax" (279 : Nat)) "java/lang/String"), (Jvm.Cond.exactly (Jvm.Term.string "NapkinSyntax" (317 : Nat)) "java/lang/String"), (Jvm.Cond.exactly (Jvm.Term.string "NapkinSyntax" (323 : Nat)) "java/lang/String"), (Jvm.Cond.exactly (Jvm.Term.string "NapkinSyntax" (325 : Nat)) "java/lang/String"), (Jvm.Cond.exactly (Jvm.Term.string "NapkinSyntax" (346 : Nat)) "java/lang/String"), (Jvm.Cond.exactly (Jvm.Term.string "NapkinSyntax" (380 : Nat)) "java/lang/String"), (Jvm.Cond.exactly (Jvm.Term.string "NapkinSyntax" (384 : Nat)) "java/lang/String"), (Jvm.Cond.exactly (Jvm.Term.string "NapkinSyntax" (389 : Nat)) "java/lang/String"), (Jvm.Cond.exactly (Jvm.Term.string "NapkinSyntax" (392 : Nat)) "java/lang/String"), (Jvm.Cond.exactly (Jvm.Term.string "NapkinSyntax" (394 : Nat)) "java/lang/String"), (Jvm.Cond.exactly (Jvm.Term.string "NapkinSyntax" (396 : Nat)) "java/lang/String"), (Jvm.Cond.exactly (Jvm.Term.string "NapkinSyntax" (401 : Nat)) "java/lang/String"), (Jvm.Cond.not (Jvm.Cond.castable "java/lang/IllegalArgumentException" "java/lang/UnsupportedOperationException")), (Jvm.Cond.not (Jvm.Cond.castable "java/lang/IndexOutOfBoundsException" "java/lang/UnsupportedOperationException")), (Jvm.Cond.not (Jvm.Cond.castable "java/lang/IndexOutOfBoundsException" "java/lang/IllegalArgumentException")), (Jvm.Cond.not (Jvm.Cond.castable "java/lang/UnsupportedOperationException" "java/lang/IllegalArgumentException")), (Jvm.Cond.eq (Jvm.Term.static "java/lang/String" "COMPACT_STRINGS" "Z") (Jvm.Term.int (1 : Int32))), (Jvm.Cond.isRef (Jvm.Term.static "java/lang/Throwable" "UNASSIGNED_STACK" "[Ljava/lang/StackTraceElement;")), (Jvm.Cond.isRef (Jvm.Term.static "java/lang/Throwable" "SUPPRESSED_SENTINEL" "Ljava/util/List;")), (Jvm.Cond.isRef (Jvm.Term.static "jdk/internal/util/Preconditions" "SIOOBE_FORMATTER" "Ljava/util/function/BiFunction;"))]
set_option maxHeartbeats 4000000 in
set_option maxRecDepth 100000 in
theorem nwl_ok {args : Array Value} {s : State} (h : (Jvm.Cond.and given_1 narrow_1).before args s = true) : ∀ w ∈ nwl, w.before args s = true := nFl_ok [(0, 111), (0, 2), (0, 27), (0, 36), (0, 57), (0, 66), (0, 31), (0, 42), (0, 49), (0, 112), (0, 3), (0, 28), (0, 37), (0, 58), (0, 67), (0, 32), (0, 43), (0, 50), (0, 113), (0, 4), (0, 29), (0, 38), (0, 59), (0, 68), (0, 33), (0, 44), (0, 51), (0, 81), (0, 82), (0, 83), (0, 84), (0, 85), (0, 86), (0, 87), (0, 88), (0, 89), (0, 78), (0, 79), (0, 6), (0, 7), (0, 8), (0, 9), (0, 10), (0, 11), (0, 12), (0, 13), (0, 14), (0, 15), (0, 16), (0, 18), (0, 19), (0, 20), (0, 21), (0, 22), (0, 23), (0, 24), (0, 96), (0, 97), (0, 98), (0, 99), (0, 100), (0, 101), (0, 102), (0, 104), (0, 105), (0, 106), (0, 107), (0, 108), (0, 109), (0, 110), (3, 208), (3, 209), (3, 210), (3, 211), (3, 120), (3, 121), (3, 122), (3, 123), (3, 131), (3, 132), (3, 133), (3, 134), (3, 152), (3, 153), (3, 154), (3, 155), (3, 188), (3, 189), (3, 190), (3, 191), (3, 198), (3, 199), (3, 200), (3, 201), (3, 141), (3, 142), (3, 143), (3, 144), (3, 162), (3, 163), (3, 164), (3, 165), (3, 175), (3, 176), (3, 177), (3, 178), (3, 212), (3, 213), (3, 214), (3, 215), (3, 216), (3, 124), (3, 125), (3, 126), (3, 127), (3, 128), (3, 129), (3, 130), (3, 135), (3, 136), (3, 137), (3, 138), (3, 139), (3, 140), (3, 156), (3, 157), (3, 158), (3, 159), (3, 160), (3, 161), (3, 192), (3, 193), (3, 194), (3, 195), (3, 196), (3, 197), (3, 202), (3, 203), (3, 204), (3, 205), (3, 206), (3, 207), (3, 145), (3, 146), (3, 147), (3, 148), (3, 149), (3, 150), (3, 151), (3, 166), (3, 167), (3, 168), (3, 169), (3, 170), (3, 171), (3, 172), (3, 173), (3, 174), (3, 179), (3, 180), (3, 181), (3, 182), (3, 183), (3, 184), (3, 185), (3, 186), (3, 187), (1, 87), (1, 114), (1, 163), (1, 301), (1, 186), (1, 213), (1, 236), (1, 275), (2, 108), (1, 327), (1, 352), (2, 165), (1, 388), (2, 135), (2, 33), (2, 57), (2, 84), (0, 391), (1, 34), (1, 64), (1, 137), (0, 338), (0, 337), (0, 353), (0, 354), (0, 90), (0, 25), (0, 26), (0, 91)] (by decide +kernel) h
theorem st_ex {args : Array Value} {s : State} {t : Term} {cls : String} (h : (Cond.exactly t cls).before args s = true) : ∃ a : Nat, t.eval args s none [] s = some (.ref a) := by
  obtain ⟨a, c, cA, kA, q1, -⟩ := Cond.exactly_spec (args := args) (first := s) (o := none) (s := s) (idx := []) (t := t) (cls := cls) h
  exact ⟨a, q1⟩
def cmT (j : Nat) : Term := Term.static RX1 (cmN j) "LNapkinSyntax$Command;"
def fmT (j : Nat) : Term := Term.string RX1 (([65, 71, 74, 77, 80, 83, 86, 89, 92] : List Nat).getD j 0)
def txT (j : Nat) : Term := Term.string RX8 (([112, 141, 170, 178, 112, 203, 217, 225, 238, 263, 279, 317, 323, 325, 346, 380, 112, 384, 389, 392, 394, 396, 401] : List Nat).getD j 0)
def flN (j : Nat) : Nat := ([5, 7, 6, 6, 6, 6, 7, 9, 9] : List Nat).getD j 0
theorem sf_lay {args : Array Value} {s : State} (hts : ∀ w ∈ lw_tbl, w.before args s = true) : ∀ i : Nat, i < 9 → (Cond.laysStatic RX1 (cmN i) "LNapkinSyntax$Command;").before args s = true := by
  intro i hi
  rcases (show i = 0 ∨ i = 1 ∨ i = 2 ∨ i = 3 ∨ i = 4 ∨ i = 5 ∨ i = 6 ∨ i = 7 ∨ i = 8 by omega) with rfl | rfl | rfl | rfl | rfl | rfl | rfl | rfl | rfl
  · exact hts (.laysStatic RX1 "NEW" "LNapkinSyntax$Command;") (by decide +kernel)
  · exact hts (.laysStatic RX1 "FOLD" "LNapkinSyntax$Command;") (by decide +kernel)
  · exact hts (.laysStatic RX1 "OPEN" "LNapkinSyntax$Command;") (by decide +kernel)
  · exact hts (.laysStatic RX1 "TAKE" "LNapkinSyntax$Command;") (by decide +kernel)
  · exact hts (.laysStatic RX1 "WASH" "LNapkinSyntax$Command;") (by decide +kernel)
  · exact hts (.laysStatic RX1 "READ" "LNapkinSyntax$Command;") (by decide +kernel)
  · exact hts (.laysStatic RX1 "LAY" "LNapkinSyntax$Command;") (by decide +kernel)
  · exact hts (.laysStatic RX1 "MOVE" "LNapkinSyntax$Command;") (by decide +kernel)
  · exact hts (.laysStatic RX1 "STAIN" "LNapkinSyntax$Command;") (by decide +kernel)
section
variable {args : Array Value} {s : State}
theorem sf_ex (hN : ∀ w ∈ nwl, w.before args s = true) : ∀ i : Nat, i < 9 → (Cond.exactly (cmT i) RX1).before args s = true := by
  intro i hi
  rcases (show i = 0 ∨ i = 1 ∨ i = 2 ∨ i = 3 ∨ i = 4 ∨ i = 5 ∨ i = 6 ∨ i = 7 ∨ i = 8 by omega) with rfl | rfl | rfl | rfl | rfl | rfl | rfl | rfl | rfl
  · exact hN _ (List.mem_of_getElem? (i := 0) rfl)
  · exact hN _ (List.mem_of_getElem? (i := 1) rfl)
  · exact hN _ (List.mem_of_getElem? (i := 2) rfl)
  · exact hN _ (List.mem_of_getElem? (i := 3) rfl)
  · exact hN _ (List.mem_of_getElem? (i := 4) rfl)
  · exact hN _ (List.mem_of_getElem? (i := 5) rfl)
  · exact hN _ (List.mem_of_getElem? (i := 6) rfl)
  · exact hN _ (List.mem_of_getElem? (i := 7) rfl)
  · exact hN _ (List.mem_of_getElem? (i := 8) rfl)
theorem sf_ord (hN : ∀ w ∈ nwl, w.before args s = true) : ∀ i : Nat, i < 9 → (Term.field (cmT i) "java/lang/Enum" "ordinal" "I").eval args s none [] s = some (.int (iI (i : Int))) := by
  intro i hi
  rcases (show i = 0 ∨ i = 1 ∨ i = 2 ∨ i = 3 ∨ i = 4 ∨ i = 5 ∨ i = 6 ∨ i = 7 ∨ i = 8 by omega) with rfl | rfl | rfl | rfl | rfl | rfl | rfl | rfl | rfl
  · rw [show iI (((0 : Nat)) : Int) = 0 from by decide +kernel]; exact va_eqt (hN _ (List.mem_of_getElem? (i := 9) rfl))
  · rw [show iI (((1 : Nat)) : Int) = 1 from by decide +kernel]; exact va_eqt (hN _ (List.mem_of_getElem? (i := 10) rfl))
  · rw [show iI (((2 : Nat)) : Int) = 2 from by decide +kernel]; exact va_eqt (hN _ (List.mem_of_getElem? (i := 11) rfl))
  · rw [show iI (((3 : Nat)) : Int) = 3 from by decide +kernel]; exact va_eqt (hN _ (List.mem_of_getElem? (i := 12) rfl))
  · rw [show iI (((4 : Nat)) : Int) = 4 from by decide +kernel]; exact va_eqt (hN _ (List.mem_of_getElem? (i := 13) rfl))
  · rw [show iI (((5 : Nat)) : Int) = 5 from by decide +kernel]; exact va_eqt (hN _ (List.mem_of_getElem? (i := 14) rfl))
  · rw [show iI (((6 : Nat)) : Int) = 6 from by decide +kernel]; exact va_eqt (hN _ (List.mem_of_getElem? (i := 15) rfl))
  · rw [show iI (((7 : Nat)) : Int) = 7 from by decide +kernel]; exact va_eqt (hN _ (List.mem_of_getElem? (i := 16) rfl))
  · rw [show iI (((8 : Nat)) : Int) = 8 from by decide +kernel]; exact va_eqt (hN _ (List.mem_of_getElem? (i := 17) rfl))
theorem sf_frm (hN : ∀ w ∈ nwl, w.before args s = true) : ∀ i : Nat, i < 9 → (Cond.eq (.field (cmT i) RX1 "form" "Ljava/lang/String;") (fmT i)).before args s = true := by
  intro i hi
  rcases (show i = 0 ∨ i = 1 ∨ i = 2 ∨ i = 3 ∨ i = 4 ∨ i = 5 ∨ i = 6 ∨ i = 7 ∨ i = 8 by omega) with rfl | rfl | rfl | rfl | rfl | rfl | rfl | rfl | rfl
  · exact hN _ (List.mem_of_getElem? (i := 18) rfl)
  · exact hN _ (List.mem_of_getElem? (i := 19) rfl)
  · exact hN _ (List.mem_of_getElem? (i := 20) rfl)
  · exact hN _ (List.mem_of_getElem? (i := 21) rfl)
  · exact hN _ (List.mem_of_getElem? (i := 22) rfl)
  · exact hN _ (List.mem_of_getElem? (i := 23) rfl)
  · exact hN _ (List.mem_of_getElem? (i := 24) rfl)
  · exact hN _ (List.mem_of_getElem? (i := 25) rfl)
  · exact hN _ (List.mem_of_getElem? (i := 26) rfl)
theorem sf_ce (hN : ∀ w ∈ nwl, w.before args s = true) : ∀ i : Nat, i < 9 → (Cond.eq (.elem (.static RX8 "COMMANDS" "[LNapkinSyntax$Command;") (.int (Int32.ofNat i))) (cmT i)).before args s = true := by
  intro i hi
  rcases (show i = 0 ∨ i = 1 ∨ i = 2 ∨ i = 3 ∨ i = 4 ∨ i = 5 ∨ i = 6 ∨ i = 7 ∨ i = 8 by omega) with rfl | rfl | rfl | rfl | rfl | rfl | rfl | rfl | rfl
  · exact hN _ (List.mem_of_getElem? (i := 27) rfl)
  · exact hN _ (List.mem_of_getElem? (i := 28) rfl)
  · exact hN _ (List.mem_of_getElem? (i := 29) rfl)
  · exact hN _ (List.mem_of_getElem? (i := 30) rfl)
  · exact hN _ (List.mem_of_getElem? (i := 31) rfl)
  · exact hN _ (List.mem_of_getElem? (i := 32) rfl)
  · exact hN _ (List.mem_of_getElem? (i := 33) rfl)
  · exact hN _ (List.mem_of_getElem? (i := 34) rfl)
  · exact hN _ (List.mem_of_getElem? (i := 35) rfl)
theorem sf_ca (hN : ∀ w ∈ nwl, w.before args s = true) : (Cond.arrayOf (.static RX8 "COMMANDS" "[LNapkinSyntax$Command;") (.object "NapkinSyntax$Command")).before args s = true ∧ (Term.length (.static RX8 "COMMANDS" "[LNapkinSyntax$Command;")).eval args s none [] s = some (.int (Int32.ofNat 9)) := by
  exact ⟨hN _ (List.mem_of_getElem? (i := 36) rfl), va_eqt (hN _ (List.mem_of_getElem? (i := 37) rfl))⟩
theorem sf_sw (hN : ∀ w ∈ nwl, w.before args s = true) : (Cond.arrayOf (.static RX0 "$SwitchMap$NapkinSyntax$Command" "[I") .int).before args s = true ∧ (Term.length (.static RX0 "$SwitchMap$NapkinSyntax$Command" "[I")).eval args s none [] s = some (.int (Int32.ofNat 9)) ∧ ∀ j : Nat, j < 9 → (Term.elem (.static RX0 "$SwitchMap$NapkinSyntax$Command" "[I") (.int (Int32.ofNat j))).eval args s none [] s = some (.int (iI (swm j))) := by
  refine ⟨hN _ (List.mem_of_getElem? (i := 38) rfl), va_eqt (hN _ (List.mem_of_getElem? (i := 39) rfl)), ?_⟩
  intro j hj
  rcases (show j = 0 ∨ j = 1 ∨ j = 2 ∨ j = 3 ∨ j = 4 ∨ j = 5 ∨ j = 6 ∨ j = 7 ∨ j = 8 by omega) with rfl | rfl | rfl | rfl | rfl | rfl | rfl | rfl | rfl
  · rw [show iI (swm (((0 : Nat)) : Int)) = 1 from by decide +kernel]; exact va_eqt (hN _ (List.mem_of_getElem? (i := 40) rfl))
  · rw [show iI (swm (((1 : Nat)) : Int)) = 2 from by decide +kernel]; exact va_eqt (hN _ (List.mem_of_getElem? (i := 41) rfl))
  · rw [show iI (swm (((2 : Nat)) : Int)) = 3 from by decide +kernel]; exact va_eqt (hN _ (List.mem_of_getElem? (i := 42) rfl))
  · rw [show iI (swm (((3 : Nat)) : Int)) = 5 from by decide +kernel]; exact va_eqt (hN _ (List.mem_of_getElem? (i := 43) rfl))
  · rw [show iI (swm (((4 : Nat)) : Int)) = 8 from by decide +kernel]; exact va_eqt (hN _ (List.mem_of_getElem? (i := 44) rfl))
  · rw [show iI (swm (((5 : Nat)) : Int)) = 0 from by decide +kernel]; exact va_eqt (hN _ (List.mem_of_getElem? (i := 45) rfl))
  · rw [show iI (swm (((6 : Nat)) : Int)) = 4 from by decide +kernel]; exact va_eqt (hN _ (List.mem_of_getElem? (i := 46) rfl))
  · rw [show iI (swm (((7 : Nat)) : Int)) = 6 from by decide +kernel]; exact va_eqt (hN _ (List.mem_of_getElem? (i := 47) rfl))
  · rw [show iI (swm (((8 : Nat)) : Int)) = 7 from by decide +kernel]; exact va_eqt (hN _ (List.mem_of_getElem? (i := 48) rfl))
theorem sf_cr (hN : ∀ w ∈ nwl, w.before args s = true) : (Cond.arrayOf (.static RX8 "CREASES" "[I") .int).before args s = true ∧ (Term.length (.static RX8 "CREASES" "[I")).eval args s none [] s = some (.int (Int32.ofNat 5)) ∧ ∀ j : Nat, j < 5 → (Term.elem (.static RX8 "CREASES" "[I") (.int (Int32.ofNat j))).eval args s none [] s = some (.int (iI (crs j))) := by
  refine ⟨hN _ (List.mem_of_getElem? (i := 49) rfl), va_eqt (hN _ (List.mem_of_getElem? (i := 50) rfl)), ?_⟩
  intro j hj
  rcases (show j = 0 ∨ j = 1 ∨ j = 2 ∨ j = 3 ∨ j = 4 by omega) with rfl | rfl | rfl | rfl | rfl
  · rw [show iI (crs (((0 : Nat)) : Int)) = 0 from by decide +kernel]; exact va_eqt (hN _ (List.mem_of_getElem? (i := 51) rfl))
  · rw [show iI (crs (((1 : Nat)) : Int)) = 3 from by decide +kernel]; exact va_eqt (hN _ (List.mem_of_getElem? (i := 52) rfl))
  · rw [show iI (crs (((2 : Nat)) : Int)) = 1 from by decide +kernel]; exact va_eqt (hN _ (List.mem_of_getElem? (i := 53) rfl))
  · rw [show iI (crs (((3 : Nat)) : Int)) = 2 from by decide +kernel]; exact va_eqt (hN _ (List.mem_of_getElem? (i := 54) rfl))
  · rw [show iI (crs (((4 : Nat)) : Int)) = 2 from by decide +kernel]; exact va_eqt (hN _ (List.mem_of_getElem? (i := 55) rfl))
theorem sf_sm (hN : ∀ w ∈ nwl, w.before args s = true) : (Cond.arrayOf (.static RX8 "SMALL_LETTERS" "[C") .char).before args s = true ∧ (Term.length (.static RX8 "SMALL_LETTERS" "[C")).eval args s none [] s = some (.int (Int32.ofNat 5)) ∧ ∀ j : Nat, j < 5 → (Term.elem (.static RX8 "SMALL_LETTERS" "[C") (.int (Int32.ofNat j))).eval args s none [] s = some (.int (iI (sml j))) := by
  refine ⟨hN _ (List.mem_of_getElem? (i := 56) rfl), va_eqt (hN _ (List.mem_of_getElem? (i := 57) rfl)), ?_⟩
  intro j hj
  rcases (show j = 0 ∨ j = 1 ∨ j = 2 ∨ j = 3 ∨ j = 4 by omega) with rfl | rfl | rfl | rfl | rfl
  · rw [show iI (sml (((0 : Nat)) : Int)) = 46 from by decide +kernel]; exact va_eqt (hN _ (List.mem_of_getElem? (i := 58) rfl))
  · rw [show iI (sml (((1 : Nat)) : Int)) = 115 from by decide +kernel]; exact va_eqt (hN _ (List.mem_of_getElem? (i := 59) rfl))
  · rw [show iI (sml (((2 : Nat)) : Int)) = 102 from by decide +kernel]; exact va_eqt (hN _ (List.mem_of_getElem? (i := 60) rfl))
  · rw [show iI (sml (((3 : Nat)) : Int)) = 98 from by decide +kernel]; exact va_eqt (hN _ (List.mem_of_getElem? (i := 61) rfl))
  · rw [show iI (sml (((4 : Nat)) : Int)) = 99 from by decide +kernel]; exact va_eqt (hN _ (List.mem_of_getElem? (i := 62) rfl))
theorem sf_bg (hN : ∀ w ∈ nwl, w.before args s = true) : (Cond.arrayOf (.static RX8 "BIG_LETTERS" "[C") .char).before args s = true ∧ (Term.length (.static RX8 "BIG_LETTERS" "[C")).eval args s none [] s = some (.int (Int32.ofNat 5)) ∧ ∀ j : Nat, j < 5 → (Term.elem (.static RX8 "BIG_LETTERS" "[C") (.int (Int32.ofNat j))).eval args s none [] s = some (.int (iI (bgl j))) := by
  refine ⟨hN _ (List.mem_of_getElem? (i := 63) rfl), va_eqt (hN _ (List.mem_of_getElem? (i := 64) rfl)), ?_⟩
  intro j hj
  rcases (show j = 0 ∨ j = 1 ∨ j = 2 ∨ j = 3 ∨ j = 4 by omega) with rfl | rfl | rfl | rfl | rfl
  · rw [show iI (bgl (((0 : Nat)) : Int)) = 46 from by decide +kernel]; exact va_eqt (hN _ (List.mem_of_getElem? (i := 65) rfl))
  · rw [show iI (bgl (((1 : Nat)) : Int)) = 83 from by decide +kernel]; exact va_eqt (hN _ (List.mem_of_getElem? (i := 66) rfl))
  · rw [show iI (bgl (((2 : Nat)) : Int)) = 70 from by decide +kernel]; exact va_eqt (hN _ (List.mem_of_getElem? (i := 67) rfl))
  · rw [show iI (bgl (((3 : Nat)) : Int)) = 66 from by decide +kernel]; exact va_eqt (hN _ (List.mem_of_getElem? (i := 68) rfl))
  · rw [show iI (bgl (((4 : Nat)) : Int)) = 43 from by decide +kernel]; exact va_eqt (hN _ (List.mem_of_getElem? (i := 69) rfl))
theorem sf_s1 (hN : ∀ w ∈ nwl, w.before args s = true) : ∀ i : Nat, i < 9 → (Cond.exactly (fmT i) RJ0).before args s = true ∧ (Term.field (fmT i) RJ0 "coder" "B").eval args s none [] s = some (.int (iI 0)) ∧ (Cond.arrayOf (.field (fmT i) RJ0 "value" "[B") .byte).before args s = true ∧ (Term.length (.field (fmT i) RJ0 "value" "[B")).eval args s none [] s = some (.int (Int32.ofNat (flN i))) := by
  intro i hi
  rcases (show i = 0 ∨ i = 1 ∨ i = 2 ∨ i = 3 ∨ i = 4 ∨ i = 5 ∨ i = 6 ∨ i = 7 ∨ i = 8 by omega) with rfl | rfl | rfl | rfl | rfl | rfl | rfl | rfl | rfl
  · exact ⟨hN _ (List.mem_of_getElem? (i := 70) rfl), by rw [← iI_0]; exact va_eqt (hN _ (List.mem_of_getElem? (i := 71) rfl)), hN _ (List.mem_of_getElem? (i := 72) rfl), va_eqt (hN _ (List.mem_of_getElem? (i := 73) rfl))⟩
  · exact ⟨hN _ (List.mem_of_getElem? (i := 74) rfl), by rw [← iI_0]; exact va_eqt (hN _ (List.mem_of_getElem? (i := 75) rfl)), hN _ (List.mem_of_getElem? (i := 76) rfl), va_eqt (hN _ (List.mem_of_getElem? (i := 77) rfl))⟩
  · exact ⟨hN _ (List.mem_of_getElem? (i := 78) rfl), by rw [← iI_0]; exact va_eqt (hN _ (List.mem_of_getElem? (i := 79) rfl)), hN _ (List.mem_of_getElem? (i := 80) rfl), va_eqt (hN _ (List.mem_of_getElem? (i := 81) rfl))⟩
  · exact ⟨hN _ (List.mem_of_getElem? (i := 82) rfl), by rw [← iI_0]; exact va_eqt (hN _ (List.mem_of_getElem? (i := 83) rfl)), hN _ (List.mem_of_getElem? (i := 84) rfl), va_eqt (hN _ (List.mem_of_getElem? (i := 85) rfl))⟩
  · exact ⟨hN _ (List.mem_of_getElem? (i := 86) rfl), by rw [← iI_0]; exact va_eqt (hN _ (List.mem_of_getElem? (i := 87) rfl)), hN _ (List.mem_of_getElem? (i := 88) rfl), va_eqt (hN _ (List.mem_of_getElem? (i := 89) rfl))⟩
  · exact ⟨hN _ (List.mem_of_getElem? (i := 90) rfl), by rw [← iI_0]; exact va_eqt (hN _ (List.mem_of_getElem? (i := 91) rfl)), hN _ (List.mem_of_getElem? (i := 92) rfl), va_eqt (hN _ (List.mem_of_getElem? (i := 93) rfl))⟩
  · exact ⟨hN _ (List.mem_of_getElem? (i := 94) rfl), by rw [← iI_0]; exact va_eqt (hN _ (List.mem_of_getElem? (i := 95) rfl)), hN _ (List.mem_of_getElem? (i := 96) rfl), va_eqt (hN _ (List.mem_of_getElem? (i := 97) rfl))⟩
  · exact ⟨hN _ (List.mem_of_getElem? (i := 98) rfl), by rw [← iI_0]; exact va_eqt (hN _ (List.mem_of_getElem? (i := 99) rfl)), hN _ (List.mem_of_getElem? (i := 100) rfl), va_eqt (hN _ (List.mem_of_getElem? (i := 101) rfl))⟩
  · exact ⟨hN _ (List.mem_of_getElem? (i := 102) rfl), by rw [← iI_0]; exact va_eqt (hN _ (List.mem_of_getElem? (i := 103) rfl)), hN _ (List.mem_of_getElem? (i := 104) rfl), va_eqt (hN _ (List.mem_of_getElem? (i := 105) rfl))⟩
theorem sf_e0 (hN : ∀ w ∈ nwl, w.before args s = true) : ∀ j : Nat, j < 5 → (Term.elem (.field (fmT 0) RJ0 "value" "[B") (.int (Int32.ofNat j))).eval args s none [] s = some (.int (iI (fch 0 j))) := by
  intro j hj
  rcases (show j = 0 ∨ j = 1 ∨ j = 2 ∨ j = 3 ∨ j = 4 by omega) with rfl | rfl | rfl | rfl | rfl
  · rw [show iI (fch 0 (((0 : Nat)) : Int)) = 110 from by decide +kernel]; exact va_eqt (hN _ (List.mem_of_getElem? (i := 106) rfl))
  · rw [show iI (fch 0 (((1 : Nat)) : Int)) = 101 from by decide +kernel]; exact va_eqt (hN _ (List.mem_of_getElem? (i := 107) rfl))
  · rw [show iI (fch 0 (((2 : Nat)) : Int)) = 119 from by decide +kernel]; exact va_eqt (hN _ (List.mem_of_getElem? (i := 108) rfl))
  · rw [show iI (fch 0 (((3 : Nat)) : Int)) = 32 from by decide +kernel]; exact va_eqt (hN _ (List.mem_of_getElem? (i := 109) rfl))
  · rw [show iI (fch 0 (((4 : Nat)) : Int)) = 35 from by decide +kernel]; exact va_eqt (hN _ (List.mem_of_getElem? (i := 110) rfl))
theorem sf_e1 (hN : ∀ w ∈ nwl, w.before args s = true) : ∀ j : Nat, j < 7 → (Term.elem (.field (fmT 1) RJ0 "value" "[B") (.int (Int32.ofNat j))).eval args s none [] s = some (.int (iI (fch 1 j))) := by
  intro j hj
  rcases (show j = 0 ∨ j = 1 ∨ j = 2 ∨ j = 3 ∨ j = 4 ∨ j = 5 ∨ j = 6 by omega) with rfl | rfl | rfl | rfl | rfl | rfl | rfl
  · rw [show iI (fch 1 (((0 : Nat)) : Int)) = 102 from by decide +kernel]; exact va_eqt (hN _ (List.mem_of_getElem? (i := 111) rfl))
  · rw [show iI (fch 1 (((1 : Nat)) : Int)) = 111 from by decide +kernel]; exact va_eqt (hN _ (List.mem_of_getElem? (i := 112) rfl))
  · rw [show iI (fch 1 (((2 : Nat)) : Int)) = 108 from by decide +kernel]; exact va_eqt (hN _ (List.mem_of_getElem? (i := 113) rfl))
  · rw [show iI (fch 1 (((3 : Nat)) : Int)) = 100 from by decide +kernel]; exact va_eqt (hN _ (List.mem_of_getElem? (i := 114) rfl))
  · rw [show iI (fch 1 (((4 : Nat)) : Int)) = 32 from by decide +kernel]; exact va_eqt (hN _ (List.mem_of_getElem? (i := 115) rfl))
  · rw [show iI (fch 1 (((5 : Nat)) : Int)) = 35 from by decide +kernel]; exact va_eqt (hN _ (List.mem_of_getElem? (i := 116) rfl))
  · rw [show iI (fch 1 (((6 : Nat)) : Int)) = 64 from by decide +kernel]; exact va_eqt (hN _ (List.mem_of_getElem? (i := 117) rfl))
theorem sf_e2 (hN : ∀ w ∈ nwl, w.before args s = true) : ∀ j : Nat, j < 6 → (Term.elem (.field (fmT 2) RJ0 "value" "[B") (.int (Int32.ofNat j))).eval args s none [] s = some (.int (iI (fch 2 j))) := by
  intro j hj
  rcases (show j = 0 ∨ j = 1 ∨ j = 2 ∨ j = 3 ∨ j = 4 ∨ j = 5 by omega) with rfl | rfl | rfl | rfl | rfl | rfl
  · rw [show iI (fch 2 (((0 : Nat)) : Int)) = 111 from by decide +kernel]; exact va_eqt (hN _ (List.mem_of_getElem? (i := 118) rfl))
  · rw [show iI (fch 2 (((1 : Nat)) : Int)) = 112 from by decide +kernel]; exact va_eqt (hN _ (List.mem_of_getElem? (i := 119) rfl))
  · rw [show iI (fch 2 (((2 : Nat)) : Int)) = 101 from by decide +kernel]; exact va_eqt (hN _ (List.mem_of_getElem? (i := 120) rfl))
  · rw [show iI (fch 2 (((3 : Nat)) : Int)) = 110 from by decide +kernel]; exact va_eqt (hN _ (List.mem_of_getElem? (i := 121) rfl))
  · rw [show iI (fch 2 (((4 : Nat)) : Int)) = 32 from by decide +kernel]; exact va_eqt (hN _ (List.mem_of_getElem? (i := 122) rfl))
  · rw [show iI (fch 2 (((5 : Nat)) : Int)) = 35 from by decide +kernel]; exact va_eqt (hN _ (List.mem_of_getElem? (i := 123) rfl))
theorem sf_e3 (hN : ∀ w ∈ nwl, w.before args s = true) : ∀ j : Nat, j < 6 → (Term.elem (.field (fmT 3) RJ0 "value" "[B") (.int (Int32.ofNat j))).eval args s none [] s = some (.int (iI (fch 3 j))) := by
  intro j hj
  rcases (show j = 0 ∨ j = 1 ∨ j = 2 ∨ j = 3 ∨ j = 4 ∨ j = 5 by omega) with rfl | rfl | rfl | rfl | rfl | rfl
  · rw [show iI (fch 3 (((0 : Nat)) : Int)) = 116 from by decide +kernel]; exact va_eqt (hN _ (List.mem_of_getElem? (i := 124) rfl))
  · rw [show iI (fch 3 (((1 : Nat)) : Int)) = 97 from by decide +kernel]; exact va_eqt (hN _ (List.mem_of_getElem? (i := 125) rfl))
  · rw [show iI (fch 3 (((2 : Nat)) : Int)) = 107 from by decide +kernel]; exact va_eqt (hN _ (List.mem_of_getElem? (i := 126) rfl))
  · rw [show iI (fch 3 (((3 : Nat)) : Int)) = 101 from by decide +kernel]; exact va_eqt (hN _ (List.mem_of_getElem? (i := 127) rfl))
  · rw [show iI (fch 3 (((4 : Nat)) : Int)) = 32 from by decide +kernel]; exact va_eqt (hN _ (List.mem_of_getElem? (i := 128) rfl))
  · rw [show iI (fch 3 (((5 : Nat)) : Int)) = 35 from by decide +kernel]; exact va_eqt (hN _ (List.mem_of_getElem? (i := 129) rfl))
theorem sf_e4 (hN : ∀ w ∈ nwl, w.before args s = true) : ∀ j : Nat, j < 6 → (Term.elem (.field (fmT 4) RJ0 "value" "[B") (.int (Int32.ofNat j))).eval args s none [] s = some (.int (iI (fch 4 j))) := by
  intro j hj
  rcases (show j = 0 ∨ j = 1 ∨ j = 2 ∨ j = 3 ∨ j = 4 ∨ j = 5 by omega) with rfl | rfl | rfl | rfl | rfl | rfl
  · rw [show iI (fch 4 (((0 : Nat)) : Int)) = 119 from by decide +kernel]; exact va_eqt (hN _ (List.mem_of_getElem? (i := 130) rfl))
  · rw [show iI (fch 4 (((1 : Nat)) : Int)) = 97 from by decide +kernel]; exact va_eqt (hN _ (List.mem_of_getElem? (i := 131) rfl))
  · rw [show iI (fch 4 (((2 : Nat)) : Int)) = 115 from by decide +kernel]; exact va_eqt (hN _ (List.mem_of_getElem? (i := 132) rfl))
  · rw [show iI (fch 4 (((3 : Nat)) : Int)) = 104 from by decide +kernel]; exact va_eqt (hN _ (List.mem_of_getElem? (i := 133) rfl))
  · rw [show iI (fch 4 (((4 : Nat)) : Int)) = 32 from by decide +kernel]; exact va_eqt (hN _ (List.mem_of_getElem? (i := 134) rfl))
  · rw [show iI (fch 4 (((5 : Nat)) : Int)) = 35 from by decide +kernel]; exact va_eqt (hN _ (List.mem_of_getElem? (i := 135) rfl))
theorem sf_e5 (hN : ∀ w ∈ nwl, w.before args s = true) : ∀ j : Nat, j < 6 → (Term.elem (.field (fmT 5) RJ0 "value" "[B") (.int (Int32.ofNat j))).eval args s none [] s = some (.int (iI (fch 5 j))) := by
  intro j hj
  rcases (show j = 0 ∨ j = 1 ∨ j = 2 ∨ j = 3 ∨ j = 4 ∨ j = 5 by omega) with rfl | rfl | rfl | rfl | rfl | rfl
  · rw [show iI (fch 5 (((0 : Nat)) : Int)) = 114 from by decide +kernel]; exact va_eqt (hN _ (List.mem_of_getElem? (i := 136) rfl))
  · rw [show iI (fch 5 (((1 : Nat)) : Int)) = 101 from by decide +kernel]; exact va_eqt (hN _ (List.mem_of_getElem? (i := 137) rfl))
  · rw [show iI (fch 5 (((2 : Nat)) : Int)) = 97 from by decide +kernel]; exact va_eqt (hN _ (List.mem_of_getElem? (i := 138) rfl))
  · rw [show iI (fch 5 (((3 : Nat)) : Int)) = 100 from by decide +kernel]; exact va_eqt (hN _ (List.mem_of_getElem? (i := 139) rfl))
  · rw [show iI (fch 5 (((4 : Nat)) : Int)) = 32 from by decide +kernel]; exact va_eqt (hN _ (List.mem_of_getElem? (i := 140) rfl))
  · rw [show iI (fch 5 (((5 : Nat)) : Int)) = 35 from by decide +kernel]; exact va_eqt (hN _ (List.mem_of_getElem? (i := 141) rfl))
theorem sf_e6 (hN : ∀ w ∈ nwl, w.before args s = true) : ∀ j : Nat, j < 7 → (Term.elem (.field (fmT 6) RJ0 "value" "[B") (.int (Int32.ofNat j))).eval args s none [] s = some (.int (iI (fch 6 j))) := by
  intro j hj
  rcases (show j = 0 ∨ j = 1 ∨ j = 2 ∨ j = 3 ∨ j = 4 ∨ j = 5 ∨ j = 6 by omega) with rfl | rfl | rfl | rfl | rfl | rfl | rfl
  · rw [show iI (fch 6 (((0 : Nat)) : Int)) = 108 from by decide +kernel]; exact va_eqt (hN _ (List.mem_of_getElem? (i := 142) rfl))
  · rw [show iI (fch 6 (((1 : Nat)) : Int)) = 97 from by decide +kernel]; exact va_eqt (hN _ (List.mem_of_getElem? (i := 143) rfl))
  · rw [show iI (fch 6 (((2 : Nat)) : Int)) = 121 from by decide +kernel]; exact va_eqt (hN _ (List.mem_of_getElem? (i := 144) rfl))
  · rw [show iI (fch 6 (((3 : Nat)) : Int)) = 32 from by decide +kernel]; exact va_eqt (hN _ (List.mem_of_getElem? (i := 145) rfl))
  · rw [show iI (fch 6 (((4 : Nat)) : Int)) = 35 from by decide +kernel]; exact va_eqt (hN _ (List.mem_of_getElem? (i := 146) rfl))
  · rw [show iI (fch 6 (((5 : Nat)) : Int)) = 32 from by decide +kernel]; exact va_eqt (hN _ (List.mem_of_getElem? (i := 147) rfl))
  · rw [show iI (fch 6 (((6 : Nat)) : Int)) = 35 from by decide +kernel]; exact va_eqt (hN _ (List.mem_of_getElem? (i := 148) rfl))
theorem sf_e7 (hN : ∀ w ∈ nwl, w.before args s = true) : ∀ j : Nat, j < 9 → (Term.elem (.field (fmT 7) RJ0 "value" "[B") (.int (Int32.ofNat j))).eval args s none [] s = some (.int (iI (fch 7 j))) := by
  intro j hj
  rcases (show j = 0 ∨ j = 1 ∨ j = 2 ∨ j = 3 ∨ j = 4 ∨ j = 5 ∨ j = 6 ∨ j = 7 ∨ j = 8 by omega) with rfl | rfl | rfl | rfl | rfl | rfl | rfl | rfl | rfl
  · rw [show iI (fch 7 (((0 : Nat)) : Int)) = 109 from by decide +kernel]; exact va_eqt (hN _ (List.mem_of_getElem? (i := 149) rfl))
  · rw [show iI (fch 7 (((1 : Nat)) : Int)) = 111 from by decide +kernel]; exact va_eqt (hN _ (List.mem_of_getElem? (i := 150) rfl))
  · rw [show iI (fch 7 (((2 : Nat)) : Int)) = 118 from by decide +kernel]; exact va_eqt (hN _ (List.mem_of_getElem? (i := 151) rfl))
  · rw [show iI (fch 7 (((3 : Nat)) : Int)) = 101 from by decide +kernel]; exact va_eqt (hN _ (List.mem_of_getElem? (i := 152) rfl))
  · rw [show iI (fch 7 (((4 : Nat)) : Int)) = 32 from by decide +kernel]; exact va_eqt (hN _ (List.mem_of_getElem? (i := 153) rfl))
  · rw [show iI (fch 7 (((5 : Nat)) : Int)) = 35 from by decide +kernel]; exact va_eqt (hN _ (List.mem_of_getElem? (i := 154) rfl))
  · rw [show iI (fch 7 (((6 : Nat)) : Int)) = 32 from by decide +kernel]; exact va_eqt (hN _ (List.mem_of_getElem? (i := 155) rfl))
  · rw [show iI (fch 7 (((7 : Nat)) : Int)) = 35 from by decide +kernel]; exact va_eqt (hN _ (List.mem_of_getElem? (i := 156) rfl))
  · rw [show iI (fch 7 (((8 : Nat)) : Int)) = 35 from by decide +kernel]; exact va_eqt (hN _ (List.mem_of_getElem? (i := 157) rfl))
theorem sf_e8 (hN : ∀ w ∈ nwl, w.before args s = true) : ∀ j : Nat, j < 9 → (Term.elem (.field (fmT 8) RJ0 "value" "[B") (.int (Int32.ofNat j))).eval args s none [] s = some (.int (iI (fch 8 j))) := by
  intro j hj
  rcases (show j = 0 ∨ j = 1 ∨ j = 2 ∨ j = 3 ∨ j = 4 ∨ j = 5 ∨ j = 6 ∨ j = 7 ∨ j = 8 by omega) with rfl | rfl | rfl | rfl | rfl | rfl | rfl | rfl | rfl
  · rw [show iI (fch 8 (((0 : Nat)) : Int)) = 115 from by decide +kernel]; exact va_eqt (hN _ (List.mem_of_getElem? (i := 158) rfl))
  · rw [show iI (fch 8 (((1 : Nat)) : Int)) = 116 from by decide +kernel]; exact va_eqt (hN _ (List.mem_of_getElem? (i := 159) rfl))
  · rw [show iI (fch 8 (((2 : Nat)) : Int)) = 97 from by decide +kernel]; exact va_eqt (hN _ (List.mem_of_getElem? (i := 160) rfl))
  · rw [show iI (fch 8 (((3 : Nat)) : Int)) = 105 from by decide +kernel]; exact va_eqt (hN _ (List.mem_of_getElem? (i := 161) rfl))
  · rw [show iI (fch 8 (((4 : Nat)) : Int)) = 110 from by decide +kernel]; exact va_eqt (hN _ (List.mem_of_getElem? (i := 162) rfl))
  · rw [show iI (fch 8 (((5 : Nat)) : Int)) = 32 from by decide +kernel]; exact va_eqt (hN _ (List.mem_of_getElem? (i := 163) rfl))
  · rw [show iI (fch 8 (((6 : Nat)) : Int)) = 35 from by decide +kernel]; exact va_eqt (hN _ (List.mem_of_getElem? (i := 164) rfl))
  · rw [show iI (fch 8 (((7 : Nat)) : Int)) = 43 from by decide +kernel]; exact va_eqt (hN _ (List.mem_of_getElem? (i := 165) rfl))
  · rw [show iI (fch 8 (((8 : Nat)) : Int)) = 35 from by decide +kernel]; exact va_eqt (hN _ (List.mem_of_getElem? (i := 166) rfl))
theorem sf_e (hN : ∀ w ∈ nwl, w.before args s = true) : ∀ i : Nat, i < 9 → ∀ j : Nat, j < flN i → (Term.elem (.field (fmT i) RJ0 "value" "[B") (.int (Int32.ofNat j))).eval args s none [] s = some (.int (iI (fch i j))) := by
  intro i hi
  rcases (show i = 0 ∨ i = 1 ∨ i = 2 ∨ i = 3 ∨ i = 4 ∨ i = 5 ∨ i = 6 ∨ i = 7 ∨ i = 8 by omega) with rfl | rfl | rfl | rfl | rfl | rfl | rfl | rfl | rfl
  · exact sf_e0 hN
  · exact sf_e1 hN
  · exact sf_e2 hN
  · exact sf_e3 hN
  · exact sf_e4 hN
  · exact sf_e5 hN
  · exact sf_e6 hN
  · exact sf_e7 hN
  · exact sf_e8 hN
theorem sf_t (hN : ∀ w ∈ nwl, w.before args s = true) : ∀ i : Nat, i < 23 → (Cond.exactly (txT i) RJ0).before args s = true := by
  intro i hi
  rcases (show i = 0 ∨ i = 1 ∨ i = 2 ∨ i = 3 ∨ i = 4 ∨ i = 5 ∨ i = 6 ∨ i = 7 ∨ i = 8 ∨ i = 9 ∨ i = 10 ∨ i = 11 ∨ i = 12 ∨ i = 13 ∨ i = 14 ∨ i = 15 ∨ i = 16 ∨ i = 17 ∨ i = 18 ∨ i = 19 ∨ i = 20 ∨ i = 21 ∨ i = 22 by omega) with rfl | rfl | rfl | rfl | rfl | rfl | rfl | rfl | rfl | rfl | rfl | rfl | rfl | rfl | rfl | rfl | rfl | rfl | rfl | rfl | rfl | rfl | rfl
  · exact hN _ (List.mem_of_getElem? (i := 167) rfl)
  · exact hN _ (List.mem_of_getElem? (i := 168) rfl)
  · exact hN _ (List.mem_of_getElem? (i := 169) rfl)
  · exact hN _ (List.mem_of_getElem? (i := 170) rfl)
  · exact hN _ (List.mem_of_getElem? (i := 167) rfl)
  · exact hN _ (List.mem_of_getElem? (i := 171) rfl)
  · exact hN _ (List.mem_of_getElem? (i := 172) rfl)
  · exact hN _ (List.mem_of_getElem? (i := 173) rfl)
  · exact hN _ (List.mem_of_getElem? (i := 174) rfl)
  · exact hN _ (List.mem_of_getElem? (i := 175) rfl)
  · exact hN _ (List.mem_of_getElem? (i := 176) rfl)
  · exact hN _ (List.mem_of_getElem? (i := 177) rfl)
  · exact hN _ (List.mem_of_getElem? (i := 178) rfl)
  · exact hN _ (List.mem_of_getElem? (i := 179) rfl)
  · exact hN _ (List.mem_of_getElem? (i := 180) rfl)
  · exact hN _ (List.mem_of_getElem? (i := 181) rfl)
  · exact hN _ (List.mem_of_getElem? (i := 167) rfl)
  · exact hN _ (List.mem_of_getElem? (i := 182) rfl)
  · exact hN _ (List.mem_of_getElem? (i := 183) rfl)
  · exact hN _ (List.mem_of_getElem? (i := 184) rfl)
  · exact hN _ (List.mem_of_getElem? (i := 185) rfl)
  · exact hN _ (List.mem_of_getElem? (i := 186) rfl)
  · exact hN _ (List.mem_of_getElem? (i := 187) rfl)
theorem sf_nc (hN : ∀ w ∈ nwl, w.before args s = true) : va_Nc "java/lang/IllegalArgumentException" "java/lang/UnsupportedOperationException" s ∧ va_Nc "java/lang/IndexOutOfBoundsException" "java/lang/UnsupportedOperationException" s ∧ va_Nc "java/lang/IndexOutOfBoundsException" "java/lang/IllegalArgumentException" s ∧ va_Nc "java/lang/UnsupportedOperationException" "java/lang/IllegalArgumentException" s := by
  exact ⟨va_Nc.of (hN _ (List.mem_of_getElem? (i := 188) rfl)), va_Nc.of (hN _ (List.mem_of_getElem? (i := 189) rfl)), va_Nc.of (hN _ (List.mem_of_getElem? (i := 190) rfl)), va_Nc.of (hN _ (List.mem_of_getElem? (i := 191) rfl))⟩
set_option maxHeartbeats 4000000 in
set_option maxRecDepth 100000 in
theorem st_ZA (hts : ∀ w ∈ lw_tbl, w.before args s = true) (hN : ∀ w ∈ nwl, w.before args s = true) : ∃ T : Nat → Nat, ZA T (lA s) s := by
  have hA : ∀ a : Nat, a < s.heap.size → ¬ lA s a := fun a h => Nat.not_le.mpr h
  have c0 : ∀ i : Nat, ∃ a : Nat, i < 9 → (cmT i).eval args s none [] s = some (.ref a) := fun i => by
    by_cases hi : i < 9
    · obtain ⟨a, h⟩ := st_ex (sf_ex hN i hi)
      exact ⟨a, fun _ => h⟩
    · exact ⟨0, fun h => absurd h hi⟩
  obtain ⟨ad, had⟩ := Classical.axiomOfChoice c0
  have c1 : ∀ i : Nat, ∃ a : Nat, i < 9 → (fmT i).eval args s none [] s = some (.ref a) := fun i => by
    by_cases hi : i < 9
    · obtain ⟨a, h⟩ := st_ex (sf_s1 hN i hi).1
      exact ⟨a, fun _ => h⟩
    · exact ⟨0, fun h => absurd h hi⟩
  obtain ⟨aK, haK⟩ := Classical.axiomOfChoice c1
  have c2 : ∀ i : Nat, ∃ a : Nat, i < 9 → (Term.field (fmT i) RJ0 "value" "[B").eval args s none [] s = some (.ref a) ∧ va_T .byte a (flN i) (fun k => .int (iI (fch i k))) (lA s) s s.heap := fun i => by
    by_cases hi : i < 9
    · obtain ⟨a, h1, h2⟩ := va_Tof (f := fun k => .int (iI (fch i k))) (A := lA s) (N := flN i) (by rcases (show i = 0 ∨ i = 1 ∨ i = 2 ∨ i = 3 ∨ i = 4 ∨ i = 5 ∨ i = 6 ∨ i = 7 ∨ i = 8 by omega) with rfl | rfl | rfl | rfl | rfl | rfl | rfl | rfl | rfl <;> decide) (sf_s1 hN i hi).2.2.1 (sf_s1 hN i hi).2.2.2 (sf_e hN i hi) hA
      exact ⟨a, fun _ => ⟨h1, h2⟩⟩
    · exact ⟨0, fun h => absurd h hi⟩
  obtain ⟨aV, haV⟩ := Classical.axiomOfChoice c2
  have c3 : ∀ i : Nat, ∃ a : Nat, i < 23 → (txT i).eval args s none [] s = some (.ref a) := fun i => by
    by_cases hi : i < 23
    · obtain ⟨a, h⟩ := st_ex (sf_t hN i hi)
      exact ⟨a, fun _ => h⟩
    · exact ⟨0, fun h => absurd h hi⟩
  obtain ⟨aT, haT⟩ := Classical.axiomOfChoice c3
  obtain ⟨tco, e1, t1⟩ := va_Tof (f := fun j => .ref (ad j)) (A := lA s) (N := 9) (by decide) (sf_ca hN).1 (sf_ca hN).2 (fun j hj => va_eqv (sf_ce hN j hj) (had j hj)) hA
  obtain ⟨tsw, e_sw, t_sw⟩ := va_Tof (f := fun j => .int (iI (swm j))) (A := lA s) (N := 9) (by decide) (sf_sw hN).1 (sf_sw hN).2.1 (sf_sw hN).2.2 hA
  obtain ⟨tcr, e_cr, t_cr⟩ := va_Tof (f := fun j => .int (iI (crs j))) (A := lA s) (N := 5) (by decide) (sf_cr hN).1 (sf_cr hN).2.1 (sf_cr hN).2.2 hA
  obtain ⟨tsm, e_sm, t_sm⟩ := va_Tof (f := fun j => .int (iI (sml j))) (A := lA s) (N := 5) (by decide) (sf_sm hN).1 (sf_sm hN).2.1 (sf_sm hN).2.2 hA
  obtain ⟨tbg, e_bg, t_bg⟩ := va_Tof (f := fun j => .int (iI (bgl j))) (A := lA s) (N := 5) (by decide) (sf_bg hN).1 (sf_bg hN).2.1 (sf_bg hN).2.2 hA
  obtain ⟨T, hT0, hT9, hT10, hT11, hT12, hT13, hT14, hT23, hT32⟩ : ∃ T : Nat → Nat, (∀ j, j < 9 → T j = ad j) ∧ T 9 = tco ∧ T 10 = tsw ∧ T 11 = tcr ∧ T 12 = tsm ∧ T 13 = tbg ∧ (∀ j, j < 9 → T (14 + j) = aK j) ∧ (∀ j, j < 9 → T (23 + j) = aV j) ∧ (∀ j, T (32 + j) = aT j) := by
    refine ⟨fun k => if k < 9 then ad k else if k = 9 then tco else if k = 10 then tsw else if k = 11 then tcr else if k = 12 then tsm else if k = 13 then tbg else if k < 23 then aK (k - 14) else if k < 32 then aV (k - 23) else aT (k - 32), fun j hj => if_pos hj, rfl, rfl, rfl, rfl, rfl, fun j hj => ?_, fun j hj => ?_, fun j => ?_⟩
    · show (if 14 + j < 9 then _ else _) = _
      rw [if_neg (show ¬ 14 + j < 9 by omega), if_neg (show ¬ 14 + j = 9 by omega), if_neg (show ¬ 14 + j = 10 by omega), if_neg (show ¬ 14 + j = 11 by omega), if_neg (show ¬ 14 + j = 12 by omega), if_neg (show ¬ 14 + j = 13 by omega), if_pos (show 14 + j < 23 by omega), Nat.add_sub_cancel_left]
    · show (if 23 + j < 9 then _ else _) = _
      rw [if_neg (show ¬ 23 + j < 9 by omega), if_neg (show ¬ 23 + j = 9 by omega), if_neg (show ¬ 23 + j = 10 by omega), if_neg (show ¬ 23 + j = 11 by omega), if_neg (show ¬ 23 + j = 12 by omega), if_neg (show ¬ 23 + j = 13 by omega), if_neg (show ¬ 23 + j < 23 by omega), if_pos (show 23 + j < 32 by omega), Nat.add_sub_cancel_left]
    · show (if 32 + j < 9 then _ else _) = _
      rw [if_neg (show ¬ 32 + j < 9 by omega), if_neg (show ¬ 32 + j = 9 by omega), if_neg (show ¬ 32 + j = 10 by omega), if_neg (show ¬ 32 + j = 11 by omega), if_neg (show ¬ 32 + j = 12 by omega), if_neg (show ¬ 32 + j = 13 by omega), if_neg (show ¬ 32 + j < 23 by omega), if_neg (show ¬ 32 + j < 32 by omega), Nat.add_sub_cancel_left]
  exact ⟨T, by rw [hT9]; exact va_Zof (hts (.laysStatic RX8 "COMMANDS" "[LNapkinSyntax$Command;") (by decide +kernel)) (hts (.initialized RX8) (by decide +kernel)) e1 hA,
    by rw [hT9]; obtain ⟨cell, q1, q2, q3, q4, q5, q6, q7⟩ := t1; exact ⟨cell, q1, q2, q3, q4, q5, fun j hj => by show cell.slots[j]? = some (Value.ref (T j)); rw [hT0 j hj]; exact q6 j hj, q7⟩,
    by rw [hT10]; exact va_Zof (hts (.laysStatic RX0 "$SwitchMap$NapkinSyntax$Command" "[I") (by decide +kernel)) (hts (.initialized RX0) (by decide +kernel)) e_sw hA,
    by rw [hT10]; exact t_sw,
    by rw [hT11]; exact va_Zof (hts (.laysStatic RX8 "CREASES" "[I") (by decide +kernel)) (hts (.initialized RX8) (by decide +kernel)) e_cr hA,
    by rw [hT11]; exact t_cr,
    by rw [hT12]; exact va_Zof (hts (.laysStatic RX8 "SMALL_LETTERS" "[C") (by decide +kernel)) (hts (.initialized RX8) (by decide +kernel)) e_sm hA,
    by rw [hT12]; exact t_sm,
    by rw [hT13]; exact va_Zof (hts (.laysStatic RX8 "BIG_LETTERS" "[C") (by decide +kernel)) (hts (.initialized RX8) (by decide +kernel)) e_bg hA,
    by rw [hT13]; exact t_bg,
    by rw [← iI_1]; exact va_Zof (hts (.laysStatic RJ0 "COMPACT_STRINGS" "Z") (by decide +kernel)) (hts (.initialized RJ0) (by decide +kernel)) (va_eqi (hN _ (List.mem_of_getElem? (i := 192) rfl))) hA,
    fun j hj => by rw [hT0 j hj]; exact va_Zof (sf_lay hts j hj) (hts (.initialized RX1) (by decide +kernel)) (had j hj) hA,
    fun j hj => by rw [hT0 j hj]; exact va_Oof (sf_ex hN j hj) (had j hj) hA,
    fun j hj => by rw [hT0 j hj]; exact vk_OFof (had j hj) (sf_ord hN j hj) hA,
    fun j hj => by rw [hT0 j hj, hT14 j hj]; exact vk_OFof (had j hj) (va_eqv (sf_frm hN j hj) (haK j hj)) hA,
    fun j hj => by rw [hT14 j hj]; exact va_Oof (sf_s1 hN j hj).1 (haK j hj) hA,
    fun j hj => by rw [hT14 j hj, hT23 j hj]; exact vk_OFof (haK j hj) (haV j hj).1 hA,
    fun j hj => by rw [hT14 j hj]; exact vk_OFof (haK j hj) (sf_s1 hN j hj).2.1 hA,
    fun j hj => ⟨flN j, by rcases (show j = 0 ∨ j = 1 ∨ j = 2 ∨ j = 3 ∨ j = 4 ∨ j = 5 ∨ j = 6 ∨ j = 7 ∨ j = 8 by omega) with rfl | rfl | rfl | rfl | rfl | rfl | rfl | rfl | rfl <;> decide +kernel, by rw [hT23 j hj]; exact (haV j hj).2⟩,
    vx_Zqof (hts (.laysStatic Bundle.tN "UNASSIGNED_STACK" Bundle.steD) (by decide +kernel)) (hts (.initialized Bundle.tN) (by decide +kernel)) (hN _ (List.mem_of_getElem? (i := 193) rfl)) hA,
    vx_Zqof (hts (.laysStatic Bundle.tN "SUPPRESSED_SENTINEL" Bundle.listD) (by decide +kernel)) (hts (.initialized Bundle.tN) (by decide +kernel)) (hN _ (List.mem_of_getElem? (i := 194) rfl)) hA,
    va_Zqof (hts (.laysStatic "jdk/internal/util/Preconditions" "SIOOBE_FORMATTER" "Ljava/util/function/BiFunction;") (by decide +kernel)) (hts (.initialized "jdk/internal/util/Preconditions") (by decide +kernel)) (hN _ (List.mem_of_getElem? (i := 195) rfl)) hA,
    by rw [show T 32 = aT 0 from hT32 0]; exact vk_R.of (hts (.stringRef RX8 112 "there is no such napkin") (by decide +kernel)) (haT 0 (by decide)),
    by rw [show T 33 = aT 1 from hT32 1]; exact vk_R.of (hts (.stringRef RX8 141 "what is from 0 to 6") (by decide +kernel)) (haT 1 (by decide)),
    by rw [show T 34 = aT 2 from hT32 2]; exact vk_R.of (hts (.stringRef RX8 170 "what is from 0 to 5") (by decide +kernel)) (haT 2 (by decide)),
    by rw [show T 35 = aT 3 from hT32 3]; exact vk_R.of (hts (.stringRef RX8 178 "there is no such place") (by decide +kernel)) (haT 3 (by decide)),
    by rw [show T 37 = aT 5 from hT32 5]; exact vk_R.of (hts (.stringRef RX8 203 "there is no such phrase") (by decide +kernel)) (haT 5 (by decide)),
    by rw [show T 38 = aT 6 from hT32 6]; exact vk_R.of (hts (.stringRef RX8 217 "what is from 0 to 3") (by decide +kernel)) (haT 6 (by decide)),
    by rw [show T 39 = aT 7 from hT32 7]; exact vk_R.of (hts (.stringRef RX8 225 "the table would not be right by any") (by decide +kernel)) (haT 7 (by decide)),
    by rw [show T 40 = aT 8 from hT32 8]; exact vk_R.of (hts (.stringRef RX8 238 "the table says nothing") (by decide +kernel)) (haT 8 (by decide)),
    by rw [show T 41 = aT 9 from hT32 9]; exact vk_R.of (hts (.stringRef RX8 263 "there are 60 characters") (by decide +kernel)) (haT 9 (by decide)),
    by rw [show T 42 = aT 10 from hT32 10]; exact vk_R.of (hts (.stringRef RX8 279 "the text is malformed") (by decide +kernel)) (haT 10 (by decide)),
    by rw [show T 43 = aT 11 from hT32 11]; exact vk_R.of (hts (.stringRef RX8 317 "a command of the text is refused") (by decide +kernel)) (haT 11 (by decide)),
    by rw [show T 44 = aT 12 from hT32 12]; exact vk_R.of (hts (.stringRef RX8 323 "no text was malformed") (by decide +kernel)) (haT 12 (by decide)),
    by rw [show T 45 = aT 13 from hT32 13]; exact vk_R.of (hts (.stringRef RX8 325 "nothing was refused, or there is no cause") (by decide +kernel)) (haT 13 (by decide)),
    by rw [show T 46 = aT 14 from hT32 14]; exact vk_R.of (hts (.stringRef RX8 346 "there is no such character") (by decide +kernel)) (haT 14 (by decide)),
    by rw [show T 47 = aT 15 from hT32 15]; exact vk_R.of (hts (.stringRef RX8 380 "what is from 0 to 11") (by decide +kernel)) (haT 15 (by decide)),
    by rw [show T 49 = aT 17 from hT32 17]; exact vk_R.of (hts (.stringRef RX8 384 "no change can be undone") (by decide +kernel)) (haT 17 (by decide)),
    by rw [show T 50 = aT 18 from hT32 18]; exact vk_R.of (hts (.stringRef RX8 389 "there is no snapshot") (by decide +kernel)) (haT 18 (by decide)),
    by rw [show T 51 = aT 19 from hT32 19]; exact vk_R.of (hts (.stringRef RX8 392 "there is no such napkin, table or place") (by decide +kernel)) (haT 19 (by decide)),
    by rw [show T 52 = aT 20 from hT32 20]; exact vk_R.of (hts (.stringRef RX8 394 "the number is out of range") (by decide +kernel)) (haT 20 (by decide)),
    by rw [show T 53 = aT 21 from hT32 21]; exact vk_R.of (hts (.stringRef RX8 396 "the call is refused") (by decide +kernel)) (haT 21 (by decide)),
    by rw [show T 54 = aT 22 from hT32 22]; exact vk_R.of (hts (.stringRef RX8 401 "there is no such table") (by decide +kernel)) (haT 22 (by decide)),
    va_Nw.of rfl (hts (.methodLinkNest RX8 9 ⟨RX5, "<init>", "()V"⟩ RX8) (by decide +kernel)),
    va_Nw.of rfl (hts (.methodLinkNest RX5 11 ⟨RX6, "<init>", "()V"⟩ RX8) (by decide +kernel)),
    va_Nw.of rfl (hts (.methodLinkNest RX5 20 ⟨RX4, "<init>", "()V"⟩ RX8) (by decide +kernel)),
    va_Nw.of rfl (hts (.methodLinkNest RX8 30 ⟨RX2, "<init>", "()V"⟩ RX8) (by decide +kernel)),
    va_Nw.of rfl (hts (.methodLinkNest RX8 37 ⟨RX7, "<init>", "()V"⟩ RX8) (by decide +kernel)),
    va_Nw.of rfl (hts (.methodLinkNest RX8 44 ⟨RX3, "<init>", "()V"⟩ RX8) (by decide +kernel)),
    va_Nw.of rfl (hts (.methodLinkNest RX5 111 ⟨RX8, "refusedFor", "(II)I"⟩ RX8) (by decide +kernel)),
    va_Nw.of rfl (hts (.methodLinkNest RX5 124 ⟨RX8, "isTable", "(I)Z"⟩ RX8) (by decide +kernel)),
    va_Nw.of rfl (hts (.methodLinkNest RX7 62 ⟨RX8, "letterIn", "([CI)C"⟩ RX8) (by decide +kernel)),
    va_Nw.of rfl (hts (.fieldLinkNest RX8 16 "NapkinSyntax$Service" "state" "LNapkinSyntax$State;" RX8) (by decide +kernel)),
    va_Nw.of rfl (hts (.fieldLinkNest RX5 143 "NapkinSyntax" "CREASES" "[I" RX8) (by decide +kernel)),
    va_Nw.of rfl (hts (.fieldLinkNest RX7 36 "NapkinSyntax" "COMMANDS" "[LNapkinSyntax$Command;" RX8) (by decide +kernel)),
    va_Nw.of rfl (hts (.fieldLinkNest RX7 59 "NapkinSyntax" "SMALL_LETTERS" "[C" RX8) (by decide +kernel)),
    va_Nw.of rfl (hts (.castable "java/lang/IndexOutOfBoundsException" "java/lang/IndexOutOfBoundsException") (by decide +kernel)),
    va_Nw.of rfl (hts (.castable "java/lang/IllegalArgumentException" "java/lang/IllegalArgumentException") (by decide +kernel)),
    va_Nw.of rfl (hts (.castable "java/lang/UnsupportedOperationException" "java/lang/UnsupportedOperationException") (by decide +kernel)),
    va_Nw.of rfl (hts (.castable "java/util/NoSuchElementException" "java/util/NoSuchElementException") (by decide +kernel)),
    va_Nw.of rfl (hts (.castable "java/lang/IllegalStateException" "java/lang/IllegalStateException") (by decide +kernel)),
    va_Nw.of rfl (hts (.castable "java/lang/ArithmeticException" "java/lang/ArithmeticException") (by decide +kernel)),
    va_Nw.of rfl (hts (.declares (Bundle.initS "java/lang/RuntimeException")) (by decide +kernel)),
    va_Nw.of rfl (hts (.declares (Bundle.initS "java/lang/Exception")) (by decide +kernel)),
    va_Nw.of rfl (hts (.declares (Bundle.initS Bundle.tN)) (by decide +kernel))⟩
theorem st_Ns (hts : ∀ w ∈ lw_tbl, w.before args s = true) : NsF s := ⟨va_Nw.of rfl (hts (.methodLinkNest RX8 9 yX5_init RX8) (by decide +kernel)), va_Nw.of rfl (hts (.methodLinkNest RX5 11 yX6_init RX8) (by decide +kernel)), va_Nw.of rfl (hts (.methodLinkNest RX5 20 yX4_init RX8) (by decide +kernel)), va_Nw.of rfl (hts (.methodLinkNest RX8 30 yX2_init RX8) (by decide +kernel)), va_Nw.of rfl (hts (.methodLinkNest RX8 37 yX7_init RX8) (by decide +kernel)), va_Nw.of rfl (hts (.methodLinkNest RX8 44 yX3_init RX8) (by decide +kernel)), va_Nw.of rfl (hts (.fieldLinkNest RX8 16 "NapkinSyntax$Service" "state" "LNapkinSyntax$State;" RX8) (by decide +kernel)), va_Nw.of rfl (hts (.fieldLinkNest RX8 23 "NapkinSyntax$Service" "sentence" "LNapkinSyntax$Sentence;" RX8) (by decide +kernel))⟩
end
