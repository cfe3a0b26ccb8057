/-! THE THIRD OBJECT: its calls over known cells (written by mk12a.py). -/
def bb (a : Int) : Int := if a = 3 then 0 else a + 1
def zL0 (a : Int) : List Int := [0]
def zC0 (a : Int) : Int → Int := fun j => (zL0 a).getD j.toNat 0
def zL1 (a : Int) : List Int := [a, bb a, 0, 0, 0, 0, 0, 0, 0, 0, 1, 2, 0, 0, 0, 0, 0, 0, 0, 0, 3, 1, 0, 0, 0, 0, 0, 0, 0, 0, 0, 3, 0, 0, 0, 0, 0, 0, 0, 0, 1, 1, 0, 0, 0, 0, 0, 0, 0, 0, 0, 0, 0, 0, 0, 0, 0, 1, 0, 0, 0, 0, 0, 0, 0, 0, 0, 0, 0, 2, 0, 0, 0, 0, 0, 0, 0, 2]
def zC1 (a : Int) : Int → Int := fun j => (zL1 a).getD j.toNat 0
def zL2 (a : Int) : List Int := [a, bb a, 0, 0, 0, 0, 0, 0, 0, 0, 1, 2, 0, 0, 0, 0, 0, 0, 0, 0, 3, 1, 0, 0, 0, 0, 0, 0, 0, 0, 0, 3, 0, 0, 0, 0, 0, 0, 0, 0, 1, 1, 0, 0, 0, 0, 0, 0, 0, 0, 0, 0, 0, 0, 0, 0, 0, 1, 0, 0, 0, 0, 0, 0, 0, 0, 0, 0, 0, 2, 0, 0, 1, 0, 0, 0, 0, 2, 1]
def zC2 (a : Int) : Int → Int := fun j => (zL2 a).getD j.toNat 0
def zL3 (a : Int) : List Int := [a, bb a, bb a, 0, 1, 0, 0, 0, 0, 0, 1, 2, 1, 3, 4, 0, 0, 0, 0, 0, 3, 1, 3, 2, 2, 0, 0, 0, 0, 0, 0, 3, 0, 0, 0, 0, 0, 0, 0, 0, 1, 1, 1, 1, 1, 0, 0, 0, 0, 0, 0, 0, 0, 0, 0, 0, 0, 1, 2, 0, 0, 0, 0, 0, 0, 0, 0, 0, 0, 3, 0, 0, 1, 0, 0, 0, 0, 5, 1]
def zC3 (a : Int) : Int → Int := fun j => (zL3 a).getD j.toNat 0
def zL4 (a : Int) : List Int := [a, bb a, bb a, 0, 1, 0, 0, 0, 0, 0, 1, 2, 1, 3, 4, 0, 0, 0, 0, 0, 3, 1, 3, 2, 2, 0, 0, 0, 0, 0, 0, 3, 0, 0, 0, 0, 0, 0, 0, 0, 1, 1, 1, 1, 1, 0, 0, 0, 0, 0, 0, 0, 0, 0, 0, 0, 0, 1, 2, 0, 0, 0, 0, 0, 0, 0, 0, 0, 0, 3, 0, 0, 2, 0, 0, 1, 0, 5, 1]
def zC4 (a : Int) : Int → Int := fun j => (zL4 a).getD j.toNat 0
def zL5 (a : Int) : List Int := [a, bb a, bb a, 0, 1, 0, 0, 0, 0, 0, 1, 2, 1, 3, 4, 0, 0, 0, 0, 0, 3, 1, 3, 2, 2, 0, 0, 0, 0, 0, 0, 3, 0, 0, 0, 0, 0, 0, 0, 0, 1, 1, 1, 1, 1, 0, 0, 0, 0, 0, 0, 0, 0, 0, 0, 0, 2, 0, 1, 0, 0, 0, 0, 0, 0, 0, 0, 0, 0, 3, 0, 0, 2, 0, 0, 1, 0, 5, 1]
def zC5 (a : Int) : Int → Int := fun j => (zL5 a).getD j.toNat 0
def zL6 (a : Int) : List Int := [a, bb a, bb a, 0, 1, 0, 0, 0, 0, 0, 1, 2, 1, 3, 4, 0, 0, 0, 0, 0, 3, 1, 3, 2, 2, 0, 0, 0, 0, 0, 0, 3, 0, 0, 0, 0, 0, 0, 0, 0, 1, 1, 1, 1, 1, 0, 0, 0, 0, 0, 0, 0, 0, 0, 0, 0, 2, 0, 1, 4, 0, 0, 0, 0, 0, 0, 0, 0, 0, 4, 0, 0, 2, 0, 0, 1, 0, 5, 1]
def zC6 (a : Int) : Int → Int := fun j => (zL6 a).getD j.toNat 0
def zL7 (a : Int) : List Int := [a, bb a, bb a, 0, 1, 0, 0, 0, 0, 0, 1, 2, 1, 3, 4, 0, 0, 0, 0, 0, 3, 1, 3, 2, 2, 0, 0, 0, 0, 0, 0, 3, 0, 0, 0, 0, 0, 0, 0, 0, 1, 1, 1, 1, 1, 0, 0, 0, 0, 0, 0, 0, 0, 0, 0, 0, 2, 0, 1, 4, 3, 0, 0, 0, 0, 0, 0, 0, 0, 5, 0, 0, 2, 0, 0, 1, 0, 5, 1]
def zC7 (a : Int) : Int → Int := fun j => (zL7 a).getD j.toNat 0
def zL8 (a : Int) : List Int := [a, bb a, bb a, 0, 1, 0, 0, 0, 0, 0, 1, 2, 1, 3, 4, 0, 0, 0, 0, 0, 3, 1, 3, 2, 2, 0, 0, 0, 0, 0, 0, 3, 0, 0, 0, 0, 0, 0, 0, 0, 1, 1, 1, 1, 1, 0, 0, 0, 0, 0, 0, 0, 0, 0, 0, 0, 2, 0, 1, 3, 3, 0, 0, 0, 0, 0, 0, 0, 0, 4, 0, 0, 2, 0, 0, 1, 0, 5, 1]
def zC8 (a : Int) : Int → Int := fun j => (zL8 a).getD j.toNat 0
def zL9 (a : Int) : List Int := [a, bb a, bb a, 0, 1, 0, 0, 0, 0, 0, 1, 2, 1, 3, 4, 0, 0, 0, 0, 0, 3, 1, 3, 2, 2, 0, 0, 0, 0, 0, 0, 3, 0, 0, 0, 0, 0, 0, 0, 0, 1, 1, 1, 1, 1, 0, 0, 0, 0, 0, 0, 0, 0, 0, 0, 0, 2, 0, 1, 3, 3, 0, 0, 0, 0, 0, 0, 0, 0, 3, 0, 0, 2, 0, 0, 1, 0, 5, 1]
def zC9 (a : Int) : Int → Int := fun j => (zL9 a).getD j.toNat 0
def zL10 (a : Int) : List Int := [a, bb a, bb a, 0, 1, 0, 0, 0, 0, 0, 1, 2, 1, 3, 4, 0, 0, 0, 0, 0, 3, 1, 3, 2, 2, 0, 0, 0, 0, 0, 0, 3, 0, 9, 0, 0, 0, 0, 0, 0, 1, 1, 1, 1, 1, 0, 0, 0, 0, 0, 0, 0, 0, 0, 0, 0, 2, 0, 1, 3, 3, 0, 0, 0, 0, 0, 0, 0, 0, 3, 0, 0, 2, 0, 0, 1, 0, 5, 1]
def zC10 (a : Int) : Int → Int := fun j => (zL10 a).getD j.toNat 0
def zL11 (a : Int) : List Int := [a, bb a, bb a, 0, 1, 0, 0, 0, 0, 0, 1, 2, 1, 0, 4, 0, 0, 0, 0, 0, 3, 1, 3, 2, 2, 0, 0, 0, 0, 0, 0, 3, 0, 0, 0, 0, 0, 0, 0, 0, 1, 1, 1, 1, 1, 0, 0, 0, 0, 0, 0, 0, 0, 0, 0, 0, 2, 0, 1, 3, 3, 0, 0, 0, 0, 0, 0, 0, 0, 3, 0, 0, 2, 0, 0, 1, 0, 5, 1, 9]
def zC11 (a : Int) : Int → Int := fun j => (zL11 a).getD j.toNat 0
def zL12 (a : Int) : List Int := [a, bb a, bb a, 0, 1, 0, 0, 0, 0, 0, 1, 0, 1, 0, 4, 0, 0, 0, 0, 0, 3, 1, 3, 2, 2, 0, 0, 0, 0, 0, 0, 3, 0, 0, 0, 0, 0, 0, 0, 0, 1, 1, 1, 1, 1, 0, 0, 0, 0, 0, 0, 0, 0, 0, 0, 0, 2, 0, 1, 3, 3, 0, 0, 0, 0, 0, 0, 0, 0, 3, 0, 0, 2, 0, 0, 1, 0, 5, 1, 9]
def zC12 (a : Int) : Int → Int := fun j => (zL12 a).getD j.toNat 0
def zL13 (a : Int) : List Int := [a, bb a, bb a, 0, 1, 0, 0, 0, 0, 0, 1, 1, 1, 0, 4, 0, 0, 0, 0, 0, 3, 4, 3, 2, 2, 0, 0, 0, 0, 0, 0, 3, 0, 0, 0, 0, 0, 0, 0, 0, 1, 2, 1, 1, 1, 0, 0, 0, 0, 0, 0, 0, 0, 0, 0, 0, 2, 0, 1, 3, 3, 0, 0, 0, 0, 0, 0, 0, 0, 3, 0, 0, 2, 0, 0, 1, 0, 5, 1, 9]
def zC13 (a : Int) : Int → Int := fun j => (zL13 a).getD j.toNat 0
def zL14 (a : Int) : List Int := [a, bb a, bb a, 0, 1, 0, 0, 0, 0, 0, 1, 3, 1, 0, 4, 0, 0, 0, 0, 0, 3, 6, 3, 2, 2, 0, 0, 0, 0, 0, 0, 3, 0, 0, 0, 0, 0, 0, 0, 0, 1, 3, 1, 1, 1, 0, 0, 0, 0, 0, 0, 0, 0, 0, 0, 0, 2, 0, 1, 3, 3, 0, 0, 0, 0, 0, 0, 0, 0, 3, 0, 0, 2, 0, 0, 1, 0, 5, 1, 9]
def zC14 (a : Int) : Int → Int := fun j => (zL14 a).getD j.toNat 0
def zL15 (a : Int) : List Int := [a, bb a, bb a, 0, 1, 0, 0, 0, 0, 0, 1, 4, 1, 0, 4, 0, 0, 0, 0, 0, 3, 8, 3, 2, 2, 0, 0, 0, 0, 0, 0, 3, 0, 0, 0, 0, 0, 0, 0, 0, 1, 4, 1, 1, 1, 0, 0, 0, 0, 0, 0, 0, 0, 0, 0, 0, 2, 0, 1, 3, 3, 0, 0, 0, 0, 0, 0, 0, 0, 3, 0, 0, 2, 0, 0, 1, 0, 5, 1, 9]
def zC15 (a : Int) : Int → Int := fun j => (zL15 a).getD j.toNat 0
def zL16 (a : Int) : List Int := [a, bb a, bb a, 0, 1, 0, 0, 0, 0, 0, 1, 1, 1, 0, 4, 0, 0, 0, 0, 0, 3, 11, 3, 2, 2, 0, 0, 0, 0, 0, 0, 3, 0, 0, 0, 0, 0, 0, 0, 0, 1, 5, 1, 1, 1, 0, 0, 0, 0, 0, 0, 0, 0, 0, 0, 0, 2, 0, 1, 3, 3, 0, 0, 0, 0, 0, 0, 0, 0, 3, 0, 0, 2, 0, 0, 1, 0, 5, 1, 9]
def zC16 (a : Int) : Int → Int := fun j => (zL16 a).getD j.toNat 0
def zX1l (a : Int) : List Int := [110, 101, 119, 32, 48 + a, 59, 110, 101, 119, 32, 48 + bb a, 59, 102, 111, 108, 100, 32, 48, 115, 59, 102, 111, 108, 100, 32, 49, 102, 59, 108, 97, 121, 32, 48, 32, 49, 59, 108, 97, 121, 32, 49, 32, 49, 59, 115, 116, 97, 105, 110, 32, 49, 43, 51]
def zX1 (a : Int) : Int → Int := fun j => (zX1l a).getD j.toNat 0
def zX2l (a : Int) : List Int := [110, 101, 119, 32, 48 + bb a, 59, 110, 101, 119, 32, 48, 59, 110, 101, 119, 32, 49, 59, 102, 111, 108, 100, 32, 50, 115, 59, 102, 111, 108, 100, 32, 51, 98, 59, 102, 111, 108, 100, 32, 52, 99, 59, 108, 97, 121, 32, 50, 32, 49]
def zX2 (a : Int) : Int → Int := fun j => (zX2l a).getD j.toNat 0
def zY1l (a : Int) : List Int := [48, 115, 49, 102, 42]
def zY1 (a : Int) : Int → Int := fun j => (zY1l a).getD j.toNat 0
def zY2l (a : Int) : List Int := [83, 48 + a, 32, 70, 48 + bb a, 63]
def zY2 (a : Int) : Int → Int := fun j => (zY2l a).getD j.toNat 0
def zY3l (a : Int) : List Int := [50, 115, 48, 115, 49, 46, 42]
def zY3 (a : Int) : Int → Int := fun j => (zY3l a).getD j.toNat 0
set_option maxRecDepth 100000 in
theorem zf_well : (fX8_isWell M0c).1 = 1 := by decide +kernel
set_option maxRecDepth 100000 in
theorem zf_0w : ∀ a : Fin 4, (fX8_wrong (zM (zC0 (a.val : Int))) 0).1 = 0 ∧ (fX8_wrong (zM (zC0 (a.val : Int))) 0).2.1 = 0 := by decide +kernel
set_option maxRecDepth 100000 in
theorem zf_0n : ∀ a : Fin 4, (fX8_next (zM (zC0 (a.val : Int))) 1).1 = 0 ∧ (fX8_next (zM (zC0 (a.val : Int))) 1).2.1 = 2 := by decide +kernel
set_option maxRecDepth 100000 in
theorem zf_0c : ∀ a : Fin 4, (fX8_clearest (zM (zC0 (a.val : Int))) 2).1 = 0 ∧ (fX8_clearest (zM (zC0 (a.val : Int))) 2).2.1 = 2 := by decide +kernel
set_option maxRecDepth 100000 in
theorem zf_0d : ∀ a : Fin 4, (fX8_doubt (zM (zC0 (a.val : Int))) 0).1 = 0 ∧ (fX8_doubt (zM (zC0 (a.val : Int))) 0).2.1 = 0 := by decide +kernel
set_option maxRecDepth 100000 in
theorem zf_0r : ∀ a : Fin 4, (fX8_isRight (zM (zC0 (a.val : Int))) 2).1 = 0 ∧ (fX8_isRight (zM (zC0 (a.val : Int))) 2).2.1 = 0 := by decide +kernel
set_option maxRecDepth 100000 in
theorem zf_0p : ∀ a : Fin 4, (fX8_phrases (zM (zC0 (a.val : Int))) 0).1 = 0 ∧ (fX8_phrases (zM (zC0 (a.val : Int))) 0).2.1 = 0 := by decide +kernel
set_option maxRecDepth 100000 in
theorem zf_0h : ∀ a : Fin 4, (fX5_judge (zM (zC0 (a.val : Int))) 5 0 0 0).1 = 128 := by decide +kernel
set_option maxRecDepth 100000 in
theorem zf_r1 : ∀ a : Fin 4, (fX8_read (zT (zC0 (a.val : Int)) 53 (zX1 (a.val : Int)))).1 = 0 ∧ (fX8_read (zT (zC0 (a.val : Int)) 53 (zX1 (a.val : Int)))).2.1 = 7 ∧ (fX8_read (zT (zC0 (a.val : Int)) 53 (zX1 (a.val : Int)))).2.2 11 0 = 0 := by decide +kernel
set_option maxRecDepth 100000 in
theorem zf_r1_c : ∀ a : Fin 4, ∀ j : Fin 80, (fX8_read (zT (zC0 (a.val : Int)) 53 (zX1 (a.val : Int)))).2.2 0 (j.val : Int) = zC1 (a.val : Int) (j.val : Int) := by decide +kernel
set_option maxRecDepth 100000 in
theorem zf_1r : ∀ a : Fin 4, (fX8_isRight (zM (zC1 (a.val : Int))) 1).1 = 0 ∧ (fX8_isRight (zM (zC1 (a.val : Int))) 1).2.1 = 1 := by decide +kernel
set_option maxRecDepth 100000 in
theorem zf_1w : ∀ a : Fin 4, (fX8_wrongAgain (zM (zC1 (a.val : Int))) 1).1 = 0 ∧ (fX8_wrongAgain (zM (zC1 (a.val : Int))) 1).2.1 = -1 := by decide +kernel
set_option maxRecDepth 100000 in
theorem zf_1p : ∀ a : Fin 4, (fX8_phrases (zM (zC1 (a.val : Int))) 1).1 = 0 ∧ (fX8_phrases (zM (zC1 (a.val : Int))) 1).2.1 = 1 := by decide +kernel
set_option maxRecDepth 100000 in
theorem zf_1a : ∀ a : Fin 4, (fX8_phraseOf (zM (zC1 (a.val : Int))) 1 0 0).1 = 0 ∧ (fX8_phraseOf (zM (zC1 (a.val : Int))) 1 0 0).2.1 = 1 := by decide +kernel
set_option maxRecDepth 100000 in
theorem zf_1b : ∀ a : Fin 4, (fX8_phraseOf (zM (zC1 (a.val : Int))) 1 0 1).1 = 0 ∧ (fX8_phraseOf (zM (zC1 (a.val : Int))) 1 0 1).2.1 = 1 := by decide +kernel
set_option maxRecDepth 100000 in
theorem zf_1c : ∀ a : Fin 4, (fX8_phraseOf (zM (zC1 (a.val : Int))) 1 0 2).1 = 0 ∧ (fX8_phraseOf (zM (zC1 (a.val : Int))) 1 0 2).2.1 = -1 := by decide +kernel
set_option maxRecDepth 100000 in
theorem zf_1d : ∀ a : Fin 4, (fX8_phraseOf (zM (zC1 (a.val : Int))) 1 0 3).1 = 0 ∧ (fX8_phraseOf (zM (zC1 (a.val : Int))) 1 0 3).2.1 = 0 := by decide +kernel
set_option maxRecDepth 100000 in
theorem zf_1n : ∀ a : Fin 4, (fX8_next (zM (zC1 (a.val : Int))) 1).1 = 0 ∧ (fX8_next (zM (zC1 (a.val : Int))) 1).2.1 = 24 := by decide +kernel
set_option maxRecDepth 100000 in
theorem zf_1o : ∀ a : Fin 4, (fX8_doubt (zM (zC1 (a.val : Int))) 1).1 = 0 ∧ (fX8_doubt (zM (zC1 (a.val : Int))) 1).2.1 = 3 := by decide +kernel
set_option maxRecDepth 100000 in
theorem zf_1s : ∀ a : Fin 4, (fX8_sure (zM (zC1 (a.val : Int))) 1).1 = 0 ∧ (fX8_sure (zM (zC1 (a.val : Int))) 1).2.1 = 85 := by decide +kernel
set_option maxRecDepth 100000 in
theorem zf_1f : ∀ a : Fin 4, (fX8_fewest (zM (zC1 (a.val : Int))) 1).1 = 0 ∧ (fX8_fewest (zM (zC1 (a.val : Int))) 1).2.1 = 0 := by decide +kernel
set_option maxRecDepth 100000 in
theorem zf_1sh : ∀ a : Fin 4, (fX8_show (zM (zC1 (a.val : Int))) 1).1 = 0 ∧ (fX8_show (zM (zC1 (a.val : Int))) 1).2.1 = 5 := by decide +kernel
set_option maxRecDepth 100000 in
theorem zf_1sh_w : ∀ a : Fin 4, ∀ i : Fin 5, fX8_written (fX8_show (zM (zC1 (a.val : Int))) 1).2.2 (i.val : Int) = (0, zY1 (a.val : Int) (i.val : Int)) := by decide +kernel
set_option maxRecDepth 100000 in
theorem zf_1te : ∀ a : Fin 4, (fX8_tell (zM (zC1 (a.val : Int))) 1).1 = 0 ∧ (fX8_tell (zM (zC1 (a.val : Int))) 1).2.1 = 6 := by decide +kernel
set_option maxRecDepth 100000 in
theorem zf_1te_w : ∀ a : Fin 4, ∀ i : Fin 6, fX8_written (fX8_tell (zM (zC1 (a.val : Int))) 1).2.2 (i.val : Int) = (0, zY2 (a.val : Int) (i.val : Int)) := by decide +kernel
set_option maxRecDepth 100000 in
theorem zf_1ho : ∀ a : Fin 4, (fX8_change (zM (zC1 (a.val : Int))) 5 1 0 0).1 = 0 ∧ (fX8_change (zM (zC1 (a.val : Int))) 5 1 0 0).2.1 = 1 := by decide +kernel
set_option maxRecDepth 100000 in
theorem zf_1ho_c : ∀ a : Fin 4, ∀ j : Fin 80, (fX8_change (zM (zC1 (a.val : Int))) 5 1 0 0).2.2 0 (j.val : Int) = zC2 (a.val : Int) (j.val : Int) := by decide +kernel
set_option maxRecDepth 100000 in
theorem zf_2ac : ∀ a : Fin 4, (fX8_account (zM (zC2 (a.val : Int))) 6).1 = 0 ∧ (fX8_account (zM (zC2 (a.val : Int))) 6).2.1 = 1 := by decide +kernel
set_option maxRecDepth 100000 in
theorem zf_2cl : ∀ a : Fin 4, (fX8_clearest (zM (zC2 (a.val : Int))) 0).1 = 0 ∧ (fX8_clearest (zM (zC2 (a.val : Int))) 0).2.1 = 1 := by decide +kernel
set_option maxRecDepth 100000 in
theorem zf_r2 : ∀ a : Fin 4, (fX8_read (zT (zC2 (a.val : Int)) 49 (zX2 (a.val : Int)))).1 = 0 ∧ (fX8_read (zT (zC2 (a.val : Int)) 49 (zX2 (a.val : Int)))).2.1 = 7 ∧ (fX8_read (zT (zC2 (a.val : Int)) 49 (zX2 (a.val : Int)))).2.2 11 0 = 0 := by decide +kernel
set_option maxRecDepth 100000 in
theorem zf_r2_c : ∀ a : Fin 4, ∀ j : Fin 80, (fX8_read (zT (zC2 (a.val : Int)) 49 (zX2 (a.val : Int)))).2.2 0 (j.val : Int) = zC3 (a.val : Int) (j.val : Int) := by decide +kernel
set_option maxRecDepth 100000 in
theorem zf_3w : ∀ a : Fin 4, (fX8_wrong (zM (zC3 (a.val : Int))) 1).1 = 0 ∧ (fX8_wrong (zM (zC3 (a.val : Int))) 1).2.1 = 2 := by decide +kernel
set_option maxRecDepth 100000 in
theorem zf_3v : ∀ a : Fin 4, (fX8_wrongAgain (zM (zC3 (a.val : Int))) 1).1 = 0 ∧ (fX8_wrongAgain (zM (zC3 (a.val : Int))) 1).2.1 = 2 := by decide +kernel
set_option maxRecDepth 100000 in
theorem zf_3r : ∀ a : Fin 4, (fX8_isRight (zM (zC3 (a.val : Int))) 1).1 = 0 ∧ (fX8_isRight (zM (zC3 (a.val : Int))) 1).2.1 = 0 := by decide +kernel
set_option maxRecDepth 100000 in
theorem zf_3n : ∀ a : Fin 4, (fX8_next (zM (zC3 (a.val : Int))) 1).1 = 0 ∧ (fX8_next (zM (zC3 (a.val : Int))) 1).2.1 = 0 := by decide +kernel
set_option maxRecDepth 100000 in
theorem zf_3f : ∀ a : Fin 4, (fX8_fewest (zM (zC3 (a.val : Int))) 1).1 = 0 ∧ (fX8_fewest (zM (zC3 (a.val : Int))) 1).2.1 = 1 := by decide +kernel
set_option maxRecDepth 100000 in
theorem zf_3g : ∀ a : Fin 4, (fX8_fewestAgain (zM (zC3 (a.val : Int))) 1).1 = 0 ∧ (fX8_fewestAgain (zM (zC3 (a.val : Int))) 1).2.1 = 1 := by decide +kernel
set_option maxRecDepth 100000 in
theorem zf_3ho : ∀ a : Fin 4, (fX8_change (zM (zC3 (a.val : Int))) 5 1 0 0).1 = 0 ∧ (fX8_change (zM (zC3 (a.val : Int))) 5 1 0 0).2.1 = 0 := by decide +kernel
set_option maxRecDepth 100000 in
theorem zf_3ho_c : ∀ a : Fin 4, ∀ j : Fin 80, (fX8_change (zM (zC3 (a.val : Int))) 5 1 0 0).2.2 0 (j.val : Int) = zC4 (a.val : Int) (j.val : Int) := by decide +kernel
set_option maxRecDepth 100000 in
theorem zf_4a : ∀ a : Fin 4, (fX8_tableOf (zM (zC4 (a.val : Int))) 1 5).1 = 0 ∧ (fX8_tableOf (zM (zC4 (a.val : Int))) 1 5).2.1 = 1 := by decide +kernel
set_option maxRecDepth 100000 in
theorem zf_4b : ∀ a : Fin 4, (fX8_tableOf (zM (zC4 (a.val : Int))) 1 4).1 = 0 ∧ (fX8_tableOf (zM (zC4 (a.val : Int))) 1 4).2.1 = 2 := by decide +kernel
set_option maxRecDepth 100000 in
theorem zf_4m : ∀ a : Fin 4, (fX8_change (zM (zC4 (a.val : Int))) 7 1 2 0).1 = 0 ∧ (fX8_change (zM (zC4 (a.val : Int))) 7 1 2 0).2.1 = 2 := by decide +kernel
set_option maxRecDepth 100000 in
theorem zf_4m_c : ∀ a : Fin 4, ∀ j : Fin 80, (fX8_change (zM (zC4 (a.val : Int))) 7 1 2 0).2.2 0 (j.val : Int) = zC5 (a.val : Int) (j.val : Int) := by decide +kernel
set_option maxRecDepth 100000 in
theorem zf_5a : ∀ a : Fin 4, (fX8_phraseOf (zM (zC5 (a.val : Int))) 1 0 0).1 = 0 ∧ (fX8_phraseOf (zM (zC5 (a.val : Int))) 1 0 0).2.1 = 2 := by decide +kernel
set_option maxRecDepth 100000 in
theorem zf_5b : ∀ a : Fin 4, (fX8_phraseOf (zM (zC5 (a.val : Int))) 1 0 3).1 = 0 ∧ (fX8_phraseOf (zM (zC5 (a.val : Int))) 1 0 3).2.1 = 1 := by decide +kernel
set_option maxRecDepth 100000 in
theorem zf_5l : ∀ a : Fin 4, (fX8_change (zM (zC5 (a.val : Int))) 6 4 1 0).1 = 0 ∧ (fX8_change (zM (zC5 (a.val : Int))) 6 4 1 0).2.1 = 3 := by decide +kernel
set_option maxRecDepth 100000 in
theorem zf_5l_c : ∀ a : Fin 4, ∀ j : Fin 80, (fX8_change (zM (zC5 (a.val : Int))) 6 4 1 0).2.2 0 (j.val : Int) = zC6 (a.val : Int) (j.val : Int) := by decide +kernel
set_option maxRecDepth 100000 in
theorem zf_6w : ∀ a : Fin 4, (fX8_wrong (zM (zC6 (a.val : Int))) 1).1 = 0 ∧ (fX8_wrong (zM (zC6 (a.val : Int))) 1).2.1 = 4 := by decide +kernel
set_option maxRecDepth 100000 in
theorem zf_6n : ∀ a : Fin 4, (fX8_next (zM (zC6 (a.val : Int))) 1).1 = 0 ∧ (fX8_next (zM (zC6 (a.val : Int))) 1).2.1 = 2 := by decide +kernel
set_option maxRecDepth 100000 in
theorem zf_6f : ∀ a : Fin 4, (fX8_fewest (zM (zC6 (a.val : Int))) 1).1 = 0 ∧ (fX8_fewest (zM (zC6 (a.val : Int))) 1).2.1 = 1 := by decide +kernel
set_option maxRecDepth 100000 in
theorem zf_6l : ∀ a : Fin 4, (fX8_change (zM (zC6 (a.val : Int))) 6 3 1 0).1 = 0 ∧ (fX8_change (zM (zC6 (a.val : Int))) 6 3 1 0).2.1 = 4 := by decide +kernel
set_option maxRecDepth 100000 in
theorem zf_6l_c : ∀ a : Fin 4, ∀ j : Fin 80, (fX8_change (zM (zC6 (a.val : Int))) 6 3 1 0).2.2 0 (j.val : Int) = zC7 (a.val : Int) (j.val : Int) := by decide +kernel
set_option maxRecDepth 100000 in
theorem zf_7w : ∀ a : Fin 4, (fX8_wrong (zM (zC7 (a.val : Int))) 1).1 = 0 ∧ (fX8_wrong (zM (zC7 (a.val : Int))) 1).2.1 = 4 := by decide +kernel
set_option maxRecDepth 100000 in
theorem zf_7f : ∀ a : Fin 4, (fX8_fewest (zM (zC7 (a.val : Int))) 1).1 = 0 ∧ (fX8_fewest (zM (zC7 (a.val : Int))) 1).2.1 = 1 := by decide +kernel
set_option maxRecDepth 100000 in
theorem zf_7t : ∀ a : Fin 4, (fX8_change (zM (zC7 (a.val : Int))) 3 4 0 0).1 = 0 ∧ (fX8_change (zM (zC7 (a.val : Int))) 3 4 0 0).2.1 = 3 := by decide +kernel
set_option maxRecDepth 100000 in
theorem zf_7t_c : ∀ a : Fin 4, ∀ j : Fin 80, (fX8_change (zM (zC7 (a.val : Int))) 3 4 0 0).2.2 0 (j.val : Int) = zC8 (a.val : Int) (j.val : Int) := by decide +kernel
set_option maxRecDepth 100000 in
theorem zf_8a : ∀ a : Fin 4, (fX8_phraseOf (zM (zC8 (a.val : Int))) 1 0 2).1 = 0 ∧ (fX8_phraseOf (zM (zC8 (a.val : Int))) 1 0 2).2.1 = 3 := by decide +kernel
set_option maxRecDepth 100000 in
theorem zf_8n : ∀ a : Fin 4, (fX8_next (zM (zC8 (a.val : Int))) 1).1 = 0 ∧ (fX8_next (zM (zC8 (a.val : Int))) 1).2.1 = 16 := by decide +kernel
set_option maxRecDepth 100000 in
theorem zf_8w : ∀ a : Fin 4, (fX5_judge (zM (zC8 (a.val : Int))) 4 3 0 0).1 = 65 := by decide +kernel
set_option maxRecDepth 100000 in
theorem zf_8t : ∀ a : Fin 4, (fX8_change (zM (zC8 (a.val : Int))) 3 3 0 0).1 = 0 ∧ (fX8_change (zM (zC8 (a.val : Int))) 3 3 0 0).2.1 = 3 := by decide +kernel
set_option maxRecDepth 100000 in
theorem zf_8t_c : ∀ a : Fin 4, ∀ j : Fin 80, (fX8_change (zM (zC8 (a.val : Int))) 3 3 0 0).2.2 0 (j.val : Int) = zC9 (a.val : Int) (j.val : Int) := by decide +kernel
set_option maxRecDepth 100000 in
theorem zf_9w : ∀ a : Fin 4, (fX5_judge (zM (zC9 (a.val : Int))) 4 3 0 0).1 = 115 := by decide +kernel
set_option maxRecDepth 100000 in
theorem zf_9s : ∀ a : Fin 4, (fX8_change (zM (zC9 (a.val : Int))) 8 3 9 0).1 = 0 ∧ (fX8_change (zM (zC9 (a.val : Int))) 8 3 9 0).2.1 = 9 := by decide +kernel
set_option maxRecDepth 100000 in
theorem zf_9s_c : ∀ a : Fin 4, ∀ j : Fin 80, (fX8_change (zM (zC9 (a.val : Int))) 8 3 9 0).2.2 0 (j.val : Int) = zC10 (a.val : Int) (j.val : Int) := by decide +kernel
set_option maxRecDepth 100000 in
theorem zf_10s : ∀ a : Fin 4, (fX5_judge (zM (zC10 (a.val : Int))) 8 3 1 0).1 = 105 := by decide +kernel
set_option maxRecDepth 100000 in
theorem zf_10w : ∀ a : Fin 4, (fX8_change (zM (zC10 (a.val : Int))) 4 3 0 0).1 = 0 ∧ (fX8_change (zM (zC10 (a.val : Int))) 4 3 0 0).2.1 = 9 := by decide +kernel
set_option maxRecDepth 100000 in
theorem zf_10w_c : ∀ a : Fin 4, ∀ j : Fin 80, (fX8_change (zM (zC10 (a.val : Int))) 4 3 0 0).2.2 0 (j.val : Int) = zC11 (a.val : Int) (j.val : Int) := by decide +kernel
set_option maxRecDepth 100000 in
theorem zf_11a : ∀ a : Fin 4, fX8_napkinOf (zM (zC11 (a.val : Int))) 3 1 = (0, 0) := by decide +kernel
set_option maxRecDepth 100000 in
theorem zf_11b : ∀ a : Fin 4, fX8_napkinOf (zM (zC11 (a.val : Int))) 3 2 = (0, 2) := by decide +kernel
set_option maxRecDepth 100000 in
theorem zf_11c : ∀ a : Fin 4, (fX8_account (zM (zC11 (a.val : Int))) 9).1 = 0 ∧ (fX8_account (zM (zC11 (a.val : Int))) 9).2.1 = 9 := by decide +kernel
set_option maxRecDepth 100000 in
theorem zf_11u : ∀ a : Fin 4, (fX8_change (zM (zC11 (a.val : Int))) 2 1 0 0).1 = 0 ∧ (fX8_change (zM (zC11 (a.val : Int))) 2 1 0 0).2.1 = 2 := by decide +kernel
set_option maxRecDepth 100000 in
theorem zf_11u_c : ∀ a : Fin 4, ∀ j : Fin 80, (fX8_change (zM (zC11 (a.val : Int))) 2 1 0 0).2.2 0 (j.val : Int) = zC12 (a.val : Int) (j.val : Int) := by decide +kernel
set_option maxRecDepth 100000 in
theorem zf_12w : ∀ a : Fin 4, (fX8_wrong (zM (zC12 (a.val : Int))) 1).1 = 0 ∧ (fX8_wrong (zM (zC12 (a.val : Int))) 1).2.1 = 2 := by decide +kernel
set_option maxRecDepth 100000 in
theorem zf_12n : ∀ a : Fin 4, (fX8_next (zM (zC12 (a.val : Int))) 1).1 = 0 ∧ (fX8_next (zM (zC12 (a.val : Int))) 1).2.1 = 6 := by decide +kernel
set_option maxRecDepth 100000 in
theorem zf_12s : ∀ a : Fin 4, (fX8_show (zM (zC12 (a.val : Int))) 1).1 = 0 ∧ (fX8_show (zM (zC12 (a.val : Int))) 1).2.1 = 7 := by decide +kernel
set_option maxRecDepth 100000 in
theorem zf_12s_w : ∀ a : Fin 4, ∀ i : Fin 7, fX8_written (fX8_show (zM (zC12 (a.val : Int))) 1).2.2 (i.val : Int) = (0, zY3 (a.val : Int) (i.val : Int)) := by decide +kernel
set_option maxRecDepth 100000 in
theorem zf_12f : ∀ a : Fin 4, (fX8_change (zM (zC12 (a.val : Int))) 1 1 1 0).1 = 0 ∧ (fX8_change (zM (zC12 (a.val : Int))) 1 1 1 0).2.1 = 4 := by decide +kernel
set_option maxRecDepth 100000 in
theorem zf_12f_c : ∀ a : Fin 4, ∀ j : Fin 80, (fX8_change (zM (zC12 (a.val : Int))) 1 1 1 0).2.2 0 (j.val : Int) = zC13 (a.val : Int) (j.val : Int) := by decide +kernel
set_option maxRecDepth 100000 in
theorem zf_13f : ∀ a : Fin 4, (fX8_change (zM (zC13 (a.val : Int))) 1 1 3 0).1 = 0 ∧ (fX8_change (zM (zC13 (a.val : Int))) 1 1 3 0).2.1 = 6 := by decide +kernel
set_option maxRecDepth 100000 in
theorem zf_13f_c : ∀ a : Fin 4, ∀ j : Fin 80, (fX8_change (zM (zC13 (a.val : Int))) 1 1 3 0).2.2 0 (j.val : Int) = zC14 (a.val : Int) (j.val : Int) := by decide +kernel
set_option maxRecDepth 100000 in
theorem zf_14f : ∀ a : Fin 4, (fX8_change (zM (zC14 (a.val : Int))) 1 1 4 0).1 = 0 ∧ (fX8_change (zM (zC14 (a.val : Int))) 1 1 4 0).2.1 = 8 := by decide +kernel
set_option maxRecDepth 100000 in
theorem zf_14f_c : ∀ a : Fin 4, ∀ j : Fin 80, (fX8_change (zM (zC14 (a.val : Int))) 1 1 4 0).2.2 0 (j.val : Int) = zC15 (a.val : Int) (j.val : Int) := by decide +kernel
set_option maxRecDepth 100000 in
theorem zf_15f : ∀ a : Fin 4, (fX8_change (zM (zC15 (a.val : Int))) 1 1 1 0).1 = 0 ∧ (fX8_change (zM (zC15 (a.val : Int))) 1 1 1 0).2.1 = 11 := by decide +kernel
set_option maxRecDepth 100000 in
theorem zf_15f_c : ∀ a : Fin 4, ∀ j : Fin 80, (fX8_change (zM (zC15 (a.val : Int))) 1 1 1 0).2.2 0 (j.val : Int) = zC16 (a.val : Int) (j.val : Int) := by decide +kernel
set_option maxRecDepth 100000 in
theorem zf_16f : ∀ a : Fin 4, (fX5_judge (zM (zC16 (a.val : Int))) 1 1 3 0).1 = 59 := by decide +kernel
set_option maxRecDepth 100000 in
theorem zf_16w : ∀ a : Fin 4, fX8_worn (zM (zC16 (a.val : Int))) 0 = (0, 1) := by decide +kernel
