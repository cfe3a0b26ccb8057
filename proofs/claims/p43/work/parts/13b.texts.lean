/-! THE TEXTS for the first two objects, parsed. -/
def gT (l : List Int) : Int → Int := fun j => l.getD j.toNat 0
def tA (t : Int) : Int → Int := gT [108, 97, 121, 32, 48, 32, 48 + t, 59, 116, 97, 107, 101, 32, 48]
def tB (t : Int) : Int → Int := gT [116, 97, 107, 101, 32, 48, 59, 108, 97, 121, 32, 48, 32, 48 + t]
def tC : Int → Int := gT [109, 111, 118, 101, 32, 50, 32, 55, 55]
def tD (t : Int) : Int → Int := gT [108, 97, 121, 32, 48, 32, 48 + t, 59, 108, 97, 121, 32, 48, 32, 48 + t]
def tE : Int → Int := gT [116, 97, 107, 101, 32, 48, 59, 116, 97, 107, 101, 32, 48]
def two (M : Mem) (co a b d l co2 a2 b2 d2 : Int) : Prop := fX7_errorAt M = -1 ∧ fX7_commandAt M 0 = co ∧ fX7_argument M co 0 0 = a ∧ fX7_argument M co 0 1 = b ∧ fX7_argument M co 0 2 = d ∧ fX1_length co = l ∧ fX7_commandAt M (0 + (l + 1)) = co2 ∧ fX7_argument M co2 (0 + (l + 1)) 0 = a2 ∧ fX7_argument M co2 (0 + (l + 1)) 1 = b2 ∧ fX7_argument M co2 (0 + (l + 1)) 2 = d2
set_option maxRecDepth 100000 in
theorem pA : ∀ t : Fin 3, two (tM 14 (tA (t.val : Int))) 6 0 (t.val : Int) 0 7 3 0 0 0 ∧ fX1_length 3 = 6 ∧ fX7_commandAt (tM 14 (tA (t.val : Int))) (0 + (7 + 1) + (6 + 1)) = -1 := by unfold two; decide +kernel
set_option maxRecDepth 100000 in
theorem pB : ∀ t : Fin 3, two (tM 14 (tB (t.val : Int))) 3 0 0 0 6 6 0 (t.val : Int) 0 ∧ fX1_length 6 = 7 ∧ fX7_commandAt (tM 14 (tB (t.val : Int))) (0 + (6 + 1) + (7 + 1)) = -1 := by unfold two; decide +kernel
set_option maxRecDepth 100000 in
theorem pC : fX7_errorAt (tM 9 tC) = -1 ∧ fX7_commandAt (tM 9 tC) 0 = 7 ∧ fX7_argument (tM 9 tC) 7 0 0 = 2 ∧ fX7_argument (tM 9 tC) 7 0 1 = 7 ∧ fX7_argument (tM 9 tC) 7 0 2 = 7 := by decide +kernel
set_option maxRecDepth 100000 in
theorem pD : ∀ t : Fin 3, two (tM 15 (tD (t.val : Int))) 6 0 (t.val : Int) 0 7 6 0 (t.val : Int) 0 := by unfold two; decide +kernel
set_option maxRecDepth 100000 in
theorem pE : two (tM 13 tE) 3 0 0 0 6 3 0 0 0 := by unfold two; decide +kernel
def cA (l : List Int) : Prop := ∀ i : Fin l.length, 0 ≤ gT l (i.val : Int) ∧ gT l (i.val : Int) < 128
theorem cA_e {l : List Int} (h : cA l) : ∀ i : Int, 0 ≤ i → i < l.length → 0 ≤ gT l i ∧ gT l i < 256 := fun i a b => by
  obtain ⟨k, rfl⟩ := Int.eq_ofNat_of_zero_le a
  have this : 0 ≤ gT l (k : Int) ∧ gT l (k : Int) < 128 := h ⟨k, by omega⟩
  exact ⟨this.1, by omega⟩
