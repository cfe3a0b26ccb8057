/-! WHAT A TABLE SAYS, as a list: sl; the model's countOf, saidAt by it. -/
/-- the folded ones among k seats from place p on -/
def sl (s f : Int → Int) : Nat → Int → List Int
  | 0, _ => []
  | k + 1, p => if f (s p) = 0 then sl s f k (p + 1) else s p :: sl s f k (p + 1)
theorem sl_end {s f : Int → Int} {m p : Int} (h : m ≤ p) : sl s f (m - p).toNat p = [] := by
  rw [show (m - p).toNat = 0 by omega]; rfl
theorem sl_succ {s f : Int → Int} {m p : Int} (h : p < m) : sl s f (m - p).toNat p = if f (s p) = 0 then sl s f (m - (p + 1)).toNat (p + 1) else s p :: sl s f (m - (p + 1)).toNat (p + 1) := by
  rw [show (m - p).toNat = (m - (p + 1)).toNat + 1 by omega]; rfl
theorem sl_mem {s f : Int → Int} : ∀ (k : Nat) (p x : Int), x ∈ sl s f k p → ∃ q : Int, p ≤ q ∧ q < p + k ∧ x = s q ∧ ¬ f x = 0 := by
  intro k
  induction k with
  | zero => intro p x h; cases h
  | succ k ih =>
    intro p x h
    rw [sl] at h
    split at h
    · obtain ⟨q, a, b, c⟩ := ih _ _ h
      exact ⟨q, by omega, by omega, c⟩
    · rename_i hf
      rcases List.mem_cons.mp h with h | h
      · exact ⟨p, by omega, by omega, h, by rw [h]; exact hf⟩
      · obtain ⟨q, a, b, c⟩ := ih _ _ h
        exact ⟨q, by omega, by omega, c⟩
theorem sl_len {s f : Int → Int} : ∀ (k : Nat) (p : Int), (sl s f k p).length ≤ k := by
  intro k
  induction k with
  | zero => intro p; exact Nat.le_refl _
  | succ k ih =>
    intro p
    rw [sl]
    have := ih (p + 1)
    split
    · omega
    · rw [List.length_cons]; omega
/-- how many of a list have the fold f (0: any) -/
def cntL (g : Int → Int) (f : Int) : List Int → Int
  | [] => 0
  | x :: r => (if f = 0 then 1 else if g x = f then 1 else 0) + cntL g f r
theorem cntL_0 (g : Int → Int) : ∀ L : List Int, cntL g 0 L = L.length := by
  intro L
  induction L with
  | nil => rfl
  | cons x r ih =>
    rw [cntL, if_pos rfl, ih, List.length_cons]
    omega
theorem getD_ge {L : List Int} {d lo : Int} (hd : lo ≤ d) (h : ∀ x ∈ L, lo ≤ x) (k : Nat) : lo ≤ L.getD k d := by
  rw [List.getD_eq_getElem?_getD]
  cases e : L[k]? with
  | none => exact hd
  | some x => exact h x (List.mem_of_getElem? e)
theorem getD_in {L : List Int} {d : Int} {k : Nat} (h : k < L.length) : L.getD k d ∈ L := by
  rw [List.getD_eq_getElem?_getD, List.getElem?_eq_getElem h]
  exact List.getElem_mem h
abbrev gS (M : Mem) (t : Int) : Int → Int := fun p => M 0 (64 + 6 * t + p)
abbrev gF (M : Mem) : Int → Int := fun n => M 0 (15 + n)
def GL (M : Mem) (t : Int) : List Int := sl (gS M t) (gF M) (M 0 (55 + t) - 0).toNat 0
theorem g_at (M : Mem) (t p : Int) : fX9_at M t p = gS M t p := rfl
theorem GL_len {M : Mem} (h : GI M) {t : Int} (ht : 0 ≤ t ∧ t < 3) : (GL M t).length ≤ 6 := by
  have g := GI_55 h (55 + t) (by omega) (by omega)
  have := sl_len (s := gS M t) (f := gF M) (M 0 (55 + t) - 0).toNat 0
  unfold GL
  omega
theorem GL_mem {M : Mem} (h : GI M) {t : Int} (ht : 0 ≤ t ∧ t < 3) : ∀ x ∈ GL M t, 0 ≤ x ∧ x ≤ 9 ∧ 1 ≤ gF M x ∧ gF M x ≤ 4 := by
  intro x hx
  have g := GI_55 h (55 + t) (by omega) (by omega)
  obtain ⟨q, a, b, c, d⟩ := sl_mem _ _ _ hx
  have e := GI_64 h (64 + 6 * t + q) (by omega) (by omega)
  have c2 : x = M 0 (64 + 6 * t + q) := c
  have f := GI_15 h (15 + x) (by omega) (by omega)
  have d2 : ¬ M 0 (15 + x) = 0 := d
  exact ⟨by omega, by omega, (by omega : 1 ≤ M 0 (15 + x)), (by omega : M 0 (15 + x) ≤ 4)⟩
theorem count_L {M : Mem} (h : GI M) {t : Int} (ht : 0 ≤ t ∧ t < 3) (f : Int) : ∀ (k : Nat) (n p : Int), 0 ≤ p → p ≤ M 0 (55 + t) → M 0 (55 + t) - p < k → fX9_countOf_L1 M t f k n p = n + cntL (gF M) f (sl (gS M t) (gF M) (M 0 (55 + t) - p).toNat p) := by
  have g := GI_55 h (55 + t) (by omega) (by omega)
  intro k
  induction k with
  | zero => intro n p _ _ _; omega
  | succ k ih =>
    intro n p h1 h2 h3
    rw [fX9_countOf_L1]
    by_cases he : M 0 (55 + t) ≤ p
    · rw [if_pos he, sl_end he]
      show n = n + 0
      omega
    · rw [if_neg he, sl_succ (by omega), g_at]
      have a : 0 ≤ gS M t p ∧ gS M t p ≤ 9 := GI_64 h _ (by omega) (by omega)
      have b : 0 ≤ gF M (gS M t p) := (GI_15 h (15 + gS M t p) (by omega) (by omega)).1
      by_cases hf : gF M (gS M t p) = 0
      · rw [if_pos (show M 0 (15 + gS M t p) ≤ 0 from Int.le_of_eq hf), if_pos hf, ih _ _ (by omega) (by omega) (by omega)]
        omega
      · rw [if_neg (show ¬ M 0 (15 + gS M t p) ≤ 0 from fun q => hf (Int.le_antisymm q b)), if_neg hf, cntL]
        by_cases h0 : f = 0
        · rw [if_pos h0, if_pos h0, ih _ _ (by omega) (by omega) (by omega)]
          omega
        · rw [if_neg h0, if_neg h0]
          by_cases h9 : gF M (gS M t p) = f
          · rw [if_pos (show M 0 (15 + gS M t p) = f from h9), if_pos h9, ih _ _ (by omega) (by omega) (by omega)]
            omega
          · rw [if_neg (show ¬ M 0 (15 + gS M t p) = f from h9), if_neg h9, ih _ _ (by omega) (by omega) (by omega)]
            omega
theorem g_count {M : Mem} (h : GI M) {t : Int} (ht : 0 ≤ t ∧ t < 3) (f : Int) : fX9_countOf M t f = cntL (gF M) f (GL M t) := by
  have g := GI_55 h (55 + t) (by omega) (by omega)
  unfold fX9_countOf
  rw [count_L h ht f 7 0 0 (by decide) (by omega) (by omega)]
  show 0 + cntL (gF M) f (GL M t) = _
  omega
theorem g_size {M : Mem} (h : GI M) {t : Int} (ht : 0 ≤ t ∧ t < 3) : fX9_countOf M t 0 = (GL M t).length := by rw [g_count h ht, cntL_0]
theorem said_L {M : Mem} (h : GI M) {t : Int} (ht : 0 ≤ t ∧ t < 3) (num : Int) : ∀ (k : Nat) (n p : Int), 0 ≤ p → p ≤ M 0 (55 + t) → M 0 (55 + t) - p < k → n ≤ num → fX9_saidAt_L1 M t num k n p = (sl (gS M t) (gF M) (M 0 (55 + t) - p).toNat p).getD (num - n).toNat (-1) := by
  have g := GI_55 h (55 + t) (by omega) (by omega)
  intro k
  induction k with
  | zero => intro n p _ _ _; omega
  | succ k ih =>
    intro n p h1 h2 h3 hn
    rw [fX9_saidAt_L1]
    by_cases he : M 0 (55 + t) ≤ p
    · rw [if_pos he, sl_end he]
      rfl
    · rw [if_neg he, sl_succ (by omega), g_at]
      have a : 0 ≤ gS M t p ∧ gS M t p ≤ 9 := GI_64 h _ (by omega) (by omega)
      have b : 0 ≤ gF M (gS M t p) := (GI_15 h (15 + gS M t p) (by omega) (by omega)).1
      by_cases hf : gF M (gS M t p) = 0
      · rw [if_pos (show M 0 (15 + gS M t p) ≤ 0 from Int.le_of_eq hf), if_pos hf, ih _ _ (by omega) (by omega) (by omega) hn]
      · rw [if_neg (show ¬ M 0 (15 + gS M t p) ≤ 0 from fun q => hf (Int.le_antisymm q b)), if_neg hf]
        by_cases h0 : n = num
        · rw [if_pos h0, show (num - n).toNat = 0 by omega]
          rfl
        · rw [if_neg h0, ih _ _ (by omega) (by omega) (by omega) (by omega), show (num - n).toNat = (num - (n + 1)).toNat + 1 by omega]
          rfl
theorem g_said {M : Mem} (h : GI M) {t : Int} (ht : 0 ≤ t ∧ t < 3) {i : Int} (hi : 0 ≤ i) : fX9_saidAt M t i = (GL M t).getD i.toNat (-1) := by
  have g := GI_55 h (55 + t) (by omega) (by omega)
  unfold fX9_saidAt
  rw [said_L h ht i 7 0 0 (by decide) (by omega) (by omega) hi, show i - 0 = i by omega]
  rfl
theorem said_ge {M : Mem} (h : GI M) {t : Int} (ht : 0 ≤ t ∧ t < 3) {i : Int} (h0 : 0 ≤ i) (h1 : i < fX9_countOf M t 0) : 0 ≤ fX9_saidAt M t i ∧ fX9_saidAt M t i ≤ 9 := by
  rw [g_size h ht] at h1
  rw [g_said h ht h0]
  have := GL_mem h ht _ (getD_in (d := -1) (show i.toNat < (GL M t).length by omega))
  exact ⟨this.1, this.2.1⟩
theorem g_fold {M : Mem} (h : GI M) {t : Int} (ht : 0 ≤ t ∧ t < 3) {i : Int} (h0 : 0 ≤ i) (h1 : i < (GL M t).length) : fX9_foldAt M t i = gF M ((GL M t).getD i.toNat (-1)) := by
  unfold fX9_foldAt
  rw [g_said h ht h0]
