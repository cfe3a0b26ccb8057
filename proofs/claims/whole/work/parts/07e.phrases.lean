/-! PHRASES: the folds that a table says, and where its phrases begin. -/
def FL (M : Mem) (t : Int) : List Int := (GL M t).map (gF M)
def runG (s : Int) : List Int → Int
  | [] => s
  | f :: r => runG (fX9_goesOn s f) r
abbrev idI : Int → Int := fun x => x
theorem FL_len (M : Mem) (t : Int) : (FL M t).length = (GL M t).length := List.length_map _
theorem FL_get {M : Mem} {t : Int} {k : Nat} (hk : k < (GL M t).length) : (FL M t).getD k 0 = gF M ((GL M t).getD k (-1)) := by
  unfold FL
  rw [List.getD_eq_getElem?_getD, List.getD_eq_getElem?_getD, List.getElem?_map, List.getElem?_eq_getElem hk]
  rfl
theorem FL_drop {M : Mem} {t : Int} {k : Nat} (hk : k < (GL M t).length) : (FL M t).drop k = (FL M t).getD k 0 :: (FL M t).drop (k + 1) := by
  have hk2 : k < (FL M t).length := by rw [FL_len]; exact hk
  rw [List.drop_eq_getElem_cons hk2, List.getD_eq_getElem?_getD, List.getElem?_eq_getElem hk2]
  rfl
theorem FL_end {M : Mem} {t : Int} {k : Nat} (hk : (GL M t).length ≤ k) : (FL M t).drop k = [] := List.drop_eq_nil_of_le (by rw [FL_len]; exact hk)
theorem FL_mem {M : Mem} (h : GI M) {t : Int} (ht : 0 ≤ t ∧ t < 3) : ∀ f ∈ FL M t, 1 ≤ f ∧ f ≤ 4 := by
  intro f hf
  obtain ⟨x, hx, rfl⟩ := List.mem_map.mp hf
  exact (GL_mem h ht x hx).2.2
theorem g_foldF {M : Mem} (h : GI M) {t : Int} (ht : 0 ≤ t ∧ t < 3) {i : Int} (h0 : 0 ≤ i) (h1 : i < (GL M t).length) : fX9_foldAt M t i = (FL M t).getD i.toNat 0 := by
  rw [g_fold h ht h0 h1, FL_get (by omega)]
theorem cnt_map (g : Int → Int) (f : Int) : ∀ L : List Int, cntL g f L = cntL idI f (L.map g) := by
  intro L
  induction L with
  | nil => rfl
  | cons x r ih => rw [cntL, List.map_cons, cntL, ih]
theorem g_countF {M : Mem} (h : GI M) {t : Int} (ht : 0 ≤ t ∧ t < 3) (f : Int) : fX9_countOf M t f = cntL idI f (FL M t) := by
  rw [g_count h ht, cnt_map]
  rfl
theorem dr4 {M : Mem} (h : GI M) {t : Int} (ht : 0 ≤ t ∧ t < 3) {i : Int} (h0 : 0 ≤ i) : (((GL M t).length : Int) ≤ i ∧ cntL idI 4 ((FL M t).drop i.toNat) = 0) ∨ (i < (GL M t).length ∧ fX9_foldAt M t i = 4 ∧ cntL idI 4 ((FL M t).drop i.toNat) = 1 + cntL idI 4 ((FL M t).drop (i + 1).toNat)) ∨ (i < (GL M t).length ∧ ¬ fX9_foldAt M t i = 4 ∧ cntL idI 4 ((FL M t).drop i.toNat) = cntL idI 4 ((FL M t).drop (i + 1).toNat)) := by
  by_cases hl : ((GL M t).length : Int) ≤ i
  · left
    refine ⟨hl, ?_⟩
    rw [FL_end (by omega)]
    rfl
  · right
    rw [g_foldF h ht h0 (by omega), FL_drop (k := i.toNat) (by omega), show (i + 1).toNat = i.toNat + 1 by omega, cntL, if_neg (by decide)]
    by_cases hf : (FL M t).getD i.toNat 0 = 4
    · left
      rw [if_pos hf]
      exact ⟨by omega, hf, rfl⟩
    · right
      rw [if_neg hf]
      exact ⟨by omega, hf, by omega⟩
theorem ph_cnt {M : Mem} (h : GI M) {t : Int} (ht : 0 ≤ t ∧ t < 3) : fX9_phrasesOf M t ≤ cntL idI 4 ((FL M t).drop (0 : Int).toNat) + 1 := by
  have e := g_countF h ht 4
  have c := rg_X9_countOf h t 4 ht
  have e2 : (FL M t).drop (0 : Int).toNat = FL M t := rfl
  rw [e2, ← e]
  unfold fX9_phrasesOf
  (repeat' split) <;> omega
theorem state_L {M : Mem} (h : GI M) {t : Int} (ht : 0 ≤ t ∧ t < 3) : ∀ (k : Nat) (s i : Int), 0 ≤ i → i ≤ (GL M t).length → ((GL M t).length : Int) - i < k → fX9_stateOf_L1 M t k s i = runG s ((FL M t).drop i.toNat) := by
  intro k
  induction k with
  | zero => intro s i _ _ _; omega
  | succ k ih =>
    intro s i h0 h1 h2
    rw [fX9_stateOf_L1, g_size h ht]
    by_cases hl : ((GL M t).length : Int) ≤ i
    · rw [if_pos hl, FL_end (by omega)]
      rfl
    · rw [if_neg hl, ih _ _ (by omega) (by omega) (by omega), g_foldF h ht h0 (by omega), FL_drop (k := i.toNat) (by omega), show (i + 1).toNat = i.toNat + 1 by omega]
      rfl
theorem g_state {M : Mem} (h : GI M) {t : Int} (ht : 0 ≤ t ∧ t < 3) : fX9_stateOf M t = runG 0 (FL M t) := by
  have := GL_len h ht
  unfold fX9_stateOf
  rw [state_L h ht 7 0 0 (by decide) (by omega) (by omega)]
  rfl
theorem run_4 : ∀ L : List Int, runG 4 L = 4 := by
  intro L
  induction L with
  | nil => rfl
  | cons f r ih =>
    have e : fX9_goesOn 4 f = 4 := by unfold fX9_goesOn; (repeat' split) <;> omega
    rw [runG, e, ih]
/-- from i on, a phrase begins there, or goes on with its subjects -/
def SubG (M : Mem) (t i : Int) : Prop := fX9_isEnd (runG 0 ((FL M t).drop i.toNat)) = 1 ∨ fX9_isEnd (runG 1 ((FL M t).drop i.toNat)) = 1
theorem end_not (s : Int) (h : fX9_isEnd s = 1) : s = 2 ∨ s = 3 := by
  unfold fX9_isEnd at h
  (repeat' split at h) <;> omega
theorem sub_in {M : Mem} {t i : Int} (h0 : 0 ≤ i) (hs : SubG M t i) : i < (GL M t).length := by
  by_cases hl : ((GL M t).length : Int) ≤ i
  · unfold SubG at hs
    rw [FL_end (by omega)] at hs
    rcases hs with hs | hs
    · have := end_not _ hs
      have e : runG 0 [] = 0 := rfl
      omega
    · have := end_not _ hs
      have e : runG 1 [] = 1 := rfl
      omega
  · omega
theorem sub_step {M : Mem} (h : GI M) {t : Int} (ht : 0 ≤ t ∧ t < 3) {i : Int} (h0 : 0 ≤ i) (hs : SubG M t i) (hf : fX9_foldAt M t i = 1) : SubG M t (i + 1) := by
  have hl := sub_in h0 hs
  rw [g_foldF h ht h0 hl] at hf
  unfold SubG at hs ⊢
  rw [FL_drop (k := i.toNat) (by omega), hf] at hs
  rw [show (i + 1).toNat = i.toNat + 1 by omega]
  exact Or.inr (hs.elim id id)
