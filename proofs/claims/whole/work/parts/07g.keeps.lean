/-! WHAT THE MODEL'S CHANGES KEEP: GI. -/
theorem GI_up {M : Mem} (h : GI M) {z v : Int} (c : (z = 0 → 0 ≤ v ∧ v ≤ 10) ∧ (5 ≤ z → z < 15 → 0 ≤ v ∧ v ≤ 3) ∧ (15 ≤ z → z < 25 → 0 ≤ v ∧ v ≤ 4) ∧ (25 ≤ z → z < 35 → 0 ≤ v ∧ v ≤ 12) ∧ (35 ≤ z → z < 45 → 0 ≤ v ∧ v ≤ 9) ∧ (55 ≤ z → z < 58 → 0 ≤ v ∧ v ≤ 6) ∧ (64 ≤ z → z < 82 → 0 ≤ v ∧ v ≤ 9)) : GI (mst M 0 z v) := by
  have key : ∀ (lo hi j : Int), (lo ≤ M 0 j ∧ M 0 j ≤ hi) → (j = z → lo ≤ v ∧ v ≤ hi) → lo ≤ up (M 0) z v j ∧ up (M 0) z v j ≤ hi := by
    intro lo hi j h1 h2
    unfold up
    split
    · exact h2 (by assumption)
    · exact h1
  refine ⟨key 0 10 0 h.1 (by omega), fun j a b => key 0 3 j (h.2.1 j a b) (by omega), fun j a b => key 0 4 j (h.2.2.1 j a b) (by omega), fun j a b => key 0 12 j (h.2.2.2.1 j a b) (by omega), fun j a b => key 0 9 j (h.2.2.2.2.1 j a b) (by omega), fun j a b => key 0 6 j (h.2.2.2.2.2.1 j a b) (by omega), fun j a b => key 0 9 j (h.2.2.2.2.2.2 j a b) (by omega)⟩
theorem GI_done {X : Mem} {v : Int} (h : GI X) : GI (fX9_done X v).2 := GI_of rfl h
theorem GI_fails {X : Mem} {v : Int} (h : GI X) : GI (fX9_fails X v).2 := GI_of rfl h
theorem GI_refused {X : Mem} {a b c : Int} (h : GI X) : GI (fX9_refused X a b c).2 := GI_of rfl h
/-- where a napkin lies, if it does -/
theorem seat_L2 {M : Mem} (h : GI M) (n t : Int) (K : Int → Int) (ht : 0 ≤ t ∧ t < 3) (hK : K (t + 1) = -1 ∨ ∃ t' p' : Int, K (t + 1) = 10 * t' + p' ∧ 0 ≤ t' ∧ t' < 3 ∧ 0 ≤ p' ∧ p' < M 0 (55 + t') ∧ fX9_at M t' p' = n) : ∀ (k : Nat) (p : Int), 0 ≤ p → p ≤ M 0 (55 + t) → M 0 (55 + t) - p < k → fX9_seatOf_L2 M n t K k p = -1 ∨ ∃ t' p' : Int, fX9_seatOf_L2 M n t K k p = 10 * t' + p' ∧ 0 ≤ t' ∧ t' < 3 ∧ 0 ≤ p' ∧ p' < M 0 (55 + t') ∧ fX9_at M t' p' = n := by
  intro k
  induction k with
  | zero => intro p _ _ _; omega
  | succ k ih =>
    intro p h1 h2 h3
    rw [fX9_seatOf_L2]
    split
    · exact hK
    · split
      · rename_i e1 e2
        exact Or.inr ⟨t, p, rfl, ht.1, ht.2, h1, by omega, e2⟩
      · exact ih _ (by omega) (by omega) (by omega)
theorem seat_L1 {M : Mem} (h : GI M) (n : Int) : ∀ (k : Nat) (t : Int), 0 ≤ t → t ≤ 3 → 3 - t < k → fX9_seatOf_L1 M n k t = -1 ∨ ∃ t' p' : Int, fX9_seatOf_L1 M n k t = 10 * t' + p' ∧ 0 ≤ t' ∧ t' < 3 ∧ 0 ≤ p' ∧ p' < M 0 (55 + t') ∧ fX9_at M t' p' = n := by
  intro k
  induction k with
  | zero => intro t _ _ _; omega
  | succ k ih =>
    intro t h1 h2 h3
    rw [fX9_seatOf_L1]
    by_cases hc : (3 : Int) ≤ t
    · rw [if_pos hc]; exact Or.inl rfl
    · rw [if_neg hc]
      have g := GI_55 h (55 + t) (by omega) (by omega)
      exact seat_L2 h n t _ (by omega) (ih (t + 1) (by omega) (by omega) (by omega)) 7 0 (by decide) (by omega) (by omega)
theorem seat_spec {M : Mem} (h : GI M) (n : Int) : fX9_seatOf M n = -1 ∨ (0 ≤ fX9_seatOf M n / 10 ∧ fX9_seatOf M n / 10 < 3 ∧ 0 ≤ fX9_seatOf M n % 10 ∧ fX9_seatOf M n % 10 < M 0 (55 + fX9_seatOf M n / 10) ∧ fX9_at M (fX9_seatOf M n / 10) (fX9_seatOf M n % 10) = n) := by
  rcases seat_L1 h n 4 0 (by decide) (by decide) (by decide) with e | ⟨t, p, e, h1, h2, h3, h4, h5⟩
  · exact Or.inl e
  · right
    have g := GI_55 h (55 + t) (by omega) (by omega)
    have e0 : fX9_seatOf M n = 10 * t + p := e
    have e1 : fX9_seatOf M n / 10 = t := by omega
    have e2 : fX9_seatOf M n % 10 = p := by omega
    rw [e1, e2]
    exact ⟨h1, h2, h3, h4, h5⟩
theorem GI_closesUp_L {M : Mem} {t p : Int} (ht : 0 ≤ t ∧ t < 3) : ∀ (k : Nat) (Mx : Mem) (i : Int), GI Mx → 0 ≤ i → 1 ≤ Mx 0 (55 + t) → GI (fX9_closesUp_L1 M t p k Mx i) := by
  intro k
  induction k with
  | zero => intro Mx i h _ _; exact h
  | succ k ih =>
    intro Mx i h h0 h1
    have g := GI_55 h (55 + t) (by omega) (by omega)
    rw [fX9_closesUp_L1]
    have nq : ∀ v : Int, i < 6 → mst Mx 0 (64 + 6 * t + i) v 0 (55 + t) = Mx 0 (55 + t) := fun v hi => up_n (by omega)
    split
    · exact GI_up h (by omega)
    · split
      · exact ih _ _ (GI_up h (by omega)) (by omega) (by rw [nq _ (by omega)]; exact h1)
      · have e := GI_64 h (64 + 6 * t + i + 1) (by omega) (by omega)
        exact ih _ _ (GI_up h (by omega)) (by omega) (by rw [nq _ (by omega)]; exact h1)
theorem GI_closesUp {M : Mem} (h : GI M) {t p : Int} (ht : 0 ≤ t ∧ t < 3) (hp : 0 ≤ p) (h1 : 1 ≤ M 0 (55 + t)) : GI (fX9_closesUp M t p) := GI_closesUp_L ht 8 M p h hp h1
theorem GI_opensAt_L {M : Mem} {t p n : Int} (ht : 0 ≤ t ∧ t < 3) (hp : 0 ≤ p ∧ p ≤ 5) (hn : 0 ≤ n ∧ n ≤ 9) : ∀ (k : Nat) (Mx : Mem) (i : Int), GI Mx → i ≤ 5 → Mx 0 (55 + t) ≤ 5 → GI (fX9_opensAt_L1 M t p n k Mx i) := by
  intro k
  induction k with
  | zero => intro Mx i h _ _; exact h
  | succ k ih =>
    intro Mx i h h0 h1
    have g := GI_55 h (55 + t) (by omega) (by omega)
    rw [fX9_opensAt_L1]
    split
    · have e : (mst Mx 0 (64 + 6 * t + p) n) 0 (55 + t) = Mx 0 (55 + t) := up_n (by omega)
      exact GI_up (GI_up h (by omega)) (by omega)
    · have e : ∀ v : Int, (mst Mx 0 (64 + 6 * t + i) v) 0 (55 + t) = Mx 0 (55 + t) := fun v => up_n (by omega)
      have f := GI_64 h (64 + 6 * t + i - 1) (by omega) (by omega)
      exact ih _ _ (GI_up h (by omega)) (by omega) (by rw [e]; exact h1)
theorem GI_opensAt {M : Mem} (h : GI M) {t p n : Int} (ht : 0 ≤ t ∧ t < 3) (hp : 0 ≤ p ∧ p ≤ 5) (hn : 0 ≤ n ∧ n ≤ 9) (h1 : M 0 (55 + t) ≤ 5) : GI (fX9_opensAt M t p n) := GI_opensAt_L ht hp hn 8 M _ h h1 h1
theorem GI_comes {M : Mem} (h : GI M) (a : Int) : GI (fX9_comes M a).2 := by
  have n := GI_0 h
  have d := dX9_in a 0 3
  unfold fX9_comes
  split
  · exact GI_fails h
  split
  · exact GI_refused h
  · refine GI_done (GI_up (GI_up h (by omega)) ?_)
    have e : (mst M 0 (5 + M 0 0) a) 0 0 = M 0 0 := up_n (by omega)
    omega
theorem GI_folds {M : Mem} (h : GI M) (a b : Int) : GI (fX9_folds M a b).2 := by
  have d := dX9_isNapkin h a
  have d2 := dX9_in b 1 4
  unfold fX9_folds
  split
  · exact GI_fails h
  split
  · exact GI_fails h
  split
  · exact GI_refused h
  have g := GI_25 h (25 + a) (by omega) (by omega)
  (repeat' split) <;> first
    | exact GI_refused h
    | exact GI_done (GI_up (GI_up (GI_up (GI_up h (by omega)) (by omega)) (by omega)) (by omega))
theorem GI_unfolds {M : Mem} (h : GI M) (a : Int) : GI (fX9_unfolds M a).2 := by
  have d := dX9_isNapkin h a
  unfold fX9_unfolds
  split
  · exact GI_fails h
  split
  · exact GI_refused h
  · exact GI_done (GI_up h (by omega))
theorem GI_lays {M : Mem} (h : GI M) (a b : Int) : GI (fX9_lays M a b).2 := by
  have d := dX9_isNapkin h a
  have d2 := dX9_isTable b
  unfold fX9_lays
  split
  · exact GI_fails h
  split
  · exact GI_fails h
  split
  · split
    · exact GI_refused h
    · have g := GI_55 h (55 + b) (by omega) (by omega)
      refine GI_done (GI_up (GI_up h (by omega)) ?_)
      have e : (mst M 0 (64 + 6 * b + M 0 (55 + b)) a) 0 (55 + b) = M 0 (55 + b) := up_n (by omega)
      omega
  · exact GI_refused h
theorem GI_takes {M : Mem} (h : GI M) (a : Int) : GI (fX9_takes M a).2 := by
  have d := seat_spec h a
  unfold fX9_takes
  split
  · exact GI_fails h
  split
  · exact GI_refused h
  · exact GI_done (GI_closesUp h (by omega) (by omega) (by omega))
theorem GI_moves {M : Mem} (h : GI M) (a b c : Int) : GI (fX9_moves M a b c).2 := by
  have d := dX9_isTable a
  have d1 := dX9_in b 0 (M 0 (55 + a) - 1)
  have d2 := dX9_in c 0 (M 0 (55 + a) - 1)
  unfold fX9_moves
  split
  · exact GI_fails h
  split
  · exact GI_fails h
  split
  · exact GI_fails h
  split
  · exact GI_refused h
  · have g := GI_55 h (55 + a) (by omega) (by omega)
    have e := many_closesUp (M := M) a b (by omega) (by omega)
    exact GI_done (GI_opensAt (GI_closesUp h (by omega) (by omega) (by omega)) (by omega) (by omega) (rg_X9_at h a b (by omega) (by omega)) (by omega))
theorem GI_stains {M : Mem} (h : GI M) (a b : Int) : GI (fX9_stains M a b).2 := by
  have d := dX9_isNapkin h a
  have d2 := dX9_in b 1 9
  unfold fX9_stains
  split
  · exact GI_fails h
  split
  · exact GI_fails h
  have g := GI_35 h (35 + a) (by omega) (by omega)
  split
  · exact GI_done (GI_up h (by omega))
  · exact GI_refused h
theorem GI_washes {M : Mem} (h : GI M) (a : Int) : GI (fX9_washes M a).2 := by
  have d := dX9_isNapkin h a
  unfold fX9_washes
  split
  · exact GI_fails h
  split
  · split
    · exact GI_refused h
    · exact GI_done (GI_up (GI_up (GI_up h (by omega)) (by omega)) (by omega))
  · exact GI_refused h
theorem GI_hosts {M : Mem} (h : GI M) (a : Int) : GI (fX9_hosts M a).2 := by
  have d := dX9_isTable a
  unfold fX9_hosts
  split
  · exact GI_fails h
  split
  · exact GI_refused h
  (repeat' split) <;> exact GI_done (GI_up (GI_up (GI_up (GI_up h (by omega)) (by omega)) (by omega)) (by omega))
