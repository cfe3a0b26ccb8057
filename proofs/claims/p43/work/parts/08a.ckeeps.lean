/-! WHAT THE CLASS'S CHANGES KEEP: CI. -/
theorem CI_up {M : Mem} (h : CI M) {z v : Int} (c : (0 ≤ z → z < 10 → 0 ≤ v ∧ v ≤ 3) ∧ (10 ≤ z → z < 20 → 0 ≤ v ∧ v ≤ 4) ∧ (20 ≤ z → z < 30 → 0 ≤ v ∧ v ≤ 12) ∧ (30 ≤ z → z < 40 → 0 ≤ v ∧ v ≤ 9) ∧ (50 ≤ z → z < 68 → 0 ≤ v ∧ v ≤ 9) ∧ (68 ≤ z → z < 71 → 0 ≤ v ∧ v ≤ 6) ∧ (z = 77 → 0 ≤ v ∧ v ≤ 10)) : CI (mst M 0 z v) := by
  have key : ∀ (lo hi j : Int), (lo ≤ M 0 j ∧ M 0 j ≤ hi) → (j = z → lo ≤ v ∧ v ≤ hi) → lo ≤ up (M 0) z v j ∧ up (M 0) z v j ≤ hi := by
    intro lo hi j h1 h2
    unfold up
    split
    · exact h2 (by assumption)
    · exact h1
  exact ⟨fun j a b => key 0 3 j (h.1 j a b) (by omega), fun j a b => key 0 4 j (h.2.1 j a b) (by omega), fun j a b => key 0 12 j (h.2.2.1 j a b) (by omega), fun j a b => key 0 9 j (h.2.2.2.1 j a b) (by omega), fun j a b => key 0 9 j (h.2.2.2.2.1 j a b) (by omega), fun j a b => key 0 6 j (h.2.2.2.2.2.1 j a b) (by omega), key 0 10 77 h.2.2.2.2.2.2 (by omega)⟩
theorem CI_setN {M : Mem} (h : CI M) {f n v : Int} (c : 0 ≤ n → n < 10 → CI (mst M 0 (f + n) v)) : CI (fX6_setOfNapkin M f n v) := by
  unfold fX6_setOfNapkin
  split
  · exact h
  split
  · exact h
  · exact c (by omega) (by omega)
theorem CI_setT {M : Mem} (h : CI M) {f t v : Int} (c : 0 ≤ t → t < 3 → CI (mst M 0 (f + t) v)) : CI (fX6_setOfTable M f t v) := by
  unfold fX6_setOfTable
  split
  · exact h
  split
  · exact h
  · exact c (by omega) (by omega)
theorem st_in (t p : Int) : fX6_isSeat t p = 0 ∨ (0 ≤ t ∧ t < 3 ∧ 0 ≤ p ∧ p < 6 ∧ fX6_isSeat t p = 1) := by
  unfold fX6_isSeat
  (repeat' split) <;> omega
theorem st_1 {t p : Int} (ht : 0 ≤ t ∧ t < 3) (hp : 0 ≤ p ∧ p < 6) : fX6_isSeat t p = 1 := by
  unfold fX6_isSeat
  (repeat' split) <;> omega
theorem seated_e {M : Mem} {t p : Int} (ht : 0 ≤ t ∧ t < 3) (hp : 0 ≤ p ∧ p < 6) : fX6_seatedAt M t p = M 0 (50 + t * 6 + p) := by
  unfold fX6_seatedAt
  rw [st_1 ht hp]
  rfl
theorem setSeat_e {M : Mem} {t p v : Int} (ht : 0 ≤ t ∧ t < 3) (hp : 0 ≤ p ∧ p < 6) : fX6_setSeat M t p v = mst M 0 (50 + t * 6 + p) v := by
  unfold fX6_setSeat
  rw [st_1 ht hp]
  rfl
theorem laid_e {M : Mem} {t : Int} (ht : 0 ≤ t ∧ t < 3) : fX6_laidOn M t = M 0 (68 + t) := by
  unfold fX6_laidOn fX6_ofTable
  rw [if_neg (by omega), if_neg (by omega)]
theorem CI_setS {M : Mem} (h : CI M) {t p v : Int} (c : 0 ≤ t → t < 3 → 0 ≤ p → p < 6 → 0 ≤ v ∧ v ≤ 9) : CI (fX6_setSeat M t p v) := by
  rcases st_in t p with e | ⟨a, b, d, f, e⟩
  · unfold fX6_setSeat
    rw [if_pos e]
    exact h
  · rw [setSeat_e ⟨a, b⟩ ⟨d, f⟩]
    have := c a b d f
    exact CI_up h (by omega)
theorem CI_insert_L {M : Mem} {t p n : Int} (hp : 0 ≤ p) (hn : 0 ≤ n ∧ n ≤ 9) (hl : 0 ≤ t → t < 3 → 0 ≤ fX6_laidOn M t ∧ fX6_laidOn M t ≤ 5) : ∀ (k : Nat) (Mx : Mem) (i : Int), CI Mx → i ≤ 6 → CI (fX6_insert_L1 M t p n k Mx i) := by
  intro k
  induction k with
  | zero => intro Mx i h _; exact h
  | succ k ih =>
    intro Mx i h h0
    rw [fX6_insert_L1]
    split
    · have g := CI_setS h (t := t) (p := p) (v := n) (fun _ _ _ _ => hn)
      exact CI_setT g (fun a b => CI_up g (by have := hl a b; omega))
    · refine ih _ _ (CI_setS h (fun a b c d => ?_)) (by omega)
      rw [seated_e ⟨a, b⟩ (by omega)]
      exact CI_seat h _ (by omega) (by omega)
theorem CI_insert {M : Mem} (h : CI M) {t p n : Int} (hp : 0 ≤ p) (hn : 0 ≤ n ∧ n ≤ 9) (hl : 0 ≤ t → t < 3 → 0 ≤ fX6_laidOn M t ∧ fX6_laidOn M t ≤ 5) : CI (fX6_insert M t p n) := CI_insert_L hp hn hl 7 M _ h (rg_X6_laidOn h t).2
theorem CI_removeAt_L {M : Mem} {t p : Int} (hl : 0 ≤ t → t < 3 → 1 ≤ fX6_laidOn M t ∧ fX6_laidOn M t ≤ 6) : ∀ (k : Nat) (Mx : Mem) (i : Int), CI Mx → 0 ≤ i → CI (fX6_removeAt_L1 M t p k Mx i) := by
  intro k
  induction k with
  | zero => intro Mx i h _; exact h
  | succ k ih =>
    intro Mx i h h0
    rw [fX6_removeAt_L1]
    split
    · exact CI_setT h (fun a b => CI_up h (by have := hl a b; omega))
    · refine ih _ _ (CI_setS h (fun a b c d => ?_)) (by omega)
      have := hl a b
      rw [seated_e ⟨a, b⟩ (by omega)]
      exact CI_seat h _ (by omega) (by omega)
theorem CI_removeAt {M : Mem} (h : CI M) {t p : Int} (hp : -1 ≤ p) (hl : 0 ≤ t → t < 3 → 1 ≤ fX6_laidOn M t) : CI (fX6_removeAt M t p) := CI_removeAt_L (fun a b => ⟨hl a b, (rg_X6_laidOn h t).2⟩) 8 M _ h (by omega)
theorem cseat_L {M : Mem} (n : Int) : ∀ (k : Nat) (s : Int), 0 ≤ s → s ≤ 18 → 18 - s < k → fX6_seatUnder_L1 M n k s = -1 ∨ (s ≤ fX6_seatUnder_L1 M n k s ∧ fX6_seatUnder_L1 M n k s < 18 ∧ fX6_seatUnder_L1 M n k s % 6 < M 0 (68 + fX6_seatUnder_L1 M n k s / 6) ∧ M 0 (50 + fX6_seatUnder_L1 M n k s) = n) := by
  intro k
  induction k with
  | zero => intro s _ _ h; omega
  | succ k ih =>
    intro s h0 h9 h1
    rw [fX6_seatUnder_L1]
    split
    · exact Or.inl rfl
    split
    · rcases ih (s + 1) (by omega) (by omega) (by omega) with e | ⟨a, b⟩
      · exact Or.inl e
      · exact Or.inr ⟨by omega, b⟩
    split
    · exact Or.inr ⟨by omega, by omega, by omega, by assumption⟩
    · rcases ih (s + 1) (by omega) (by omega) (by omega) with e | ⟨a, b⟩
      · exact Or.inl e
      · exact Or.inr ⟨by omega, b⟩
theorem cseat {M : Mem} (n : Int) : fX6_seatUnder M n = -1 ∨ (0 ≤ fX6_seatUnder M n ∧ fX6_seatUnder M n < 18 ∧ fX6_seatUnder M n % 6 < M 0 (68 + fX6_seatUnder M n / 6) ∧ M 0 (50 + fX6_seatUnder M n) = n) := cseat_L n 19 0 (by decide) (by decide) (by decide)
theorem cunder {M : Mem} (n : Int) : (fX6_seatUnder M n = -1 ∧ fX6_tableUnder M n = -1 ∧ fX6_placeUnder M n = -1) ∨ (0 ≤ fX6_tableUnder M n ∧ fX6_tableUnder M n < 3 ∧ 0 ≤ fX6_placeUnder M n ∧ fX6_placeUnder M n < 6 ∧ fX6_placeUnder M n < M 0 (68 + fX6_tableUnder M n) ∧ M 0 (50 + fX6_tableUnder M n * 6 + fX6_placeUnder M n) = n ∧ fX6_seatUnder M n = 6 * fX6_tableUnder M n + fX6_placeUnder M n) := by
  unfold fX6_tableUnder fX6_placeUnder
  rcases cseat (M := M) n with e | ⟨a, b, c, d⟩
  · left
    rw [if_pos e, if_pos e]
    exact ⟨e, rfl, rfl⟩
  · right
    rw [if_neg (by omega), if_neg (by omega)]
    refine ⟨by omega, by omega, by omega, by omega, c, ?_, by omega⟩
    rw [show 50 + fX6_seatUnder M n / 6 * 6 + fX6_seatUnder M n % 6 = 50 + fX6_seatUnder M n by omega]
    exact d
theorem CI_addNapkin {M : Mem} (h : CI M) {c : Int} (hc : 0 ≤ c ∧ c ≤ 3) : CI (fX6_addNapkin M c).2 := by
  have n := CI_77 h
  unfold fX6_addNapkin fX6_napkins
  split
  · exact h
  · have g : CI (mst M 0 77 (M 0 77 + 1)) := CI_up h (by omega)
    exact CI_setN g (fun a b => CI_up g (by omega))
theorem CI_foldTo {M : Mem} (h : CI M) {n f c : Int} (hf : 0 ≤ f ∧ f ≤ 4) (hc : 0 ≤ fX6_creasesOf M n + c ∧ fX6_creasesOf M n + c ≤ 12) : CI (fX6_foldTo M n f c).2 := by
  unfold fX6_foldTo
  have g := CI_setN h (f := 10) (n := n) (v := f) (fun a b => CI_up h (by omega))
  have g2 := CI_setN g (f := 20) (n := n) (v := fX6_creasesOf M n + c) (fun a b => CI_up g (by omega))
  exact CI_setN g2 (fun a b => CI_up g2 (by omega))
theorem CI_open {M : Mem} (h : CI M) (n : Int) : CI (fX6_open M n).2 := by
  unfold fX6_open
  exact CI_setN h (fun a b => CI_up h (by omega))
theorem CI_addStains {M : Mem} (h : CI M) {n c : Int} (hc : 0 ≤ fX6_stainsOf M n + c ∧ fX6_stainsOf M n + c ≤ 9) : CI (fX6_addStains M n c).2 := by
  unfold fX6_addStains
  exact CI_setN h (fun a b => CI_up h (by omega))
theorem CI_clean {M : Mem} (h : CI M) (n : Int) : CI (fX6_clean M n).2 := by
  unfold fX6_clean
  have g := CI_setN h (f := 30) (n := n) (v := 0) (fun a b => CI_up h (by omega))
  have g2 := CI_setN g (f := 10) (n := n) (v := 0) (fun a b => CI_up g (by omega))
  exact CI_up g2 (by omega)
theorem CI_addLast {M : Mem} (h : CI M) {n t : Int} (hn : 0 ≤ n ∧ n ≤ 9) (hl : fX6_laidOn M t ≤ 5) : CI (fX6_addLast M n t).2 := by
  unfold fX6_addLast
  exact CI_insert h (rg_X6_laidOn h t).1 hn (fun _ _ => ⟨(rg_X6_laidOn h t).1, hl⟩)
theorem CI_remove {M : Mem} (h : CI M) (n : Int) : CI (fX6_remove M n).2 := by
  unfold fX6_remove
  rcases cunder (M := M) n with ⟨a, b, c⟩ | ⟨a, b, c, d, e, f, g⟩
  · rw [b, c]
    exact CI_removeAt h (t := -1) (p := -1) (by decide) (fun a _ => by omega)
  · exact CI_removeAt h (by omega) (fun _ _ => by rw [laid_e ⟨a, b⟩]; omega)
theorem claid_removeAt_L {M : Mem} {t p : Int} (ht : 0 ≤ t ∧ t < 3) : ∀ (k : Nat) (Mx : Mem) (i : Int), fX6_laidOn M t - i < k → (0 : Int) < k → fX6_laidOn (fX6_removeAt_L1 M t p k Mx i) t = fX6_laidOn M t - 1 := by
  intro k
  induction k with
  | zero => intro Mx i _ h; exact absurd h (by decide)
  | succ k ih =>
    intro Mx i h _
    rw [fX6_removeAt_L1]
    split
    · rw [laid_set, if_neg (by omega), if_neg (by omega)]
    · exact ih _ _ (by omega) (by omega)
theorem claid_removeAt {M : Mem} (h : CI M) {t p : Int} (ht : 0 ≤ t ∧ t < 3) (hp : -1 ≤ p) : fX6_laidOn (fX6_removeAt M t p) t = fX6_laidOn M t - 1 := by
  have := (rg_X6_laidOn h t).2
  exact claid_removeAt_L ht 8 M _ (by omega) (by decide)
theorem CI_shift {M : Mem} (h : CI M) {t f g : Int} (ht : 0 ≤ t ∧ t < 3) (hf : 0 ≤ f ∧ f < fX6_laidOn M t) (hg : 0 ≤ g) : CI (fX6_shift M t f g).2 := by
  unfold fX6_shift
  have l := (rg_X6_laidOn h t).2
  refine CI_insert (CI_removeAt h (by omega) (fun _ _ => by omega)) hg ?_ (fun _ _ => ?_)
  · rw [seated_e ht (by omega)]
    exact CI_seat h _ (by omega) (by omega)
  · rw [claid_removeAt h ht (by omega)]
    omega
theorem CI_noteReading {M : Mem} (h : CI M) (t p : Int) : CI (fX6_noteReading M t p) := by
  unfold fX6_noteReading
  have g := CI_setT h (f := 71) (t := t) (v := fX6_readingsOf M t + 1) (fun a b => CI_up h (by omega))
  split
  · have g2 := CI_setT g (f := 74) (t := t) (v := fX6_puzzlesOf (fX6_setOfTable M 71 t (fX6_readingsOf M t + 1)) t + 1) (fun a b => CI_up g (by omega))
    exact CI_up g2 (by omega)
  · exact CI_up g (by omega)
theorem CI_readByHost {M : Mem} (h : CI M) (t : Int) : CI (fX5_readByHost M t).2 := by
  unfold fX5_readByHost
  exact CI_noteReading (CI_hear h t) _ _
theorem of0_napkin {M N : Mem} (h : N 0 = M 0) (f n : Int) : fX6_ofNapkin N f n = fX6_ofNapkin M f n := by unfold fX6_ofNapkin; rw [h]
set_option maxHeartbeats 2000000 in
/-- what is judged fine keeps the cells in their ranges -/
theorem CI_carryOut {M N : Mem} (hC : CI M) (h0 : N 0 = M 0) {co a b d : Int} (hj : (fX5_judge M co a b d).1 = 0) : CI (fX5_carryOut N co a b d).2 := by
  have hN : CI N := CI_of0 h0 hC
  have e1 : ∀ n, fX6_creasesOf N n = fX6_creasesOf M n := fun n => of0_napkin h0 20 n
  have e2 : ∀ n, fX6_stainsOf N n = fX6_stainsOf M n := fun n => of0_napkin h0 30 n
  have e3 : ∀ t, fX6_laidOn N t = fX6_laidOn M t := fun t => laid_of0 h0 t
  unfold fX5_judge at hj
  unfold fX5_carryOut
  by_cases c1 : swm co = 1
  · rw [if_pos c1] at hj ⊢
    unfold fX5_judgeNew at hj
    refine CI_addNapkin hN ?_
    (repeat' split at hj) <;> first | omega | exact absurd hj (by decide)
  rw [if_neg c1] at hj ⊢
  by_cases c2 : swm co = 2
  · rw [if_pos c2] at hj ⊢
    unfold fX5_judgeFold fX8_refusedFor at hj
    have r := rg_X6_creasesOf hC a
    have q := rg_X5_creasesFor b
    refine CI_foldTo hN ?_ ?_
    · (repeat' split at hj) <;> omega
    · rw [e1]
      (repeat' split at hj) <;> omega
  rw [if_neg c2] at hj ⊢
  by_cases c3 : swm co = 3
  · rw [if_pos c3] at hj ⊢
    exact CI_open hN a
  rw [if_neg c3] at hj ⊢
  by_cases c4 : swm co = 4
  · rw [if_pos c4] at hj ⊢
    unfold fX5_judgeLay fX8_refusedFor at hj
    have r := dX6_hasNapkin hC a
    refine CI_addLast hN ?_ ?_
    · (repeat' split at hj) <;> omega
    · rw [e3]
      have := rg_X6_tableUnder M a
      (repeat' split at hj) <;> omega
  rw [if_neg c4] at hj ⊢
  by_cases c5 : swm co = 5
  · rw [if_pos c5] at hj ⊢
    exact CI_remove hN a
  rw [if_neg c5] at hj ⊢
  by_cases c6 : swm co = 6
  · rw [if_pos c6] at hj ⊢
    unfold fX5_judgeMove fX8_refusedFor at hj
    have r := dX6_hasPlace hC a b
    have r2 := dX6_hasPlace hC a d
    have r3 : fX8_isTable a = 0 ∨ (0 ≤ a ∧ a < 3) := by unfold fX8_isTable; (repeat' split) <;> omega
    have hb2 : ¬ fX8_isTable a = 0 ∧ ¬ fX6_hasPlace M a b = 0 ∧ ¬ fX6_hasPlace M a d = 0 := by
      (repeat' split at hj) <;> first | omega | exact ⟨by assumption, by assumption, by assumption⟩
    exact CI_shift hN (by omega) (by rw [e3]; omega) (by omega)
  rw [if_neg c6] at hj ⊢
  by_cases c7 : swm co = 7
  · rw [if_pos c7] at hj ⊢
    unfold fX5_judgeStain fX8_refusedFor at hj
    have r := rg_X6_stainsOf hC a
    refine CI_addStains hN ?_
    rw [e2]
    (repeat' split at hj) <;> omega
  rw [if_neg c7] at hj ⊢
  by_cases c8 : swm co = 8
  · rw [if_pos c8] at hj ⊢
    exact CI_clean hN a
  rw [if_neg c8] at hj ⊢
  exact CI_readByHost hN a
theorem judge_0 (M : Mem) (co a b d : Int) : (fX5_judge M co a b d).2 0 = M 0 := fr_fX5_judge co a b d rfl rfl rfl rfl rfl
