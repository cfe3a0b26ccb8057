/-! ROWS of the two states, changed alike. -/
def RW (c g : Int → Int) : Prop := CI (fun _ => c) ∧ GI (fun _ => g) ∧ SR c g
theorem sum_up {g : Int → Int} {n v : Int} (hn : 0 ≤ n ∧ n < 10) : up g (45 + n) v 45 + up g (45 + n) v 46 + up g (45 + n) v 47 + up g (45 + n) v 48 + up g (45 + n) v 49 + up g (45 + n) v 50 + up g (45 + n) v 51 + up g (45 + n) v 52 + up g (45 + n) v 53 + up g (45 + n) v 54 = (g 45 + g 46 + g 47 + g 48 + g 49 + g 50 + g 51 + g 52 + g 53 + g 54) - g (45 + n) + v := by
  have c : n = 0 ∨ n = 1 ∨ n = 2 ∨ n = 3 ∨ n = 4 ∨ n = 5 ∨ n = 6 ∨ n = 7 ∨ n = 8 ∨ n = 9 := by omega
  rcases c with rfl | rfl | rfl | rfl | rfl | rfl | rfl | rfl | rfl | rfl <;> simp [up] <;> omega
theorem sum_3 {g : Int → Int} {t v : Int} (ht : 0 ≤ t ∧ t < 3) : up g (61 + t) v 61 + up g (61 + t) v 62 + up g (61 + t) v 63 = (g 61 + g 62 + g 63) - g (61 + t) + v := by
  have c : t = 0 ∨ t = 1 ∨ t = 2 := by omega
  rcases c with rfl | rfl | rfl <;> simp [up] <;> omega
/-- napkin n is on no table -/
def NoSeat (g : Int → Int) (n : Int) : Prop := ∀ t p : Int, 0 ≤ t → t < 3 → 0 ≤ p → p < g (55 + t) → ¬ g (64 + 6 * t + p) = n
theorem cseat_N {M : Mem} (n : Int) : ∀ (k : Nat) (s : Int), 0 ≤ s → 18 - s < k → fX6_seatUnder_L1 M n k s = -1 → ∀ z : Int, s ≤ z → z < 18 → z % 6 < M 0 (68 + z / 6) → ¬ M 0 (50 + z) = n := by
  intro k
  induction k with
  | zero => intro s h0 h1 h2 z a b; exfalso; omega
  | succ k ih =>
    intro s h0 h1 h2 z a b c
    rw [fX6_seatUnder_L1, if_neg (by omega)] at h2
    by_cases hz : z = s
    · subst hz
      rw [if_neg (by omega)] at h2
      split at h2
      · omega
      · assumption
    · split at h2
      · exact ih (s + 1) (by omega) (by omega) h2 z (by omega) b c
      · split at h2
        · omega
        · exact ih (s + 1) (by omega) (by omega) h2 z (by omega) b c
theorem gseat_N2 {G : Mem} (n t : Int) (ht : 0 ≤ t) (K : Int → Int) : ∀ (k : Nat) (p : Int), 0 ≤ p → G 0 (55 + t) - p < k → 0 < (k : Int) → fX9_seatOf_L2 G n t K k p = -1 → K (t + 1) = -1 ∧ ∀ q : Int, p ≤ q → q < G 0 (55 + t) → ¬ fX9_at G t q = n := by
  intro k
  induction k with
  | zero => intro p _ _ h; exact absurd h (by decide)
  | succ k ih =>
    intro p h0 h1 _ h2
    rw [fX9_seatOf_L2] at h2
    split at h2
    · exact ⟨h2, fun q a b => by omega⟩
    · split at h2
      · omega
      · obtain ⟨a, b⟩ := ih (p + 1) (by omega) (by omega) (by omega) h2
        refine ⟨a, fun q x y => ?_⟩
        by_cases hq : q = p
        · rw [hq]; assumption
        · exact b q (by omega) y
theorem gseat_N1 {G : Mem} (hG : GI G) (n : Int) : ∀ (k : Nat) (t : Int), 0 ≤ t → t ≤ 3 → 3 - t < k → fX9_seatOf_L1 G n k t = -1 → ∀ u q : Int, t ≤ u → u < 3 → 0 ≤ q → q < G 0 (55 + u) → ¬ fX9_at G u q = n := by
  intro k
  induction k with
  | zero => intro t h0 h1 h2; omega
  | succ k ih =>
    intro t h0 h1 h2 h3 u q a b c d
    rw [fX9_seatOf_L1, if_neg (by omega)] at h3
    have g := GI_55 hG (55 + t) (by omega) (by omega)
    obtain ⟨x, y⟩ := gseat_N2 n t h0 _ 7 0 (by decide) (by omega) (by decide) h3
    by_cases hu : u = t
    · subst hu
      exact y q c d
    · exact ih (t + 1) (by omega) (by omega) (by omega) x u q (by omega) b c d
theorem gseat_N {G : Mem} (hG : GI G) (n : Int) (h : fX9_seatOf G n = -1) : NoSeat (G 0) n := fun t p a b c d => gseat_N1 hG n 4 0 (by decide) (by decide) (by decide) h t p a b c d
/-- where it lies, told alike -/
theorem seat_e {C G : Mem} (hC : CI C) (hG : GI G) (hS : SR (C 0) (G 0)) (n : Int) : (fX9_seatOf G n = -1 ∧ fX6_tableUnder C n = -1 ∧ fX6_placeUnder C n = -1 ∧ NoSeat (G 0) n) ∨ (0 ≤ fX6_tableUnder C n ∧ fX6_tableUnder C n < 3 ∧ 0 ≤ fX6_placeUnder C n ∧ fX6_placeUnder C n < G 0 (55 + fX6_tableUnder C n) ∧ fX9_seatOf G n = 10 * fX6_tableUnder C n + fX6_placeUnder C n ∧ fX6_placeUnder C n < 6 ∧ G 0 (64 + 6 * fX6_tableUnder C n + fX6_placeUnder C n) = n) := by
  rcases cunder (M := C) n with ⟨a, b, c⟩ | ⟨a, b, c, d, e, f, g⟩
  · left
    have hN : fX9_seatOf G n = -1 := by
      rcases seat_spec hG n with s | ⟨s1, s2, s3, s4, s5⟩
      · exact s
      · exfalso
        have w := GI_55 hG (55 + fX9_seatOf G n / 10) (by omega) (by omega)
        have q := SR_s hS _ _ s1 s2 s3 s4
        have l := (SR_t hS _ s1 s2).1
        have s5' : G 0 (64 + 6 * (fX9_seatOf G n / 10) + fX9_seatOf G n % 10) = n := s5
        refine cseat_N n 19 0 (by decide) (by decide) a (6 * (fX9_seatOf G n / 10) + fX9_seatOf G n % 10) (by omega) (by omega) ?_ ?_
        · rw [show (6 * (fX9_seatOf G n / 10) + fX9_seatOf G n % 10) % 6 = fX9_seatOf G n % 10 by omega, show (6 * (fX9_seatOf G n / 10) + fX9_seatOf G n % 10) / 6 = fX9_seatOf G n / 10 by omega, l]
          exact s4
        · rw [show 50 + (6 * (fX9_seatOf G n / 10) + fX9_seatOf G n % 10) = 50 + fX9_seatOf G n / 10 * 6 + fX9_seatOf G n % 10 by omega, q.1]
          exact s5'
    exact ⟨hN, b, c, gseat_N hG n hN⟩
  · right
    have l := (SR_t hS _ a b).1
    rw [l] at e
    have q := SR_s hS _ _ a b c e
    have en : G 0 (64 + 6 * fX6_tableUnder C n + fX6_placeUnder C n) = n := by rw [← q.1]; exact f
    refine ⟨a, b, c, e, ?_, d, en⟩
    rcases seat_spec hG n with s | ⟨s1, s2, s3, s4, s5⟩
    · exact absurd en (gseat_N hG n s _ _ a b c e)
    · have s5' : G 0 (64 + 6 * (fX9_seatOf G n / 10) + fX9_seatOf G n % 10) = n := s5
      have u := SR_u hS _ _ _ _ a b c e s1 s2 s3 s4 (en.trans s5'.symm)
      omega
/-! taking a napkin off a table, and laying one on -/
theorem rem_L {M : Mem} {t p l : Int} (ht : 0 ≤ t ∧ t < 3) (hl : fX6_laidOn M t = l) (hl6 : l ≤ 6) : ∀ (k : Nat) (Mx : Mem) (i : Int), 1 ≤ i → i ≤ l → l - i < k → ∀ z : Int, fX6_removeAt_L1 M t p k Mx i 0 z = if 50 + t * 6 + (i - 1) ≤ z ∧ z < 50 + t * 6 + (l - 1) then Mx 0 (z + 1) else if z = 68 + t then l - 1 else Mx 0 z := by
  intro k
  induction k with
  | zero => intro Mx i _ _ _; omega
  | succ k ih =>
    intro Mx i h0 h1 h2 z
    rw [fX6_removeAt_L1, hl]
    by_cases hc : l ≤ i
    · rw [if_pos hc, if_neg (by omega)]
      unfold fX6_setOfTable
      rw [if_neg (by omega), if_neg (by omega)]
      rfl
    · rw [if_neg hc, ih _ _ (by omega) (by omega) (by omega), seated_e ht (by omega), setSeat_e ht (by omega)]
      show (if 50 + t * 6 + (i + 1 - 1) ≤ z ∧ z < 50 + t * 6 + (l - 1) then up (Mx 0) (50 + t * 6 + (i - 1)) (Mx 0 (50 + t * 6 + i)) (z + 1) else if z = 68 + t then l - 1 else up (Mx 0) (50 + t * 6 + (i - 1)) (Mx 0 (50 + t * 6 + i)) z) = _
      by_cases ha : 50 + t * 6 + (i + 1 - 1) ≤ z ∧ z < 50 + t * 6 + (l - 1)
      · rw [if_pos ha, if_pos (by omega), up_n (by omega)]
      · rw [if_neg ha]
        by_cases hb : z = 50 + t * 6 + (i - 1)
        · rw [if_neg (by omega), if_pos (by omega), hb, up_e]
          congr 1
          omega
        · rw [if_neg (by omega : ¬ (50 + t * 6 + (i - 1) ≤ z ∧ z < 50 + t * 6 + (l - 1))), up_n hb]
theorem rem_e {M : Mem} {t p l : Int} (ht : 0 ≤ t ∧ t < 3) (hl : fX6_laidOn M t = l) (hl6 : l ≤ 6) (hp : 0 ≤ p ∧ p < l) (z : Int) : fX6_removeAt M t p 0 z = if 50 + t * 6 + p ≤ z ∧ z < 50 + t * 6 + (l - 1) then M 0 (z + 1) else if z = 68 + t then l - 1 else M 0 z := by
  have q := rem_L (p := p) ht hl hl6 8 M (p + 1) (by omega) (by omega) (by omega) z
  rw [show p + 1 - 1 = p by omega] at q
  exact q
theorem ins_L {M : Mem} {t p n l : Int} (ht : 0 ≤ t ∧ t < 3) (hl : fX6_laidOn M t = l) (hp : 0 ≤ p) (hpl : p ≤ l) (hl5 : l ≤ 5) : ∀ (k : Nat) (Mx : Mem) (i : Int), p ≤ i → i ≤ l → i - p < k → ∀ z : Int, fX6_insert_L1 M t p n k Mx i 0 z = if z = 50 + t * 6 + p then n else if 50 + t * 6 + p < z ∧ z ≤ 50 + t * 6 + i then Mx 0 (z - 1) else if z = 68 + t then l + 1 else Mx 0 z := by
  intro k
  induction k with
  | zero => intro Mx i _ _ _; omega
  | succ k ih =>
    intro Mx i h0 h1 h2 z
    rw [fX6_insert_L1]
    by_cases hc : i ≤ p
    · rw [if_pos hc, hl, setSeat_e ht (by omega)]
      unfold fX6_setOfTable
      rw [if_neg (by omega), if_neg (by omega)]
      show up (up (Mx 0) (50 + t * 6 + p) n) (68 + t) (l + 1) z = _
      by_cases ha : z = 50 + t * 6 + p
      · rw [if_pos ha, up_n (by omega), ha, up_e]
      · rw [if_neg ha, if_neg (by omega)]
        by_cases hb : z = 68 + t
        · rw [if_pos hb, hb, up_e]
        · rw [if_neg hb, up_n hb, up_n ha]
    · rw [if_neg hc, show i + -1 = i - 1 by omega, ih _ _ (by omega) (by omega) (by omega), seated_e ht (by omega), setSeat_e ht (by omega)]
      show (if z = 50 + t * 6 + p then n else if 50 + t * 6 + p < z ∧ z ≤ 50 + t * 6 + (i - 1) then up (Mx 0) (50 + t * 6 + i) (Mx 0 (50 + t * 6 + (i - 1))) (z - 1) else if z = 68 + t then l + 1 else up (Mx 0) (50 + t * 6 + i) (Mx 0 (50 + t * 6 + (i - 1))) z) = _
      by_cases ha : z = 50 + t * 6 + p
      · rw [if_pos ha, if_pos ha]
      · rw [if_neg ha, if_neg ha]
        by_cases hb : 50 + t * 6 + p < z ∧ z ≤ 50 + t * 6 + (i - 1)
        · rw [if_pos hb, if_pos (by omega), up_n (by omega)]
        · rw [if_neg hb]
          by_cases hd : z = 50 + t * 6 + i
          · rw [if_neg (by omega), if_pos (by omega), hd, up_e]
            congr 1
            omega
          · rw [if_neg (by omega : ¬ (50 + t * 6 + p < z ∧ z ≤ 50 + t * 6 + i)), up_n hd]
theorem ins_e {M : Mem} {t p n l : Int} (ht : 0 ≤ t ∧ t < 3) (hl : fX6_laidOn M t = l) (hp : 0 ≤ p) (hpl : p ≤ l) (hl5 : l ≤ 5) (z : Int) : fX6_insert M t p n 0 z = if z = 50 + t * 6 + p then n else if 50 + t * 6 + p < z ∧ z ≤ 50 + t * 6 + l then M 0 (z - 1) else if z = 68 + t then l + 1 else M 0 z := by
  unfold fX6_insert
  rw [hl]
  exact ins_L ht hl hp hpl hl5 7 M l hpl (Int.le_refl _) (by omega) z
theorem clo_L {M : Mem} {t p : Int} (ht : 0 ≤ t ∧ t < 3) : ∀ (k : Nat) (Mx : Mem) (i : Int), 0 ≤ i → i ≤ 6 → 6 - i < k → ∀ z : Int, fX9_closesUp_L1 M t p k Mx i 0 z = if 64 + 6 * t + i ≤ z ∧ z < 64 + 6 * t + 5 then Mx 0 (z + 1) else if z = 64 + 6 * t + 5 ∧ i ≤ 5 then 0 else if z = 55 + t then Mx 0 (55 + t) - 1 else Mx 0 z := by
  intro k
  induction k with
  | zero => intro Mx i _ _ _; omega
  | succ k ih =>
    intro Mx i h0 h1 h2 z
    rw [fX9_closesUp_L1]
    by_cases hc : 6 ≤ i
    · rw [if_pos hc, if_neg (by omega), if_neg (by omega)]
      rfl
    · rw [if_neg hc]
      by_cases h5 : 5 ≤ i
      · have e5 : i = 5 := by omega
        subst e5
        rw [if_pos h5, ih _ _ (by omega) (by omega) (by omega)]
        show (if 64 + 6 * t + (5 + 1) ≤ z ∧ z < 64 + 6 * t + 5 then up (Mx 0) (64 + 6 * t + 5) 0 (z + 1) else if z = 64 + 6 * t + 5 ∧ (5 : Int) + 1 ≤ 5 then 0 else if z = 55 + t then up (Mx 0) (64 + 6 * t + 5) 0 (55 + t) - 1 else up (Mx 0) (64 + 6 * t + 5) 0 z) = _
        rw [if_neg (by omega), if_neg (by omega), if_neg (by omega : ¬ (64 + 6 * t + 5 ≤ z ∧ z < 64 + 6 * t + 5)), up_n (show ¬ 55 + t = 64 + 6 * t + 5 by omega)]
        by_cases hb : z = 64 + 6 * t + 5
        · rw [if_neg (by omega), if_pos ⟨hb, by decide⟩, hb, up_e]
        · rw [if_neg (show ¬ (z = 64 + 6 * t + 5 ∧ (5 : Int) ≤ 5) from fun q => hb q.1), up_n hb]
      · rw [if_neg h5, ih _ _ (by omega) (by omega) (by omega)]
        show (if 64 + 6 * t + (i + 1) ≤ z ∧ z < 64 + 6 * t + 5 then up (Mx 0) (64 + 6 * t + i) (Mx 0 (64 + 6 * t + i + 1)) (z + 1) else if z = 64 + 6 * t + 5 ∧ i + 1 ≤ 5 then 0 else if z = 55 + t then up (Mx 0) (64 + 6 * t + i) (Mx 0 (64 + 6 * t + i + 1)) (55 + t) - 1 else up (Mx 0) (64 + 6 * t + i) (Mx 0 (64 + 6 * t + i + 1)) z) = _
        rw [up_n (show ¬ 55 + t = 64 + 6 * t + i by omega)]
        by_cases ha : 64 + 6 * t + (i + 1) ≤ z ∧ z < 64 + 6 * t + 5
        · rw [if_pos ha, if_pos (by omega), up_n (by omega)]
        · rw [if_neg ha]
          by_cases hb : z = 64 + 6 * t + i
          · rw [if_neg (by omega), if_neg (by omega), if_pos (by omega), hb, up_e]
          · rw [if_neg (by omega : ¬ (64 + 6 * t + i ≤ z ∧ z < 64 + 6 * t + 5)), up_n hb]
            by_cases hd : z = 64 + 6 * t + 5
            · rw [if_pos (by omega), if_pos (by omega)]
            · rw [if_neg (show ¬ (z = 64 + 6 * t + 5 ∧ i + 1 ≤ 5) from fun q => hd q.1), if_neg (show ¬ (z = 64 + 6 * t + 5 ∧ i ≤ 5) from fun q => hd q.1)]
theorem clo_e {M : Mem} {t p : Int} (ht : 0 ≤ t ∧ t < 3) (hp : 0 ≤ p ∧ p ≤ 5) (z : Int) : fX9_closesUp M t p 0 z = if 64 + 6 * t + p ≤ z ∧ z < 64 + 6 * t + 5 then M 0 (z + 1) else if z = 64 + 6 * t + 5 ∧ p ≤ 5 then 0 else if z = 55 + t then M 0 (55 + t) - 1 else M 0 z := clo_L ht 8 M p hp.1 (by omega) (by omega) z
theorem opn_L {M : Mem} {t p n : Int} (ht : 0 ≤ t ∧ t < 3) (hp : 0 ≤ p) : ∀ (k : Nat) (Mx : Mem) (i : Int), p ≤ i → i ≤ 5 → i - p < k → ∀ z : Int, fX9_opensAt_L1 M t p n k Mx i 0 z = if z = 64 + 6 * t + p then n else if 64 + 6 * t + p < z ∧ z ≤ 64 + 6 * t + i then Mx 0 (z - 1) else if z = 55 + t then Mx 0 (55 + t) + 1 else Mx 0 z := by
  intro k
  induction k with
  | zero => intro Mx i _ _ _; omega
  | succ k ih =>
    intro Mx i h0 h1 h2 z
    rw [fX9_opensAt_L1]
    by_cases hc : i ≤ p
    · rw [if_pos hc]
      show up (up (Mx 0) (64 + 6 * t + p) n) (55 + t) (up (Mx 0) (64 + 6 * t + p) n (55 + t) + 1) z = _
      rw [up_n (show ¬ 55 + t = 64 + 6 * t + p by omega)]
      by_cases ha : z = 64 + 6 * t + p
      · rw [if_pos ha, up_n (by omega), ha, up_e]
      · rw [if_neg ha, if_neg (by omega)]
        by_cases hb : z = 55 + t
        · rw [if_pos hb, hb, up_e]
        · rw [if_neg hb, up_n hb, up_n ha]
    · rw [if_neg hc, show i + -1 = i - 1 by omega, ih _ _ (by omega) (by omega) (by omega)]
      show (if z = 64 + 6 * t + p then n else if 64 + 6 * t + p < z ∧ z ≤ 64 + 6 * t + (i - 1) then up (Mx 0) (64 + 6 * t + i) (Mx 0 (64 + 6 * t + i - 1)) (z - 1) else if z = 55 + t then up (Mx 0) (64 + 6 * t + i) (Mx 0 (64 + 6 * t + i - 1)) (55 + t) + 1 else up (Mx 0) (64 + 6 * t + i) (Mx 0 (64 + 6 * t + i - 1)) z) = _
      rw [up_n (show ¬ 55 + t = 64 + 6 * t + i by omega)]
      by_cases ha : z = 64 + 6 * t + p
      · rw [if_pos ha, if_pos ha]
      · rw [if_neg ha, if_neg ha]
        by_cases hb : 64 + 6 * t + p < z ∧ z ≤ 64 + 6 * t + (i - 1)
        · rw [if_pos hb, if_pos (by omega), up_n (by omega)]
        · rw [if_neg hb]
          by_cases hd : z = 64 + 6 * t + i
          · rw [if_neg (by omega), if_pos (by omega), hd, up_e]
          · rw [if_neg (by omega : ¬ (64 + 6 * t + p < z ∧ z ≤ 64 + 6 * t + i)), up_n hd]
theorem opn_e {M : Mem} {t p n : Int} (ht : 0 ≤ t ∧ t < 3) (hp : 0 ≤ p) (hpl : p ≤ M 0 (55 + t)) (hl5 : M 0 (55 + t) ≤ 5) (z : Int) : fX9_opensAt M t p n 0 z = if z = 64 + 6 * t + p then n else if 64 + 6 * t + p < z ∧ z ≤ 64 + 6 * t + M 0 (55 + t) then M 0 (z - 1) else if z = 55 + t then M 0 (55 + t) + 1 else M 0 z := opn_L ht hp 8 M _ hpl hl5 (by omega) z
/-- seats and their numbers change, the rest doesn't -/
theorem SR_seats {c g c' g' : Int → Int} (h : SR c g) (hc : ∀ z : Int, z < 50 ∨ 71 ≤ z → c' z = c z) (hg : ∀ z : Int, z < 55 ∨ (58 ≤ z ∧ z < 64) → g' z = g z) (hl : ∀ u : Int, 0 ≤ u → u < 3 → c' (68 + u) = g' (55 + u))
    (hs : ∀ u q : Int, 0 ≤ u → u < 3 → 0 ≤ q → q < g' (55 + u) → c' (50 + u * 6 + q) = g' (64 + 6 * u + q) ∧ g' (64 + 6 * u + q) < g 0)
    (hu : ∀ t p u q : Int, 0 ≤ t → t < 3 → 0 ≤ p → p < g' (55 + t) → 0 ≤ u → u < 3 → 0 ≤ q → q < g' (55 + u) → g' (64 + 6 * t + p) = g' (64 + 6 * u + q) → t = u ∧ p = q) : SR c' g' := by
  have n := SR_n h
  have m := SR_m h
  refine ⟨?_, fun j a b => ?_, fun j a b => ?_, fun t a b => ?_, fun t p a b d e => ?_, hu, ?_⟩
  · rw [hc 77 (by omega), hg 0 (by omega)]
    exact n
  · rw [hc j (by omega), hc (10 + j) (by omega), hc (20 + j) (by omega), hc (30 + j) (by omega), hc (40 + j) (by omega), hg (5 + j) (by omega), hg (15 + j) (by omega), hg (25 + j) (by omega), hg (35 + j) (by omega), hg (45 + j) (by omega)]
    exact SR_j h j a b
  · rw [hg 0 (by omega)] at a
    rw [hg (15 + j) (by omega), hg (25 + j) (by omega), hg (35 + j) (by omega), hg (45 + j) (by omega)]
    exact SR_z h j a b
  · rw [hl t a b, hc (71 + t) (by omega), hc (74 + t) (by omega), hg (58 + t) (by omega), hg (61 + t) (by omega)]
    exact ⟨rfl, (SR_t h t a b).2⟩
  · rw [hg 0 (by omega)]
    exact hs t p a b d e
  · rw [hc 78 (by omega), hc 79 (by omega), hg 1 (by omega), hg 4 (by omega), hg 2 (by omega), hg 61 (by omega), hg 62 (by omega), hg 63 (by omega), hg 3 (by omega), hg 45 (by omega), hg 46 (by omega), hg 47 (by omega), hg 48 (by omega), hg 49 (by omega), hg 50 (by omega), hg 51 (by omega), hg 52 (by omega), hg 53 (by omega), hg 54 (by omega)]
    exact m
theorem SR_rem {c g c' g' : Int → Int} (h : SR c g) (h6 : ∀ u : Int, 0 ≤ u → u < 3 → 0 ≤ g (55 + u) ∧ g (55 + u) ≤ 6) {t p : Int} (ht : 0 ≤ t ∧ t < 3) (hp : 0 ≤ p) (hpl : p < g (55 + t))
    (hc : ∀ z : Int, c' z = if 50 + t * 6 + p ≤ z ∧ z < 50 + t * 6 + (g (55 + t) - 1) then c (z + 1) else if z = 68 + t then g (55 + t) - 1 else c z)
    (hg : ∀ z : Int, g' z = if 64 + 6 * t + p ≤ z ∧ z < 64 + 6 * t + 5 then g (z + 1) else if z = 64 + 6 * t + 5 ∧ p ≤ 5 then 0 else if z = 55 + t then g (55 + t) - 1 else g z) : SR c' g' ∧ NoSeat g' (g (64 + 6 * t + p)) := by
  have l6 := h6 t ht.1 ht.2
  have gl : ∀ u : Int, 0 ≤ u → u < 3 → g' (55 + u) = if u = t then g (55 + t) - 1 else g (55 + u) := fun u a b => by
    by_cases hu : u = t
    · rw [if_pos hu, hu, hg, if_neg (by omega), if_neg (by omega), if_pos rfl]
    · rw [if_neg hu, hg, if_neg (by omega), if_neg (by omega), if_neg (by omega)]
  -- where it lay
  have gs : ∀ u q : Int, 0 ≤ u → u < 3 → 0 ≤ q → q < g' (55 + u) → ∃ r : Int, g' (64 + 6 * u + q) = g (64 + 6 * u + r) ∧ c' (50 + u * 6 + q) = c (50 + u * 6 + r) ∧ 0 ≤ r ∧ r < g (55 + u) ∧ ((u = t ∧ p ≤ q ∧ r = q + 1) ∨ (¬ (u = t ∧ p ≤ q) ∧ r = q)) := fun u q a b d e => by
    rw [gl u a b] at e
    have u6 := h6 u a b
    by_cases hu : u = t
    · rw [if_pos hu] at e
      subst hu
      by_cases hq : p ≤ q
      · refine ⟨q + 1, ?_, ?_, by omega, by omega, Or.inl ⟨rfl, hq, rfl⟩⟩
        · rw [hg, if_pos (by omega)]
          congr 1
          omega
        · rw [hc, if_pos (by omega)]
          congr 1
          omega
      · refine ⟨q, ?_, ?_, d, by omega, Or.inr ⟨fun x => hq x.2, rfl⟩⟩
        · rw [hg, if_neg (by omega), if_neg (by omega), if_neg (by omega)]
        · rw [hc, if_neg (by omega), if_neg (by omega)]
    · rw [if_neg hu] at e
      refine ⟨q, ?_, ?_, d, e, Or.inr ⟨fun x => hu x.1, rfl⟩⟩
      · rw [hg, if_neg (by omega), if_neg (by omega), if_neg (by omega)]
      · rw [hc, if_neg (by omega), if_neg (by omega)]
  refine ⟨SR_seats h (fun z a => by rw [hc, if_neg (by omega), if_neg (by omega)]) (fun z a => by rw [hg, if_neg (by omega), if_neg (by omega), if_neg (by omega)]) (fun u a b => ?_) (fun u q a b d e => ?_) (fun u q v r a b d e a' b' d' e' f => ?_), fun u q a b d e f => ?_⟩
  · rw [gl u a b, hc]
    by_cases hu : u = t
    · rw [if_neg (by omega), if_pos (by omega), if_pos hu]
    · rw [if_neg (by omega), if_neg (by omega), if_neg hu]
      exact (SR_t h u a b).1
  · obtain ⟨r, x, y, z, w, -⟩ := gs u q a b d e
    rw [x, y]
    exact SR_s h u r a b z w
  · obtain ⟨r1, x1, -, z1, w1, v1⟩ := gs u q a b d e
    obtain ⟨r2, x2, -, z2, w2, v2⟩ := gs v r a' b' d' e'
    rw [x1, x2] at f
    have k := SR_u h u r1 v r2 a b z1 w1 a' b' z2 w2 f
    omega
  · obtain ⟨r1, x1, -, z1, w1, v1⟩ := gs u q a b d e
    rw [x1] at f
    have k := SR_u h u r1 t p a b z1 w1 ht.1 ht.2 hp hpl f
    omega
theorem SR_ins {c g c' g' : Int → Int} (h : SR c g) (h6 : ∀ u : Int, 0 ≤ u → u < 3 → 0 ≤ g (55 + u) ∧ g (55 + u) ≤ 6) {t p n : Int} (ht : 0 ≤ t ∧ t < 3) (hp : 0 ≤ p) (hpl : p ≤ g (55 + t)) (hl5 : g (55 + t) ≤ 5) (hn : n < g 0) (hno : NoSeat g n)
    (hc : ∀ z : Int, c' z = if z = 50 + t * 6 + p then n else if 50 + t * 6 + p < z ∧ z ≤ 50 + t * 6 + g (55 + t) then c (z - 1) else if z = 68 + t then g (55 + t) + 1 else c z)
    (hg : ∀ z : Int, g' z = if z = 64 + 6 * t + p then n else if 64 + 6 * t + p < z ∧ z ≤ 64 + 6 * t + g (55 + t) then g (z - 1) else if z = 55 + t then g (55 + t) + 1 else g z) : SR c' g' := by
  have l6 := h6 t ht.1 ht.2
  have gl : ∀ u : Int, 0 ≤ u → u < 3 → g' (55 + u) = if u = t then g (55 + t) + 1 else g (55 + u) := fun u a b => by
    by_cases hu : u = t
    · rw [if_pos hu, hu, hg, if_neg (by omega), if_neg (by omega), if_pos rfl]
    · rw [if_neg hu, hg, if_neg (by omega), if_neg (by omega), if_neg (by omega)]
  have gs : ∀ u q : Int, 0 ≤ u → u < 3 → 0 ≤ q → q < g' (55 + u) → (u = t ∧ q = p ∧ g' (64 + 6 * u + q) = n ∧ c' (50 + u * 6 + q) = n) ∨ ∃ r : Int, g' (64 + 6 * u + q) = g (64 + 6 * u + r) ∧ c' (50 + u * 6 + q) = c (50 + u * 6 + r) ∧ 0 ≤ r ∧ r < g (55 + u) ∧ ((u = t ∧ p < q ∧ r = q - 1) ∨ ((¬ u = t ∨ q < p) ∧ r = q)) := fun u q a b d e => by
    rw [gl u a b] at e
    have u6 := h6 u a b
    by_cases hu : u = t
    · rw [if_pos hu] at e
      subst hu
      by_cases hq : q = p
      · left
        refine ⟨rfl, hq, ?_, ?_⟩
        · rw [hg, if_pos (by omega)]
        · rw [hc, if_pos (by omega)]
      · right
        by_cases hq2 : p < q
        · refine ⟨q - 1, ?_, ?_, by omega, by omega, Or.inl ⟨rfl, hq2, rfl⟩⟩
          · rw [hg, if_neg (by omega), if_pos (by omega)]
            congr 1
            omega
          · rw [hc, if_neg (by omega), if_pos (by omega)]
            congr 1
            omega
        · refine ⟨q, ?_, ?_, d, by omega, Or.inr ⟨Or.inr (by omega), rfl⟩⟩
          · rw [hg, if_neg (by omega), if_neg (by omega), if_neg (by omega)]
          · rw [hc, if_neg (by omega), if_neg (by omega), if_neg (by omega)]
    · rw [if_neg hu] at e
      right
      refine ⟨q, ?_, ?_, d, e, Or.inr ⟨Or.inl hu, rfl⟩⟩
      · rw [hg, if_neg (by omega), if_neg (by omega), if_neg (by omega)]
      · rw [hc, if_neg (by omega), if_neg (by omega), if_neg (by omega)]
  refine SR_seats h (fun z a => by rw [hc, if_neg (by omega), if_neg (by omega), if_neg (by omega)]) (fun z a => by rw [hg, if_neg (by omega), if_neg (by omega), if_neg (by omega)]) (fun u a b => ?_) (fun u q a b d e => ?_) (fun u q v r a b d e a' b' d' e' f => ?_)
  · rw [gl u a b, hc]
    by_cases hu : u = t
    · rw [if_neg (by omega), if_neg (by omega), if_pos (by omega), if_pos hu]
    · rw [if_neg (by omega), if_neg (by omega), if_neg (by omega), if_neg hu]
      exact (SR_t h u a b).1
  · rcases gs u q a b d e with ⟨-, -, x, y⟩ | ⟨r, x, y, z, w, -⟩
    · rw [x, y]
      exact ⟨rfl, hn⟩
    · rw [x, y]
      exact SR_s h u r a b z w
  · rcases gs u q a b d e with ⟨y1, y2, x1, -⟩ | ⟨r1, x1, -, z1, w1, v1⟩
    · rcases gs v r a' b' d' e' with ⟨y3, y4, x2, -⟩ | ⟨r2, x2, -, z2, w2, v2⟩
      · omega
      · rw [x1, x2] at f
        exact absurd f.symm (hno v r2 a' b' z2 w2)
    · rcases gs v r a' b' d' e' with ⟨y3, y4, x2, -⟩ | ⟨r2, x2, -, z2, w2, v2⟩
      · rw [x1, x2] at f
        exact absurd f (hno u r1 a b z1 w1)
      · rw [x1, x2] at f
        have k := SR_u h u r1 v r2 a b z1 w1 a' b' z2 w2 f
        omega
