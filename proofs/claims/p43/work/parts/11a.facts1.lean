/-! FACTS: rows of tables; no napkin lies twice; what build leaves. -/
theorem rem_L {M : Mem} {t p l : Int} (ht : 0 ≤ t ∧ t < 3) (hl : fX6_laidOn M t = l) (hl6 : l ≤ 6) : ∀ (k : Nat) (Mx : Mem) (i : Int), 1 ≤ i → i ≤ l → l - i < k → ∀ z : Int, fX6_removeAt_L1 M t p k Mx i 0 z = if 50 + t * 6 + (i - 1) ≤ z ∧ z < 50 + t * 6 + (l - 1) then Mx 0 (z + 1) else if z = 68 + t then l - 1 else Mx 0 z := by
  intro k
  induction k with
  | zero => intro Mx i _ _ _; omega
  | succ k ih =>
    intro Mx i h0 h1 h2 z
    rw [fX6_removeAt_L1, hl]
    by_cases hc : l ≤ i
    · rw [if_pos hc, if_neg (by omega)]
      unfold fX6_setOfTable
      rw [if_neg (by omega), if_neg (by omega)]
      rfl
    · rw [if_neg hc, ih _ _ (by omega) (by omega) (by omega), seated_e ht (by omega), setSeat_e ht (by omega)]
      show (if 50 + t * 6 + (i + 1 - 1) ≤ z ∧ z < 50 + t * 6 + (l - 1) then up (Mx 0) (50 + t * 6 + (i - 1)) (Mx 0 (50 + t * 6 + i)) (z + 1) else if z = 68 + t then l - 1 else up (Mx 0) (50 + t * 6 + (i - 1)) (Mx 0 (50 + t * 6 + i)) z) = _
      by_cases ha : 50 + t * 6 + (i + 1 - 1) ≤ z ∧ z < 50 + t * 6 + (l - 1)
      · rw [if_pos ha, if_pos (by omega), up_n (by omega)]
      · rw [if_neg ha]
        by_cases hb : z = 50 + t * 6 + (i - 1)
        · rw [if_neg (by omega), if_pos (by omega), hb, up_e]
          congr 1
          omega
        · rw [if_neg (by omega : ¬ (50 + t * 6 + (i - 1) ≤ z ∧ z < 50 + t * 6 + (l - 1))), up_n hb]
theorem rem_e {M : Mem} {t p l : Int} (ht : 0 ≤ t ∧ t < 3) (hl : fX6_laidOn M t = l) (hl6 : l ≤ 6) (hp : 0 ≤ p ∧ p < l) (z : Int) : fX6_removeAt M t p 0 z = if 50 + t * 6 + p ≤ z ∧ z < 50 + t * 6 + (l - 1) then M 0 (z + 1) else if z = 68 + t then l - 1 else M 0 z := by
  have q := rem_L (p := p) ht hl hl6 8 M (p + 1) (by omega) (by omega) (by omega) z
  rw [show p + 1 - 1 = p by omega] at q
  exact q
theorem ins_L {M : Mem} {t p n l : Int} (ht : 0 ≤ t ∧ t < 3) (hl : fX6_laidOn M t = l) (hp : 0 ≤ p) (hpl : p ≤ l) (hl5 : l ≤ 5) : ∀ (k : Nat) (Mx : Mem) (i : Int), p ≤ i → i ≤ l → i - p < k → ∀ z : Int, fX6_insert_L1 M t p n k Mx i 0 z = if z = 50 + t * 6 + p then n else if 50 + t * 6 + p < z ∧ z ≤ 50 + t * 6 + i then Mx 0 (z - 1) else if z = 68 + t then l + 1 else Mx 0 z := by
  intro k
  induction k with
  | zero => intro Mx i _ _ _; omega
  | succ k ih =>
    intro Mx i h0 h1 h2 z
    rw [fX6_insert_L1]
    by_cases hc : i ≤ p
    · rw [if_pos hc, hl, setSeat_e ht (by omega)]
      unfold fX6_setOfTable
      rw [if_neg (by omega), if_neg (by omega)]
      show up (up (Mx 0) (50 + t * 6 + p) n) (68 + t) (l + 1) z = _
      by_cases ha : z = 50 + t * 6 + p
      · rw [if_pos ha, up_n (by omega), ha, up_e]
      · rw [if_neg ha, if_neg (by omega)]
        by_cases hb : z = 68 + t
        · rw [if_pos hb, hb, up_e]
        · rw [if_neg hb, up_n hb, up_n ha]
    · rw [if_neg hc, show i + -1 = i - 1 by omega, ih _ _ (by omega) (by omega) (by omega), seated_e ht (by omega), setSeat_e ht (by omega)]
      show (if z = 50 + t * 6 + p then n else if 50 + t * 6 + p < z ∧ z ≤ 50 + t * 6 + (i - 1) then up (Mx 0) (50 + t * 6 + i) (Mx 0 (50 + t * 6 + (i - 1))) (z - 1) else if z = 68 + t then l + 1 else up (Mx 0) (50 + t * 6 + i) (Mx 0 (50 + t * 6 + (i - 1))) z) = _
      by_cases ha : z = 50 + t * 6 + p
      · rw [if_pos ha, if_pos ha]
      · rw [if_neg ha, if_neg ha]
        by_cases hb : 50 + t * 6 + p < z ∧ z ≤ 50 + t * 6 + (i - 1)
        · rw [if_pos hb, if_pos (by omega), up_n (by omega)]
        · rw [if_neg hb]
          by_cases hd : z = 50 + t * 6 + i
          · rw [if_neg (by omega), if_pos (by omega), hd, up_e]
            congr 1
            omega
          · rw [if_neg (by omega : ¬ (50 + t * 6 + p < z ∧ z ≤ 50 + t * 6 + i)), up_n hd]
theorem ins_e {M : Mem} {t p n l : Int} (ht : 0 ≤ t ∧ t < 3) (hl : fX6_laidOn M t = l) (hp : 0 ≤ p) (hpl : p ≤ l) (hl5 : l ≤ 5) (z : Int) : fX6_insert M t p n 0 z = if z = 50 + t * 6 + p then n else if 50 + t * 6 + p < z ∧ z ≤ 50 + t * 6 + l then M 0 (z - 1) else if z = 68 + t then l + 1 else M 0 z := by
  unfold fX6_insert
  rw [hl]
  exact ins_L ht hl hp hpl hl5 7 M l hpl (Int.le_refl _) (by omega) z
theorem cseat_N {M : Mem} (n : Int) : ∀ (k : Nat) (s : Int), 0 ≤ s → 18 - s < k → fX6_seatUnder_L1 M n k s = -1 → ∀ z : Int, s ≤ z → z < 18 → z % 6 < M 0 (68 + z / 6) → ¬ M 0 (50 + z) = n := by
  intro k
  induction k with
  | zero => intro s h0 h1 h2 z a b; exfalso; omega
  | succ k ih =>
    intro s h0 h1 h2 z a b c
    rw [fX6_seatUnder_L1, if_neg (by omega)] at h2
    by_cases hz : z = s
    · subst hz
      rw [if_neg (by omega)] at h2
      split at h2
      · omega
      · assumption
    · split at h2
      · exact ih (s + 1) (by omega) (by omega) h2 z (by omega) b c
      · split at h2
        · omega
        · exact ih (s + 1) (by omega) (by omega) h2 z (by omega) b c
theorem push_ok {M : Mem} (hn : 0 ≤ M 9 0 ∧ M 9 0 ≤ 8) : fX2_push M 9 0 = (if M 9 0 = 8 then 8 else M 9 0 + 1) ∧
    ∀ i j : Int, 0 ≤ i → i < (if M 9 0 = 8 then 8 else M 9 0 + 1) → 0 ≤ j → j < 80 → fX2_push M 8 (80 * i + j) = if i = (if M 9 0 = 8 then 7 else M 9 0) then M 14 j else if M 9 0 = 8 then M 8 (80 * (i + 1) + j) else M 8 (80 * i + j) := by
  unfold fX2_push
  by_cases h8 : M 9 0 = 8
  · rw [if_neg (by omega), if_pos h8, if_pos h8]
    refine ⟨rfl, fun i j x y z w => ?_⟩
    show cpI (M 14) (cpI (M 8) (M 8) 80 0 560) 0 (7 * 80) 80 (80 * i + j) = _
    unfold cpI
    rw [if_pos h8]
    by_cases hi : i = 7
    · rw [if_pos (by omega), if_pos hi]
      congr 1
      omega
    · rw [if_neg (by omega), if_neg hi, if_pos (by omega)]
      congr 1
      omega
  · rw [if_pos (by omega), if_neg (by omega), if_neg h8, if_neg h8]
    refine ⟨rfl, fun i j x y z w => ?_⟩
    show cpI (M 14) (M 8) 0 (M 9 0 * 80) 80 (80 * i + j) = _
    unfold cpI
    rw [if_neg h8]
    by_cases hi : i = M 9 0
    · rw [if_pos (by omega), if_pos hi]
      congr 1
      omega
    · rw [if_neg (by omega), if_neg hi]
/-- no napkin lies twice -/
def DI (c : Int → Int) : Prop := ∀ t p u q : Int, 0 ≤ t → t < 3 → 0 ≤ p → p < c (68 + t) → 0 ≤ u → u < 3 → 0 ≤ q → q < c (68 + u) → c (50 + t * 6 + p) = c (50 + u * 6 + q) → t = u ∧ p = q
def NS (c : Int → Int) (n : Int) : Prop := ∀ t p : Int, 0 ≤ t → t < 3 → 0 ≤ p → p < c (68 + t) → ¬ c (50 + t * 6 + p) = n
theorem DI_ext {c c' : Int → Int} (h : DI c) (e : ∀ z : Int, 50 ≤ z → z < 71 → c' z = c z) (h6 : ∀ u : Int, 0 ≤ u → u < 3 → 0 ≤ c (68 + u) ∧ c (68 + u) ≤ 6) : DI c' := by
  intro t p u q a b d f a' b' d' f' g
  rw [e (68 + t) (by omega) (by omega)] at f
  rw [e (68 + u) (by omega) (by omega)] at f'
  have x := h6 t a b
  have y := h6 u a' b'
  rw [e (50 + t * 6 + p) (by omega) (by omega), e (50 + u * 6 + q) (by omega) (by omega)] at g
  exact h t p u q a b d f a' b' d' f' g
theorem DI_rem {c c' : Int → Int} (h : DI c) (h6 : ∀ u : Int, 0 ≤ u → u < 3 → 0 ≤ c (68 + u) ∧ c (68 + u) ≤ 6) {t p : Int} (ht : 0 ≤ t ∧ t < 3) (hp : 0 ≤ p) (hpl : p < c (68 + t))
    (hc : ∀ z : Int, c' z = if 50 + t * 6 + p ≤ z ∧ z < 50 + t * 6 + (c (68 + t) - 1) then c (z + 1) else if z = 68 + t then c (68 + t) - 1 else c z) : DI c' ∧ NS c' (c (50 + t * 6 + p)) := by
  have l6 := h6 t ht.1 ht.2
  have gl : ∀ u : Int, 0 ≤ u → u < 3 → c' (68 + u) = if u = t then c (68 + t) - 1 else c (68 + u) := fun u a b => by
    by_cases hu : u = t
    · rw [if_pos hu, hu, hc, if_neg (by omega), if_pos rfl]
    · rw [if_neg hu, hc, if_neg (by omega), if_neg (by omega)]
  have gs : ∀ u q : Int, 0 ≤ u → u < 3 → 0 ≤ q → q < c' (68 + u) → ∃ r : Int, c' (50 + u * 6 + q) = c (50 + u * 6 + r) ∧ 0 ≤ r ∧ r < c (68 + u) ∧ ((u = t ∧ p ≤ q ∧ r = q + 1) ∨ (¬ (u = t ∧ p ≤ q) ∧ r = q)) := fun u q a b d e => by
    rw [gl u a b] at e
    have u6 := h6 u a b
    by_cases hu : u = t
    · rw [if_pos hu] at e
      subst hu
      by_cases hq : p ≤ q
      · refine ⟨q + 1, ?_, by omega, by omega, Or.inl ⟨rfl, hq, rfl⟩⟩
        rw [hc, if_pos (by omega)]
        congr 1
        omega
      · refine ⟨q, ?_, d, by omega, Or.inr ⟨fun x => hq x.2, rfl⟩⟩
        rw [hc, if_neg (by omega), if_neg (by omega)]
    · rw [if_neg hu] at e
      refine ⟨q, ?_, d, e, Or.inr ⟨fun x => hu x.1, rfl⟩⟩
      rw [hc, if_neg (by omega), if_neg (by omega)]
  refine ⟨fun u q v r a b d e a' b' d' e' f => ?_, fun u q a b d e f => ?_⟩
  · obtain ⟨r1, x1, z1, w1, v1⟩ := gs u q a b d e
    obtain ⟨r2, x2, z2, w2, v2⟩ := gs v r a' b' d' e'
    rw [x1, x2] at f
    have k := h u r1 v r2 a b z1 w1 a' b' z2 w2 f
    omega
  · obtain ⟨r1, x1, z1, w1, v1⟩ := gs u q a b d e
    rw [x1] at f
    have k := h u r1 t p a b z1 w1 ht.1 ht.2 hp hpl f
    omega
theorem DI_ins {c c' : Int → Int} (h : DI c) (h6 : ∀ u : Int, 0 ≤ u → u < 3 → 0 ≤ c (68 + u) ∧ c (68 + u) ≤ 6) {t p n : Int} (ht : 0 ≤ t ∧ t < 3) (hp : 0 ≤ p) (hpl : p ≤ c (68 + t)) (hl5 : c (68 + t) ≤ 5) (hno : NS c n)
    (hc : ∀ z : Int, c' z = if z = 50 + t * 6 + p then n else if 50 + t * 6 + p < z ∧ z ≤ 50 + t * 6 + c (68 + t) then c (z - 1) else if z = 68 + t then c (68 + t) + 1 else c z) : DI c' := by
  have l6 := h6 t ht.1 ht.2
  have gl : ∀ u : Int, 0 ≤ u → u < 3 → c' (68 + u) = if u = t then c (68 + t) + 1 else c (68 + u) := fun u a b => by
    by_cases hu : u = t
    · rw [if_pos hu, hu, hc, if_neg (by omega), if_neg (by omega), if_pos rfl]
    · rw [if_neg hu, hc, if_neg (by omega), if_neg (by omega), if_neg (by omega)]
  have gs : ∀ u q : Int, 0 ≤ u → u < 3 → 0 ≤ q → q < c' (68 + u) → (u = t ∧ q = p ∧ c' (50 + u * 6 + q) = n) ∨ ∃ r : Int, c' (50 + u * 6 + q) = c (50 + u * 6 + r) ∧ 0 ≤ r ∧ r < c (68 + u) ∧ ((u = t ∧ p < q ∧ r = q - 1) ∨ ((¬ u = t ∨ q < p) ∧ r = q)) := fun u q a b d e => by
    rw [gl u a b] at e
    have u6 := h6 u a b
    by_cases hu : u = t
    · rw [if_pos hu] at e
      subst hu
      by_cases hq : q = p
      · left
        exact ⟨rfl, hq, by rw [hc, if_pos (by omega)]⟩
      · right
        by_cases hq2 : p < q
        · refine ⟨q - 1, ?_, by omega, by omega, Or.inl ⟨rfl, hq2, rfl⟩⟩
          rw [hc, if_neg (by omega), if_pos (by omega)]
          congr 1
          omega
        · refine ⟨q, ?_, d, by omega, Or.inr ⟨Or.inr (by omega), rfl⟩⟩
          rw [hc, if_neg (by omega), if_neg (by omega), if_neg (by omega)]
    · rw [if_neg hu] at e
      right
      refine ⟨q, ?_, d, e, Or.inr ⟨Or.inl hu, rfl⟩⟩
      rw [hc, if_neg (by omega), if_neg (by omega), if_neg (by omega)]
  intro u q v r a b d e a' b' d' e' f
  rcases gs u q a b d e with ⟨y1, y2, x1⟩ | ⟨r1, x1, z1, w1, v1⟩
  · rcases gs v r a' b' d' e' with ⟨y3, y4, x2⟩ | ⟨r2, x2, z2, w2, v2⟩
    · omega
    · rw [x1, x2] at f
      exact absurd f.symm (hno v r2 a' b' z2 w2)
  · rcases gs v r a' b' d' e' with ⟨y3, y4, x2⟩ | ⟨r2, x2, z2, w2, v2⟩
    · rw [x1, x2] at f
      exact absurd f (hno u r1 a b z1 w1)
    · rw [x1, x2] at f
      have k := h u r1 v r2 a b z1 w1 a' b' z2 w2 f
      omega
theorem CI_6 {M : Mem} (h : CI M) : ∀ u : Int, 0 ≤ u → u < 3 → 0 ≤ M 0 (68 + u) ∧ M 0 (68 + u) ≤ 6 := fun u a b => CI_laid h (68 + u) (by omega) (by omega)
theorem setN_out {M : Mem} {f n v z : Int} (h : z < f ∨ f + 10 ≤ z) : fX6_setOfNapkin M f n v 0 z = M 0 z := by
  unfold fX6_setOfNapkin
  split
  · rfl
  split
  · rfl
  · show up (M 0) (f + n) v z = M 0 z
    rw [up_n (by omega)]
theorem setT_out {M : Mem} {f n v z : Int} (h : z < f ∨ f + 3 ≤ z) : fX6_setOfTable M f n v 0 z = M 0 z := by
  unfold fX6_setOfTable
  split
  · rfl
  split
  · rfl
  · show up (M 0) (f + n) v z = M 0 z
    rw [up_n (by omega)]
theorem mst0 (M : Mem) (z v j : Int) : mst M 0 z v 0 j = up (M 0) z v j := rfl
theorem note_out {M : Mem} {t p z : Int} (h : z < 71 ∨ 79 ≤ z ∨ z = 77) : fX6_noteReading M t p 0 z = M 0 z := by
  unfold fX6_noteReading
  split
  · rw [mst0, up_n (by omega), setT_out (by omega), setT_out (by omega)]
  · rw [mst0, up_n (by omega), setT_out (by omega)]
/-- the judge's fine, told by its command -/
theorem fine_lay {M : Mem} {n t : Int} (h : fX5_judgeLay M n t = 0) : (0 ≤ n ∧ n < M 0 77) ∧ (0 ≤ t ∧ t < 3) ∧ fX6_tableUnder M n = -1 ∧ fX6_laidOn M t < 6 := by
  unfold fX5_judgeLay fX6_hasNapkin fX8_isTable fX8_refusedFor at h
  have u := rg_X6_tableUnder M n
  (repeat' split at h) <;> first | omega | exact ⟨by omega, by omega, by assumption, by omega⟩
theorem fine_take {M : Mem} {n : Int} (h : fX5_judgeTake M n = 0) : (0 ≤ n ∧ n < M 0 77) ∧ ¬ fX6_tableUnder M n = -1 := by
  unfold fX5_judgeTake fX6_hasNapkin fX8_refusedFor at h
  (repeat' split at h) <;> first | omega | exact ⟨by omega, by assumption⟩
theorem fine_move {M : Mem} {t f g : Int} (h : fX5_judgeMove M t f g = 0) : (0 ≤ t ∧ t < 3) ∧ (0 ≤ f ∧ f < fX6_laidOn M t) ∧ (0 ≤ g ∧ g < fX6_laidOn M t) := by
  unfold fX5_judgeMove fX8_isTable fX6_hasPlace fX8_refusedFor at h
  (repeat' split at h) <;> first | omega | exact ⟨by omega, by omega, by omega⟩
theorem NS_of {M : Mem} {n : Int} (h6 : ∀ u : Int, 0 ≤ u → u < 3 → 0 ≤ M 0 (68 + u) ∧ M 0 (68 + u) ≤ 6) (h : fX6_tableUnder M n = -1) : NS (M 0) n := by
  intro t p a b d e
  rcases cunder (M := M) n with ⟨s1, -, -⟩ | ⟨s1, -⟩
  · have x := h6 t a b
    have k := cseat_N n 19 0 (by decide) (by decide) s1 (6 * t + p) (by omega) (by omega) (by rw [show (6 * t + p) % 6 = p by omega, show (6 * t + p) / 6 = t by omega]; exact e)
    rw [show 50 + (6 * t + p) = 50 + t * 6 + p by omega] at k
    exact k
  · omega
theorem under_NS {M : Mem} {n : Int} (h : NS (M 0) n) : fX6_tableUnder M n = -1 := by
  rcases cunder (M := M) n with ⟨-, s2, -⟩ | ⟨a, b, c, d, e, f, -⟩
  · exact s2
  · exact absurd f (h _ _ a b c e)
theorem of0_laid {M N : Mem} (h : N 0 = M 0) (t : Int) : fX6_laidOn N t = fX6_laidOn M t := by unfold fX6_laidOn fX6_ofTable; rw [h]
theorem of0_seat_L {M N : Mem} (h : N 0 = M 0) (n : Int) : ∀ (k : Nat) (s : Int), fX6_seatUnder_L1 N n k s = fX6_seatUnder_L1 M n k s := by
  intro k
  induction k with
  | zero => intro s; rfl
  | succ k ih => intro s; rw [fX6_seatUnder_L1, fX6_seatUnder_L1, h, ih]
theorem of0_under {M N : Mem} (h : N 0 = M 0) (n : Int) : fX6_tableUnder N n = fX6_tableUnder M n ∧ fX6_placeUnder N n = fX6_placeUnder M n := by
  unfold fX6_tableUnder fX6_placeUnder fX6_seatUnder
  rw [of0_seat_L h]
  exact ⟨rfl, rfl⟩
theorem of0_seated {M N : Mem} (h : N 0 = M 0) (t p : Int) : fX6_seatedAt N t p = fX6_seatedAt M t p := by unfold fX6_seatedAt; rw [h]
/-- the cells behind a napkin that is laid, taken -/
theorem lay_c {M : Mem} {n t l : Int} (ht : 0 ≤ t ∧ t < 3) (hl : fX6_laidOn M t = l) (h0 : 0 ≤ l) (h5 : l ≤ 5) (z : Int) : (fX6_addLast M n t).2 0 z = if z = 50 + t * 6 + l then n else if z = 68 + t then l + 1 else M 0 z := by
  show fX6_insert M t (fX6_laidOn M t) n 0 z = _
  rw [hl, ins_e ht hl h0 (Int.le_refl l) h5 z]
  by_cases a : z = 50 + t * 6 + l
  · rw [if_pos a, if_pos a]
  · rw [if_neg a, if_neg a, if_neg (by omega)]
theorem take_c {M : Mem} {n t p l : Int} (ht : 0 ≤ t ∧ t < 3) (hu : fX6_tableUnder M n = t) (hq : fX6_placeUnder M n = p) (hl : fX6_laidOn M t = l) (h6 : l ≤ 6) (hp : 0 ≤ p ∧ p < l) (z : Int) : (fX6_remove M n).2 0 z = if 50 + t * 6 + p ≤ z ∧ z < 50 + t * 6 + (l - 1) then M 0 (z + 1) else if z = 68 + t then l - 1 else M 0 z := by
  show fX6_removeAt M (fX6_tableUnder M n) (fX6_placeUnder M n) 0 z = _
  rw [hu, hq]
  exact rem_e ht hl h6 hp z
/-- a change keeps that no napkin lies twice, and makes no napkin go -/
theorem DI_carryOut {M N : Mem} (hC : CI M) (hD : DI (M 0)) (h0 : N 0 = M 0) {co a b d : Int} (hj : (fX5_judge M co a b d).1 = 0) : DI ((fX5_carryOut N co a b d).2 0) ∧ M 0 77 ≤ (fX5_carryOut N co a b d).2 0 77 := by
  have h6 := CI_6 hC
  unfold fX5_judge at hj
  unfold fX5_carryOut
  by_cases s1 : swm co = 1
  · rw [if_pos s1]
    have e : ∀ z : Int, ¬ z = 77 → (z < 0 ∨ 10 ≤ z) → (fX6_addNapkin N a).2 0 z = M 0 z := fun z x y => by
      unfold fX6_addNapkin
      split
      · show N 0 z = M 0 z
        rw [h0]
      · show fX6_setOfNapkin _ 0 _ _ 0 z = _
        rw [setN_out (by omega), mst0, up_n x, h0]
    refine ⟨DI_ext hD (fun z x y => e z (by omega) (by omega)) h6, ?_⟩
    show _ ≤ (fX6_addNapkin N a).2 0 77
    unfold fX6_addNapkin
    split
    · show M 0 77 ≤ N 0 77
      rw [h0]; exact Int.le_refl _
    · show _ ≤ fX6_setOfNapkin _ 0 _ _ 0 77
      rw [setN_out (by omega), mst0, up_e]
      unfold fX6_napkins
      rw [h0]
      omega
  rw [if_neg s1] at hj ⊢
  by_cases s2 : swm co = 2
  · rw [if_pos s2]
    have e : ∀ z : Int, 50 ≤ z → (fX6_foldTo N a b (fX5_creasesFor b)).2 0 z = M 0 z := fun z x => by
      show fX6_setOfNapkin _ 40 _ _ 0 z = _
      rw [setN_out (by omega), setN_out (by omega), setN_out (by omega), h0]
    refine ⟨DI_ext hD (fun z x y => e z x) h6, ?_⟩
    show _ ≤ (fX6_foldTo N a b (fX5_creasesFor b)).2 0 77
    rw [e 77 (by decide)]
    exact Int.le_refl _
  rw [if_neg s2] at hj ⊢
  by_cases s3 : swm co = 3
  · rw [if_pos s3]
    have e : ∀ z : Int, 50 ≤ z → (fX6_open N a).2 0 z = M 0 z := fun z x => by
      show fX6_setOfNapkin _ 10 _ _ 0 z = _
      rw [setN_out (by omega), h0]
    refine ⟨DI_ext hD (fun z x y => e z x) h6, ?_⟩
    show _ ≤ (fX6_open N a).2 0 77
    rw [e 77 (by decide)]
    exact Int.le_refl _
  rw [if_neg s3] at hj ⊢
  by_cases s4 : swm co = 4
  · rw [if_pos s4] at hj ⊢
    obtain ⟨f1, f2, f3, f4⟩ := fine_lay hj
    have hl : fX6_laidOn N b = M 0 (68 + b) := (of0_laid h0 b).trans (laid_e f2)
    rw [laid_e f2] at f4
    have x := h6 b f2.1 f2.2
    have e := lay_c (M := N) (n := a) f2 hl x.1 (by omega)
    rw [h0] at e
    refine ⟨DI_ins hD h6 f2 x.1 (Int.le_refl _) (by omega) (NS_of h6 f3) (fun z => ?_), ?_⟩
    · show (fX6_addLast N a b).2 0 z = _
      rw [e z]
      by_cases q : z = 50 + b * 6 + M 0 (68 + b)
      · rw [if_pos q, if_pos q]
      · rw [if_neg q, if_neg q, if_neg (by omega : ¬ (50 + b * 6 + M 0 (68 + b) < z ∧ z ≤ 50 + b * 6 + M 0 (68 + b)))]
    · show _ ≤ (fX6_addLast N a b).2 0 77
      rw [e 77, if_neg (by omega), if_neg (by omega)]
      exact Int.le_refl _
  rw [if_neg s4] at hj ⊢
  by_cases s5 : swm co = 5
  · rw [if_pos s5] at hj ⊢
    obtain ⟨f1, f2⟩ := fine_take hj
    obtain ⟨u1, u2⟩ := of0_under h0 a
    rcases cunder (M := M) a with ⟨-, y, -⟩ | ⟨c1, c2, c3, c4, c5, c6, -⟩
    · exact absurd y f2
    have x := h6 _ c1 c2
    have e := take_c (M := N) (n := a) ⟨c1, c2⟩ u1 u2 ((of0_laid h0 _).trans (laid_e ⟨c1, c2⟩)) x.2 ⟨c3, c5⟩
    rw [h0] at e
    refine ⟨(DI_rem hD h6 ⟨c1, c2⟩ c3 c5 (fun z => e z)).1, ?_⟩
    show _ ≤ (fX6_remove N a).2 0 77
    rw [e 77, if_neg (by omega), if_neg (by omega)]
    exact Int.le_refl _
  rw [if_neg s5] at hj ⊢
  by_cases s6 : swm co = 6
  · rw [if_pos s6] at hj ⊢
    obtain ⟨f1, f2, f3⟩ := fine_move hj
    rw [laid_e f1] at f2 f3
    have x := h6 a f1.1 f1.2
    have hl : fX6_laidOn N a = M 0 (68 + a) := (of0_laid h0 a).trans (laid_e f1)
    have e1 := rem_e (M := N) (p := b) f1 hl x.2 f2
    rw [h0] at e1
    have sn : fX6_seatedAt N a b = M 0 (50 + a * 6 + b) := (of0_seated h0 a b).trans (seated_e f1 (by omega))
    obtain ⟨d1, d2⟩ := DI_rem hD h6 f1 f2.1 f2.2 e1
    have g6 : ∀ u : Int, 0 ≤ u → u < 3 → 0 ≤ fX6_removeAt N a b 0 (68 + u) ∧ fX6_removeAt N a b 0 (68 + u) ≤ 6 := fun u y z => by
      have w := h6 u y z
      rw [e1, if_neg (by omega)]
      split <;> omega
    have hl2 : fX6_laidOn (fX6_removeAt N a b) a = M 0 (68 + a) - 1 := by
      rw [laid_e f1, e1, if_neg (by omega), if_pos rfl]
    have hl3 : fX6_removeAt N a b 0 (68 + a) = M 0 (68 + a) - 1 := (laid_e f1).symm.trans hl2
    have e2 := ins_e (M := fX6_removeAt N a b) (p := d) (n := M 0 (50 + a * 6 + b)) f1 hl2 f3.1 (by omega) (by omega)
    refine ⟨DI_ins d1 g6 f1 f3.1 (by omega) (by omega) d2 (fun z => ?_), ?_⟩
    · show fX6_insert (fX6_removeAt N a b) a d (fX6_seatedAt N a b) 0 z = _
      rw [sn, hl3]
      exact e2 z
    · show _ ≤ fX6_insert (fX6_removeAt N a b) a d (fX6_seatedAt N a b) 0 77
      rw [sn, e2 77, if_neg (by omega), if_neg (by omega), if_neg (by omega), e1, if_neg (by omega), if_neg (by omega)]
      exact Int.le_refl _
  rw [if_neg s6] at hj ⊢
  by_cases s7 : swm co = 7
  · rw [if_pos s7]
    have e : ∀ z : Int, 50 ≤ z → (fX6_addStains N a b).2 0 z = M 0 z := fun z x => by
      show fX6_setOfNapkin _ 30 _ _ 0 z = _
      rw [setN_out (by omega), h0]
    refine ⟨DI_ext hD (fun z x y => e z x) h6, ?_⟩
    show _ ≤ (fX6_addStains N a b).2 0 77
    rw [e 77 (by decide)]
    exact Int.le_refl _
  rw [if_neg s7] at hj ⊢
  by_cases s8 : swm co = 8
  · rw [if_pos s8]
    have e : ∀ z : Int, 50 ≤ z → ¬ z = 79 → (fX6_clean N a).2 0 z = M 0 z := fun z x y => by
      show mst _ 0 79 _ 0 z = _
      rw [mst0, up_n y, setN_out (by omega), setN_out (by omega), h0]
    refine ⟨DI_ext hD (fun z x y => e z x (by omega)) h6, ?_⟩
    show _ ≤ (fX6_clean N a).2 0 77
    rw [e 77 (by decide) (by decide)]
    exact Int.le_refl _
  · rw [if_neg s8]
    have e : ∀ z : Int, (z < 71 ∨ 79 ≤ z ∨ z = 77) → (fX5_readByHost N a).2 0 z = M 0 z := fun z x => by
      show fX6_noteReading _ _ _ 0 z = _
      rw [note_out x, show (fX4_hear N a) 0 = N 0 from fr_fX4_hear a rfl rfl rfl rfl rfl, h0]
    refine ⟨DI_ext hD (fun z x y => e z (by omega)) h6, ?_⟩
    show _ ≤ (fX5_readByHost N a).2 0 77
    rw [e 77 (by omega)]
    exact Int.le_refl _
/-- what holds of an object that build works on -/
def BI (M : Mem) : Prop := CI M ∧ SI M ∧ TI M ∧ HN M ∧ DI (M 0) ∧ M 11 0 = 0 ∧ LN M
theorem BI_0 : BI M0c := ⟨KI_0.1, KI_0.2.1, KI_0.2.2.1, KI_0.2.2.2, fun t p u q a b d e => absurd e (by show ¬ p < 0; omega), rfl, by unfold LN M0c; simp⟩
theorem BI_c {M : Mem} (h : BI M) (co a b d : Int) : BI (cM M co a b d) ∧ M 0 77 ≤ cM M co a b d 0 77 := by
  obtain ⟨hC, hQ, hT, hH, hD, h11, hL⟩ := h
  obtain ⟨k1, k2, k3, k4⟩ := cM_KI hC hQ hT hH co a b d
  have j0 : (fX5_judge M co a b d).2 0 = M 0 := judge_0 M co a b d
  have j11 : (fX5_judge M co a b d).2 11 = M 11 := fr_fX5_judge co a b d rfl rfl rfl rfl rfl
  have r : DI (cM M co a b d 0) ∧ M 0 77 ≤ cM M co a b d 0 77 ∧ cM M co a b d 11 0 = 0 := by
    unfold cM fX8_change
    split
    · exact ⟨by show DI ((fX5_judge M co a b d).2 0); rw [j0]; exact hD, by show _ ≤ (fX5_judge M co a b d).2 0 77; rw [j0]; exact Int.le_refl _, by show (fX5_judge M co a b d).2 11 0 = 0; rw [j11]; exact h11⟩
    split
    · exact ⟨by show DI ((fX5_judge M co a b d).2 0); rw [j0]; exact hD, by show _ ≤ (fX5_judge M co a b d).2 0 77; rw [j0]; exact Int.le_refl _, by show (fX5_judge M co a b d).2 11 0 = 0; rw [j11]; exact h11⟩
    split
    · rename_i hj
      have p0 : (fX2_push (fX6_copyTo_b (fX5_judge M co a b d).2)) 0 = M 0 := (fr_fX2_push rfl rfl).trans ((fr_fX6_copyTo_b rfl).trans j0)
      obtain ⟨q1, q2⟩ := DI_carryOut hC hD p0 hj
      refine ⟨q1, q2, ?_⟩
      show (fX5_carryOut _ co a b d).2 11 0 = 0
      rw [show (fX5_carryOut (fX2_push (fX6_copyTo_b (fX5_judge M co a b d).2)) co a b d).2 11 = M 11 from (fr_fX5_carryOut co a b d rfl rfl rfl rfl rfl rfl).trans ((fr_fX2_push rfl rfl).trans ((fr_fX6_copyTo_b rfl).trans j11))]
      exact h11
    · exact ⟨by show DI ((fX5_judge M co a b d).2 0); rw [j0]; exact hD, by show _ ≤ (fX5_judge M co a b d).2 0 77; rw [j0]; exact Int.le_refl _, by show (fX5_judge M co a b d).2 11 0 = 0; rw [j11]; exact h11⟩
  exact ⟨⟨k1, k2, k3, k4, r.1, r.2.2, LN_of (fr_fX8_change co a b d rfl rfl rfl rfl rfl rfl rfl rfl rfl rfl rfl) (fr_fX8_change co a b d rfl rfl rfl rfl rfl rfl rfl rfl rfl rfl rfl) hL⟩, r.2.1⟩
theorem BI_B1 (z : Int) : ∀ (f : Nat) (k : Int) (M : Mem), BI M → BI (fB1 z f k M) ∧ M 0 77 ≤ fB1 z f k M 0 77 := by
  intro f
  induction f with
  | zero => intro k M h; exact ⟨h, Int.le_refl _⟩
  | succ f ih =>
    intro k M h
    have a := BI_c h 0 (zand (zshr z (2 + (2 * k))) 3) 0 0
    have b := ih (k + 1) _ a.1
    exact ⟨b.1, Int.le_trans a.2 b.2⟩
theorem BI_B2 (z : Int) : ∀ (f : Nat) (k : Int) (M : Mem), BI M → BI (fB2 z f k M) ∧ M 0 77 ≤ fB2 z f k M 0 77 := by
  intro f
  induction f with
  | zero => intro k M h; exact ⟨h, Int.le_refl _⟩
  | succ f ih =>
    intro k M h
    have a := BI_c h 1 k (1 + (zand (zshr z (16 + (2 * k))) 1)) 0
    have b := ih (k + 1) _ a.1
    exact ⟨b.1, Int.le_trans a.2 b.2⟩
theorem BI_s1 (c np : Int) {M : Mem} (h : BI M) : BI (fBs1 c np M) ∧ M 0 77 ≤ fBs1 c np M 0 77 := BI_c h _ _ _ _
theorem BI_s2 (c np : Int) {M : Mem} (h : BI M) : BI (fBs2 c np M) ∧ M 0 77 ≤ fBs2 c np M 0 77 := BI_c h _ _ _ _
theorem BI_s3 (c np : Int) {M : Mem} (h : BI M) : BI (fBs3 c np M) ∧ M 0 77 ≤ fBs3 c np M 0 77 := by
  unfold fBs3
  split
  · exact BI_c h _ _ _ _
  · exact ⟨h, Int.le_refl _⟩
theorem BI_s4 (c np : Int) {M : Mem} (h : BI M) : BI (fBs4 c np M) ∧ M 0 77 ≤ fBs4 c np M 0 77 := by
  unfold fBs4
  split
  · exact BI_c h _ _ _ _
  · exact ⟨h, Int.le_refl _⟩
theorem BI_s5 (c np : Int) {M : Mem} (h : BI M) : BI (fBs5 c np M) ∧ M 0 77 ≤ fBs5 c np M 0 77 := by
  unfold fBs5
  split
  · exact BI_c h _ _ _ _
  · exact ⟨h, Int.le_refl _⟩
theorem BI_s6 (c np : Int) {M : Mem} (h : BI M) : BI (fBs6 c np M) ∧ M 0 77 ≤ fBs6 c np M 0 77 := by
  unfold fBs6
  split
  · exact BI_c h _ _ _ _
  · exact ⟨h, Int.le_refl _⟩
theorem BI_s7 (c np : Int) {M : Mem} (h : BI M) : BI (fBs7 c np M) ∧ M 0 77 ≤ fBs7 c np M 0 77 := by
  unfold fBs7
  split
  · exact BI_c h _ _ _ _
  · exact ⟨h, Int.le_refl _⟩
theorem BI_s8 (c np : Int) {M : Mem} (h : BI M) : BI (fBs8 c np M) ∧ M 0 77 ≤ fBs8 c np M 0 77 := by
  unfold fBs8
  split
  · exact BI_c h _ _ _ _
  · exact ⟨h, Int.le_refl _⟩
theorem BI_s9 (c np : Int) {M : Mem} (h : BI M) : BI (fBs9 c np M) ∧ M 0 77 ≤ fBs9 c np M 0 77 := by
  unfold fBs9
  split
  · exact BI_c h _ _ _ _
  · exact ⟨h, Int.le_refl _⟩
theorem BI_s10 (c np : Int) {M : Mem} (h : BI M) : BI (fBs10 c np M) ∧ M 0 77 ≤ fBs10 c np M 0 77 := by
  unfold fBs10
  split
  · exact BI_c h _ _ _ _
  · exact ⟨h, Int.le_refl _⟩
theorem BI_t (c : Int) {M : Mem} (h : BI M) : BI (fBt c M) ∧ M 0 77 ≤ fBt c M 0 77 := by
  unfold fBt
  generalize zmax 1 (M 0 77) = np
  have a1 := BI_s1 c np h
  have a2 := BI_s2 c np a1.1
  have a3 := BI_s3 c np a2.1
  have a4 := BI_s4 c np a3.1
  have a5 := BI_s5 c np a4.1
  have a6 := BI_s6 c np a5.1
  have a7 := BI_s7 c np a6.1
  have a8 := BI_s8 c np a7.1
  have a9 := BI_s9 c np a8.1
  have a10 := BI_s10 c np a9.1
  exact ⟨a10.1, by omega⟩
theorem BI_B3 (xs : Nat → Int32) (L : Nat) : ∀ (f : Nat) (k : Int) (M : Mem), BI M → BI (fB3 xs L f k M) ∧ M 0 77 ≤ fB3 xs L f k M 0 77 := by
  intro f
  induction f with
  | zero => intro k M h; exact ⟨h, Int.le_refl _⟩
  | succ f ih =>
    intro k M h
    have a := BI_t (sAt xs L k) h
    have b := ih (k + 1) _ a.1
    exact ⟨b.1, Int.le_trans a.2 b.2⟩
/-- a new napkin, where there is room -/
theorem new_77 {M : Mem} (hC : CI M) (hn : M 0 77 ≤ 9) {c : Int} (hc : 0 ≤ c ∧ c ≤ 3) : cM M 0 c 0 0 0 77 = M 0 77 + 1 := by
  have h7 := CI_77 hC
  have hj : fX5_judge M 0 c 0 0 = (0, M) := by
    have e : fX5_judgeNew M c = 0 := by
      unfold fX5_judgeNew fX6_napkins
      rw [if_neg (by omega), if_pos (by omega), if_neg (by omega)]
    unfold fX5_judge
    rw [if_pos (by decide), e]
  unfold cM fX8_change
  rw [hj]
  rw [if_neg (show ¬ ((0 : Int), M).1 = -1 from by show ¬ (0 : Int) = -1; decide), if_neg (show ¬ ((0 : Int), M).1 = -2 from by show ¬ (0 : Int) = -2; decide), if_pos rfl]
  have p0 : (fX2_push (fX6_copyTo_b M)) 0 = M 0 := (fr_fX2_push rfl rfl).trans (fr_fX6_copyTo_b rfl)
  show (fX5_carryOut (fX2_push (fX6_copyTo_b M)) 0 c 0 0).2 0 77 = _
  unfold fX5_carryOut
  rw [if_pos (by decide)]
  show (fX6_addNapkin (fX2_push (fX6_copyTo_b M)) c).2 0 77 = _
  unfold fX6_addNapkin fX6_napkins
  rw [p0, if_neg (by omega)]
  show fX6_setOfNapkin _ 0 _ _ 0 77 = _
  rw [setN_out (by omega), mst0, up_e]
theorem BI_build (xs : Nat → Int32) (L : Nat) : BI (fL_build xs L) ∧ 1 ≤ fL_build xs L 0 77 := by
  unfold fL_build
  have q := zand_3 (sAt xs L 0)
  obtain ⟨f, hf⟩ : ∃ f : Nat, (3 + zand (sAt xs L 0) 3).toNat = f + 1 := ⟨(2 + zand (sAt xs L 0) 3).toNat, by omega⟩
  rw [hf]
  have a0 := BI_c BI_0 0 (zand (zshr (sAt xs L 0) (2 + (2 * 0))) 3) 0 0
  have q2 := zand_3 (zshr (sAt xs L 0) (2 + (2 * 0)))
  have e0 : cM M0c 0 (zand (zshr (sAt xs L 0) (2 + (2 * 0))) 3) 0 0 0 77 = 0 + 1 := new_77 KI_0.1 (by decide) ⟨q2.1, q2.2⟩
  have a1 := BI_B1 (sAt xs L 0) f (0 + 1) _ a0.1
  have a2 := BI_B2 (sAt xs L 0) 3 0 _ a1.1
  have a3 := BI_B3 xs L 12 1 _ a2.1
  refine ⟨a3.1, ?_⟩
  have e1 : fB1 (sAt xs L 0) (f + 1) 0 M0c = fB1 (sAt xs L 0) f (0 + 1) (cM M0c 0 (zand (zshr (sAt xs L 0) (2 + (2 * 0))) 3) 0 0) := rfl
  rw [e1]
  omega
