/-! THE CALLS, second part: orders, what is well, accounts, undo and the snapshot. -/
/-- the class's cells after some hearing: its row as it was -/
def Hd (Mx G : Mem) : Prop := RW (Mx 0) (G 0) ∧ SI Mx
theorem Hd_heard {Mx G : Mem} (h : Hd Mx G) (t : Int) : Hd (fX8_heard Mx t) G := ⟨by rw [fr_fX8_heard t rfl rfl rfl rfl rfl]; exact h.1, SI_heard (RW_C h.1) h.2 t⟩
theorem Hd_S {Mx G : Mem} (h : Hd Mx G) {t : Int} (ht : 0 ≤ t ∧ t < 3) : HS (fX8_heard Mx t) G t := hear_S (RW_S h.1) (RW_G h.1) ht
theorem ahd_e {Mx G : Mem} (h : Hd Mx G) {o t : Int} (ho : 0 ≤ o ∧ o < 3) (ht : 0 ≤ t ∧ t < 3) : (fX8_isTableAhead Mx o t).1 = fX9_isClearer G o t ∧ Hd (fX8_isTableAhead Mx o t).2 G := by
  have g := RW_G h.1
  have h1 := Hd_heard h o
  have h2 := Hd_heard h1 t
  have h3 := Hd_heard h2 o
  have h4 := Hd_heard h3 t
  unfold fX8_isTableAhead fX9_isClearer
  rw [phr_e g ho (Hd_S h ho), phr_e g ht (Hd_S h1 ht), dbt_e (Hd_S h2 ho), dbt_e (Hd_S h3 ht)]
  by_cases a : fX9_phrasesOf G o = fX9_phrasesOf G t
  · rw [if_pos a, if_neg (show ¬ 0 < fX9_phrasesOf G o - fX9_phrasesOf G t by omega), if_pos (show fX9_phrasesOf G o - fX9_phrasesOf G t = 0 by omega)]
    by_cases b : fX9_doubtOf G o = fX9_doubtOf G t
    · rw [if_pos b, if_neg (show ¬ 0 < fX9_doubtOf G t - fX9_doubtOf G o by omega), if_pos (show fX9_doubtOf G t - fX9_doubtOf G o = 0 by omega)]
      by_cases c : t ≤ o
      · rw [if_pos c, if_pos c]; exact ⟨rfl, h4⟩
      · rw [if_neg c, if_neg c]; exact ⟨rfl, h4⟩
    · rw [if_neg b]
      by_cases c : fX9_doubtOf G t ≤ fX9_doubtOf G o
      · rw [if_pos c, if_neg (show ¬ 0 < fX9_doubtOf G t - fX9_doubtOf G o by omega), if_neg (show ¬ fX9_doubtOf G t - fX9_doubtOf G o = 0 by omega)]; exact ⟨rfl, h4⟩
      · rw [if_neg c, if_pos (show 0 < fX9_doubtOf G t - fX9_doubtOf G o by omega)]; exact ⟨rfl, h4⟩
  · rw [if_neg a]
    by_cases c : fX9_phrasesOf G o ≤ fX9_phrasesOf G t
    · rw [if_pos c, if_neg (show ¬ 0 < fX9_phrasesOf G o - fX9_phrasesOf G t by omega), if_neg (show ¬ fX9_phrasesOf G o - fX9_phrasesOf G t = 0 by omega)]; exact ⟨rfl, h2⟩
    · rw [if_neg c, if_pos (show 0 < fX9_phrasesOf G o - fX9_phrasesOf G t by omega)]; exact ⟨rfl, h2⟩
theorem aof_L {G : Mem} {M : Mem} {t place : Int} (ht : 0 ≤ t ∧ t < 3) (K : Int → Int × Mem) : ∀ (k k' : Nat) (Mx : Mem) (c o : Int), 0 ≤ o → o ≤ 3 → 3 - o < k → 3 - o < k' → Hd Mx G → Hd (fX8_tablesAheadOf_L1 M t k Mx c o).2 G ∧ fX9_clearest_L2 G place t K k' c o = if (fX8_tablesAheadOf_L1 M t k Mx c o).1 = place then fX9_done G t else K (t + 1) := by
  intro k
  induction k with
  | zero => intro k' Mx c o _ _ _ _ _; omega
  | succ k ih =>
    intro k' Mx c o h0 h1 h2 h3 hd
    cases k' with
    | zero => omega
    | succ k' =>
      rw [fX8_tablesAheadOf_L1, fX9_clearest_L2]
      by_cases hc : 3 ≤ o
      · rw [if_pos hc, if_pos hc]
        exact ⟨hd, by split <;> rfl⟩
      · rw [if_neg hc, if_neg hc]
        obtain ⟨e, hd2⟩ := ahd_e hd (o := o) (t := t) ⟨h0, by omega⟩ ht
        rw [e]
        by_cases hz : fX9_isClearer G o t = 0
        · rw [if_pos hz, if_pos hz, Int.add_zero]
          exact ih _ _ _ _ (by omega) (by omega) (by omega) (by omega) hd2
        · rw [if_neg hz, if_neg hz]
          exact ih _ _ _ _ (by omega) (by omega) (by omega) (by omega) hd2
theorem clr_L {C G M : Mem} (place : Int) : ∀ (k k' : Nat) (Mx : Mem) (t : Int), 0 ≤ t → t ≤ 3 → 3 - t < k → 3 - t < k' → Hd Mx G → Hd (fX8_clearest_L1 M place k Mx t).2.2 G ∧ (((fX8_clearest_L1 M place k Mx t).1 = 0 ∧ fX9_clearest_L1 G place k' t = fX9_done G (fX8_clearest_L1 M place k Mx t).2.1) ∨ ((fX8_clearest_L1 M place k Mx t).1 = 4 ∧ fX9_clearest_L1 G place k' t = fX9_fails G 1)) := by
  intro k
  induction k with
  | zero => intro k' Mx t _ _ _ _ _; omega
  | succ k ih =>
    intro k' Mx t h0 h1 h2 h3 hd
    cases k' with
    | zero => omega
    | succ k' =>
      rw [fX8_clearest_L1, fX9_clearest_L1]
      by_cases hc : 3 ≤ t
      · rw [if_pos hc, if_pos hc]
        exact ⟨hd, Or.inr ⟨rfl, rfl⟩⟩
      · rw [if_neg hc, if_neg hc]
        obtain ⟨a, b⟩ := aof_L (M := Mx) (place := place) ⟨h0, by omega⟩ (fun x0 => fX9_clearest_L1 G place k' x0) 4 4 Mx 0 0 (by decide) (by decide) (by decide) (by decide) hd
        rw [b]
        unfold fX8_tablesAheadOf
        by_cases hp : (fX8_tablesAheadOf_L1 Mx t 4 Mx 0 0).1 = place
        · rw [if_pos hp, if_pos hp]
          exact ⟨a, Or.inl ⟨rfl, rfl⟩⟩
        · rw [if_neg hp, if_neg hp]
          exact ih _ _ _ (by omega) (by omega) (by omega) (by omega) a
theorem s_clearest {C G : Mem} (h : RelR C G) (p : Int) : Same (fX8_clearest C p) (fX9_clearest G p) [4] := by
  obtain ⟨a, b⟩ := clr_L (C := C) (M := C) (G := G) p 4 4 C 0 (by decide) (by decide) (by decide) (by decide) ⟨h.1, h.2.1⟩
  have hr : RelR (fX8_clearest C p).2.2 G := RelR_q h a.2 (fun r hm => by obtain ⟨a1, a2, a3, a4, a7, -⟩ := mmH r hm; exact fr_fX8_clearest p a1 a2 a3 a4 a7)
  have e1 : fX8_clearest C p = fX8_clearest_L1 C p 4 C 0 := rfl
  have e2 : fX9_clearest G p = fX9_clearest_L1 G p 4 0 := rfl
  rw [e1] at hr ⊢
  rw [e2]
  rcases b with ⟨b1, b2⟩ | ⟨b1, b2⟩
  · rw [b2]
    refine ⟨RelR_done hr _, ?_, fun _ => rfl⟩
    rw [b1]
    exact al_0 rfl
  · rw [b2]
    refine ⟨RelR_fails hr _, ?_, fun q => by rw [b1] at q; exact absurd q (by decide)⟩
    rw [b1]
    exact al_1 rfl
theorem nah_e {C G : Mem} (h : RW (C 0) (G 0)) {o n : Int} (ho : 0 ≤ o ∧ o < 10) (hn : 0 ≤ n ∧ n < 10) : fX8_isNapkinAhead C o n = fX9_isMoreWorn G o n := by
  have q1 := SR_j (RW_S h) o ho.1 ho.2
  have q2 := SR_j (RW_S h) n hn.1 hn.2
  unfold fX8_isNapkinAhead fX9_isMoreWorn fX6_creasesOf fX6_stainsOf
  rw [ofN_e ho.1 ho.2, ofN_e hn.1 hn.2, ofN_e ho.1 ho.2, ofN_e hn.1 hn.2, q1.2.2.1, q2.2.2.1, q1.2.2.2.1, q2.2.2.2.1]
  (repeat' split) <;> omega
theorem nof_L {C G : Mem} (h : RW (C 0) (G 0)) {n place : Int} (hn : 0 ≤ n ∧ n < 10) (K : Int → Int × Mem) : ∀ (k k' : Nat) (c o : Int), 0 ≤ o → o ≤ G 0 0 → G 0 0 - o < k → G 0 0 - o < k' → fX9_worn_L2 G place n K k' c o = if fX8_napkinsAheadOf_L1 C n k c o = place then fX9_done G n else K (n + 1) := by
  have z := SR_n (RW_S h)
  intro k
  induction k with
  | zero => intro k' c o _ _ _ _; omega
  | succ k ih =>
    intro k' c o h0 h1 h2 h3
    cases k' with
    | zero => omega
    | succ k' =>
      rw [fX8_napkinsAheadOf_L1, fX9_worn_L2]
      unfold fX6_napkins
      rw [z.1]
      by_cases hc : G 0 0 ≤ o
      · rw [if_pos hc, if_pos hc]
      · rw [if_neg hc, if_neg hc, nah_e h ⟨h0, by omega⟩ hn]
        by_cases hz : fX9_isMoreWorn G o n = 0
        · rw [if_pos hz, if_pos hz, Int.add_zero]
          exact ih _ _ _ (by omega) (by omega) (by omega) (by omega)
        · rw [if_neg hz, if_neg hz]
          exact ih _ _ _ (by omega) (by omega) (by omega) (by omega)
theorem wrn_L {C G : Mem} (h : RW (C 0) (G 0)) (place : Int) : ∀ (k k' : Nat) (n : Int), 0 ≤ n → n ≤ G 0 0 → G 0 0 - n < k → G 0 0 - n < k' → (((fX8_worn_L1 C place k n).1 = 0 ∧ fX9_worn_L1 G place k' n = fX9_done G (fX8_worn_L1 C place k n).2) ∨ ((fX8_worn_L1 C place k n).1 = 4 ∧ fX9_worn_L1 G place k' n = fX9_fails G 1)) := by
  have z := SR_n (RW_S h)
  intro k
  induction k with
  | zero => intro k' n _ _ _ _; omega
  | succ k ih =>
    intro k' n h0 h1 h2 h3
    cases k' with
    | zero => omega
    | succ k' =>
      rw [fX8_worn_L1, fX9_worn_L1]
      unfold fX6_napkins
      rw [z.1]
      by_cases hc : G 0 0 ≤ n
      · rw [if_pos hc, if_pos hc]
        exact Or.inr ⟨rfl, rfl⟩
      · rw [if_neg hc, if_neg hc, nof_L h ⟨h0, by omega⟩ (fun x0 => fX9_worn_L1 G place k' x0) 12 12 0 0 (by decide) z.2.1 (by omega) (by omega)]
        unfold fX8_napkinsAheadOf
        by_cases hp : fX8_napkinsAheadOf_L1 C n 12 0 0 = place
        · rw [if_pos hp, if_pos hp]
          exact Or.inl ⟨rfl, rfl⟩
        · rw [if_neg hp, if_neg hp]
          exact ih _ _ (by omega) (by omega) (by omega) (by omega)
theorem s_worn {C G : Mem} (h : RelR C G) (p : Int) : Same ((fX8_worn C p).1, (fX8_worn C p).2, C) (fX9_worn G p) [4] := by
  have z := SR_n (RW_S h.1)
  have e1 : fX8_worn C p = fX8_worn_L1 C p 12 0 := rfl
  have e2 : fX9_worn G p = fX9_worn_L1 G p 12 0 := rfl
  rw [e1, e2]
  rcases wrn_L h.1 p 12 12 0 (by decide) z.2.1 (by omega) (by omega) with ⟨b1, b2⟩ | ⟨b1, b2⟩
  · rw [b2]
    refine ⟨RelR_done h _, ?_, fun _ => rfl⟩
    show AnsL (fX8_worn_L1 C p 12 0).1 _ _
    rw [b1]
    exact al_0 rfl
  · rw [b2]
    refine ⟨RelR_fails h _, ?_, fun q => by have q2 : (fX8_worn_L1 C p 12 0).1 = 0 := q; rw [b1] at q2; exact absurd q2 (by decide)⟩
    show AnsL (fX8_worn_L1 C p 12 0).1 _ _
    rw [b1]
    exact al_1 rfl
/-! what is well -/
theorem plu_0 {C G : Mem} (h : RW (C 0) (G 0)) (n c0 : Int) {t : Int} (ht : 0 ≤ t ∧ t < 3) (K : Int → Int → Int) : ∀ (k : Nat) (c p : Int), 0 ≤ p → G 0 (55 + t) - p < k → 0 < (k : Int) → (∀ q : Int, p ≤ q → q < G 0 (55 + t) → ¬ G 0 (64 + 6 * t + q) = n) → fX6_placesUnder_L2 C n c0 t K k c p = K c (t + 1) := by
  have l6 := RW_6 h t ht.1 ht.2
  have el : fX6_laidOn C t = G 0 (55 + t) := by rw [laid_e ht]; exact (SR_t (RW_S h) t ht.1 ht.2).1
  intro k
  induction k with
  | zero => intro c p _ _ h; exact absurd h (by decide)
  | succ k ih =>
    intro c p h0 h1 _ hq
    rw [fX6_placesUnder_L2, el]
    by_cases hc : G 0 (55 + t) ≤ p
    · rw [if_pos hc]
    · have s := SR_s (RW_S h) t p ht.1 ht.2 h0 (by omega)
      rw [if_neg hc, seated_e ht (by omega), s.1, if_neg (hq p (Int.le_refl _) (by omega))]
      exact ih _ _ (by omega) (by omega) (by omega) (fun q a b => hq q (by omega) b)
theorem plu_01 {C G : Mem} (h : RW (C 0) (G 0)) (n : Int) : ∀ (k : Nat) (c t : Int), 0 ≤ t → t ≤ 3 → 3 - t < k → (∀ u q : Int, t ≤ u → u < 3 → 0 ≤ q → q < G 0 (55 + u) → ¬ G 0 (64 + 6 * u + q) = n) → fX6_placesUnder_L1 C n k c t = c := by
  intro k
  induction k with
  | zero => intro c t _ _ _; omega
  | succ k ih =>
    intro c t h0 h1 h2 hq
    rw [fX6_placesUnder_L1]
    by_cases hc : 3 ≤ t
    · rw [if_pos hc]
    · have l6 := RW_6 h t h0 (by omega)
      rw [if_neg hc, plu_0 h n c ⟨h0, by omega⟩ _ 7 c 0 (by decide) (by omega) (by decide) (fun q a b => hq t q (Int.le_refl _) (by omega) a b)]
      exact ih _ _ (by omega) (by omega) (by omega) (fun u q a b d e => hq u q (by omega) b d e)
theorem plu_2 {C G : Mem} (h : RW (C 0) (G 0)) (n c0 : Int) {t : Int} (ht : 0 ≤ t ∧ t < 3) (k1 : Nat) (hk1 : 3 - (t + 1) < k1) (ih1 : fX6_placesUnder_L1 C n k1 0 (t + 1) ≤ 1) : ∀ (k : Nat) (p : Int), 0 ≤ p → G 0 (55 + t) - p < k → 0 < (k : Int) → fX6_placesUnder_L2 C n c0 t (fun x0 x1 => fX6_placesUnder_L1 C n k1 x0 x1) k 0 p ≤ 1 := by
  have l6 := RW_6 h t ht.1 ht.2
  have el : fX6_laidOn C t = G 0 (55 + t) := by rw [laid_e ht]; exact (SR_t (RW_S h) t ht.1 ht.2).1
  intro k
  induction k with
  | zero => intro p _ _ h; exact absurd h (by decide)
  | succ k ih =>
    intro p h0 h1 _
    rw [fX6_placesUnder_L2, el]
    by_cases hc : G 0 (55 + t) ≤ p
    · rw [if_pos hc]
      exact ih1
    · have s := SR_s (RW_S h) t p ht.1 ht.2 h0 (by omega)
      rw [if_neg hc, seated_e ht (by omega), s.1]
      by_cases hn : G 0 (64 + 6 * t + p) = n
      · rw [if_pos hn, plu_0 h n c0 ht _ k _ _ (by omega) (by omega) (by omega) (fun q a b e => ?_), plu_01 h n k1 _ _ (by omega) (by omega) hk1 (fun u q a b d e f => ?_)]
        · omega
        · have := SR_u (RW_S h) u q t p (by omega) b d e ht.1 ht.2 h0 (by omega) (f.trans hn.symm)
          omega
        · have := SR_u (RW_S h) t q t p ht.1 ht.2 (by omega) b ht.1 ht.2 h0 (by omega) (e.trans hn.symm)
          omega
      · rw [if_neg hn]
        exact ih _ (by omega) (by omega) (by omega)
theorem plu_1 {C G : Mem} (h : RW (C 0) (G 0)) (n : Int) : ∀ (k : Nat) (t : Int), 0 ≤ t → t ≤ 3 → 3 - t < k → fX6_placesUnder_L1 C n k 0 t ≤ 1 := by
  intro k
  induction k with
  | zero => intro t _ _ _; omega
  | succ k ih =>
    intro t h0 h1 h2
    rw [fX6_placesUnder_L1]
    by_cases hc : 3 ≤ t
    · rw [if_pos hc]; decide
    · have l6 := RW_6 h t h0 (by omega)
      rw [if_neg hc]
      exact plu_2 h n 0 ⟨h0, by omega⟩ k (by omega) (ih (t + 1) (by omega) (by omega) (by omega)) 7 0 (by decide) (by omega) (by decide)
theorem wel_2 {M Mx G : Mem} (h : Hd Mx G) (tab : Int) : ∀ (k : Nat) (n : Int), 0 ≤ n → G 0 0 - n < k → 0 < (k : Int) → fX8_isWell_L2 M Mx tab k n = (1, Mx) := by
  have z := SR_n (RW_S h.1)
  intro k
  induction k with
  | zero => intro n _ _ h; exact absurd h (by decide)
  | succ k ih =>
    intro n h0 h1 _
    rw [fX8_isWell_L2]
    unfold fX6_napkins
    rw [z.1]
    by_cases hc : G 0 0 ≤ n
    · rw [if_pos hc]
    · rw [if_neg hc, if_pos (show fX6_placesUnder Mx n ≤ 1 from plu_1 h.1 n 4 0 (by decide) (by decide) (by decide))]
      exact ih _ (by omega) (by omega) (by omega)
theorem wel_1 {M G : Mem} : ∀ (k : Nat) (Mx : Mem) (t : Int), 0 ≤ t → t ≤ 3 → 3 - t < k → Hd Mx G → (fX8_isWell_L1 M k Mx t).1 = 1 ∧ Hd (fX8_isWell_L1 M k Mx t).2 G := by
  intro k
  induction k with
  | zero => intro Mx t _ _ _ _; omega
  | succ k ih =>
    intro Mx t h0 h1 h2 hd
    have z := SR_n (RW_S hd.1)
    rw [fX8_isWell_L1]
    by_cases hc : 3 ≤ t
    · rw [if_pos hc, wel_2 hd t 12 0 (by decide) (by omega) (by decide)]
      exact ⟨rfl, hd⟩
    · have ht : 0 ≤ t ∧ t < 3 := ⟨h0, by omega⟩
      have hd1 := Hd_heard hd t
      obtain ⟨a, b⟩ := told_e (RW_G hd.1) ht (Hd_S hd ht)
      have hd2 : Hd (fX4_isToldAlike (fX8_heard Mx t)).2 G := ⟨by rw [fr_fX4_isToldAlike rfl rfl]; exact hd1.1, SI_of (fr_fX4_isToldAlike rfl rfl) (fr_fX4_isToldAlike rfl rfl) (fr_fX4_isToldAlike rfl rfl) (fr_fX4_isToldAlike rfl rfl) (fr_fX4_isToldAlike rfl rfl) hd1.2⟩
      rw [if_neg hc, if_neg (by rw [a]; decide), if_pos (cnt_0 (RW_G hd.1) ht b)]
      exact ih _ _ (by omega) (by omega) (by omega) hd2
theorem s_isWell {C G : Mem} (h : RelR C G) : RelR (fX8_isWell C).2 (fX9_isWell G).2 ∧ (fX8_isWell C).1 = 1 ∧ (fX9_isWell G).1 = 1 := by
  obtain ⟨a, b⟩ := wel_1 (M := C) (G := G) 4 C 0 (by decide) (by decide) (by decide) ⟨h.1, h.2.1⟩
  refine ⟨RelR_26 (RelR_q h b.2 (fun r hm => ?_)) 0, a, rfl⟩
  obtain ⟨a1, a2, a3, a4, a7, a5, a6⟩ := mmH r hm
  exact fr_fX8_isWell a1 a2 a3 a4 a5 a6 a7
/-! accounts -/
theorem sumL {C G : Mem} (h : RW (C 0) (G 0)) {f f' : Int} (hf : ∀ j : Int, 0 ≤ j → j < 10 → C 0 (f + j) = G 0 (f' + j)) (hz : ∀ j : Int, G 0 0 ≤ j → j < 10 → G 0 (f' + j) = 0) (hf0 : f ≤ 40) : ∀ (k k' : Nat) (s j : Int), 0 ≤ j → j ≤ 10 → 10 - j < k → 10 - j < k' → fX6_sumOf_L1 C f 10 k s (f + j) = fX9_sumOf_L1 G f' k' s j := by
  have z := SR_n (RW_S h)
  intro k
  induction k with
  | zero => intro k' s j _ _ _ _; omega
  | succ k ih =>
    intro k' s j h0 h1 h2 h3
    cases k' with
    | zero => omega
    | succ k' =>
      rw [fX6_sumOf_L1]
      by_cases hc : f + 10 ≤ f + j
      · rw [if_pos hc, fX9_sumOf_L1, if_pos (by omega)]
      · rw [if_neg hc, if_neg (by omega), hf j h0 (by omega), show f + j + 1 = f + (j + 1) by omega]
        by_cases hg : G 0 0 ≤ j
        · rw [hz j hg (by omega), Int.add_zero, ih k' s (j + 1) (by omega) (by omega) (by omega) (by omega), fX9_sumOf_L1, if_pos hg]
          cases k' with
          | zero => omega
          | succ k' => rw [fX9_sumOf_L1, if_pos (by omega)]
        · rw [fX9_sumOf_L1, if_neg hg]
          exact ih k' _ (j + 1) (by omega) (by omega) (by omega) (by omega)
theorem sum_cr {C G : Mem} (h : RW (C 0) (G 0)) : fX6_creasesSum C = fX9_sumOf G 25 := by
  have q := sumL h (f := 20) (f' := 25) (fun j a b => (SR_j (RW_S h) j a b).2.2.1) (fun j a b => (SR_z (RW_S h) j a b).2.1) (by decide) 11 12 0 0 (by decide) (by decide) (by decide) (by decide)
  exact q
theorem sum_st {C G : Mem} (h : RW (C 0) (G 0)) : fX6_stainsSum C = fX9_sumOf G 35 := by
  have q := sumL h (f := 30) (f' := 35) (fun j a b => (SR_j (RW_S h) j a b).2.2.2.1) (fun j a b => (SR_z (RW_S h) j a b).2.2.1) (by decide) 11 12 0 0 (by decide) (by decide) (by decide) (by decide)
  exact q
theorem fol_L {C G : Mem} (h : RW (C 0) (G 0)) : ∀ (k k' : Nat) (s j : Int), 0 ≤ j → j ≤ G 0 0 → G 0 0 - j < k → G 0 0 - j < k' → fX6_foldedCount_L1 C k s j = fX9_folded_L1 G k' s j := by
  have z := SR_n (RW_S h)
  intro k
  induction k with
  | zero => intro k' s j _ _ _ _; omega
  | succ k ih =>
    intro k' s j h0 h1 h2 h3
    cases k' with
    | zero => omega
    | succ k' =>
      rw [fX6_foldedCount_L1, fX9_folded_L1]
      unfold fX6_napkins fX6_foldOf
      rw [z.1]
      by_cases hc : G 0 0 ≤ j
      · rw [if_pos hc, if_pos hc]
      · have w := RW_1525 h (n := j) ⟨h0, by omega⟩
        rw [if_neg hc, if_neg hc, ofN_e h0 (by omega), (SR_j (RW_S h) j h0 (by omega)).2.1]
        by_cases hf : G 0 (15 + j) = 0
        · rw [if_pos hf, if_pos (by omega), Int.add_zero]
          exact ih _ _ _ (by omega) (by omega) (by omega) (by omega)
        · rw [if_neg hf, if_neg (by omega)]
          exact ih _ _ _ (by omega) (by omega) (by omega) (by omega)
theorem fol_e {C G : Mem} (h : RW (C 0) (G 0)) : fX6_foldedCount C = fX9_folded G := by
  have z := SR_n (RW_S h)
  exact fol_L h 11 12 0 0 (by decide) z.2.1 (by omega) (by omega)
theorem rgt_L {G M : Mem} : ∀ (k k' : Nat) (Mx : Mem) (c t : Int), 0 ≤ t → t ≤ 3 → 3 - t < k → 3 - t < k' → Hd Mx G → (fX8_rightTables_L1 M k Mx c t).1 = fX9_rightTables_L1 G k' c t ∧ Hd (fX8_rightTables_L1 M k Mx c t).2 G := by
  intro k
  induction k with
  | zero => intro k' Mx c t _ _ _ _ _; omega
  | succ k ih =>
    intro k' Mx c t h0 h1 h2 h3 hd
    cases k' with
    | zero => omega
    | succ k' =>
      rw [fX8_rightTables_L1, fX9_rightTables_L1]
      by_cases hc : 3 ≤ t
      · rw [if_pos hc, if_pos hc]
        exact ⟨rfl, hd⟩
      · rw [if_neg hc, if_neg hc, whole_e (Hd_S hd ⟨h0, by omega⟩)]
        by_cases hz : fX9_rightly G t = 0
        · rw [if_pos hz, if_pos hz, Int.add_zero]
          exact ih _ _ _ _ (by omega) (by omega) (by omega) (by omega) (Hd_heard hd t)
        · rw [if_neg hz, if_neg hz]
          exact ih _ _ _ _ (by omega) (by omega) (by omega) (by omega) (Hd_heard hd t)
theorem lai_e (C : Mem) : fX6_laidCount C = C 0 68 + C 0 69 + C 0 70 := by
  unfold fX6_laidCount fX6_sumOf
  rw [fX6_sumOf_L1, if_neg (by decide), if_neg (by decide), fX6_sumOf_L1, if_neg (by decide), if_neg (by decide), fX6_sumOf_L1, if_neg (by decide), if_neg (by decide), fX6_sumOf_L1, if_pos (by decide), Int.zero_add]
  rfl
theorem puz_e (C : Mem) : fX6_puzzlesSum C = C 0 74 + C 0 75 + C 0 76 := by
  unfold fX6_puzzlesSum fX6_sumOf
  rw [fX6_sumOf_L1, if_neg (by decide), if_neg (by decide), fX6_sumOf_L1, if_neg (by decide), if_neg (by decide), fX6_sumOf_L1, if_neg (by decide), if_neg (by decide), fX6_sumOf_L1, if_pos (by decide), Int.zero_add]
  rfl
theorem fld_e (C : Mem) : fX6_foldingsSum C = C 0 40 + C 0 41 + C 0 42 + C 0 43 + C 0 44 + C 0 45 + C 0 46 + C 0 47 + C 0 48 + C 0 49 := by
  unfold fX6_foldingsSum fX6_sumOf
  rw [fX6_sumOf_L1, if_neg (by decide), if_neg (by decide), fX6_sumOf_L1, if_neg (by decide), if_neg (by decide), fX6_sumOf_L1, if_neg (by decide), if_neg (by decide), fX6_sumOf_L1, if_neg (by decide), if_neg (by decide), fX6_sumOf_L1, if_neg (by decide), if_neg (by decide), fX6_sumOf_L1, if_neg (by decide), if_neg (by decide), fX6_sumOf_L1, if_neg (by decide), if_neg (by decide), fX6_sumOf_L1, if_neg (by decide), if_neg (by decide), fX6_sumOf_L1, if_neg (by decide), if_neg (by decide), fX6_sumOf_L1, if_neg (by decide), if_neg (by decide), fX6_sumOf_L1, if_pos (by decide), Int.zero_add]
  rfl
theorem s_account {C G : Mem} (h : RelR C G) (what : Int) : Same (fX8_account C what) (fX9_account G what) [2] := by
  have z := SR_n (RW_S h.1)
  have m := SR_m (RW_S h.1)
  unfold fX8_account fX9_account
  by_cases h0 : what = 0
  · rw [if_pos h0, if_pos h0]
    exact sm_d2 h z.1
  rw [if_neg h0, if_neg h0]
  by_cases h1 : what = 1
  · rw [if_pos h1, if_pos h1]
    exact sm_d2 h (fol_e h.1)
  rw [if_neg h1, if_neg h1]
  by_cases h2 : what = 2
  · rw [if_pos h2, if_pos h2]
    have t0 := (SR_t (RW_S h.1) 0 (by decide) (by decide)).1
    have t1 := (SR_t (RW_S h.1) 1 (by decide) (by decide)).1
    have t2 := (SR_t (RW_S h.1) 2 (by decide) (by decide)).1
    have e0 : C 0 68 = G 0 55 := t0
    have e1 : C 0 69 = G 0 56 := t1
    have e2 : C 0 70 = G 0 57 := t2
    exact sm_d2 h (by rw [lai_e, e0, e1, e2])
  rw [if_neg h2, if_neg h2]
  by_cases h3 : what = 3
  · rw [if_pos h3, if_pos h3]
    exact sm_d2 h (sum_cr h.1)
  rw [if_neg h3, if_neg h3]
  by_cases h4 : what = 4
  · rw [if_pos h4, if_pos h4]
    exact sm_d2 h (sum_st h.1)
  rw [if_neg h4, if_neg h4]
  by_cases h5 : what = 5
  · rw [if_pos h5, if_pos h5]
    obtain ⟨a, b⟩ := rgt_L (M := C) (G := G) 4 4 C 0 0 (by decide) (by decide) (by decide) (by decide) ⟨h.1, h.2.1⟩
    have hr : RelR (fX8_rightTables C).2 G := RelR_q h b.2 (fun r hm => by obtain ⟨a1, a2, a3, a4, a7, -⟩ := mmH r hm; exact fr_fX8_rightTables a1 a2 a3 a4 a7)
    exact sm_d2 hr a
  rw [if_neg h5, if_neg h5]
  by_cases h6 : what = 6
  · rw [if_pos h6, if_pos h6]
    exact sm_d2 h (by rw [show (1 : Int) + what - 6 = 1 by omega]; exact m.1)
  rw [if_neg h6, if_neg h6]
  by_cases h7 : what = 7
  · rw [if_pos h7, if_pos h7]
    have t0 := (SR_t (RW_S h.1) 0 (by decide) (by decide)).2.2
    have t1 := (SR_t (RW_S h.1) 1 (by decide) (by decide)).2.2
    have t2 := (SR_t (RW_S h.1) 2 (by decide) (by decide)).2.2
    have e0 : C 0 74 = G 0 61 := t0
    have e1 : C 0 75 = G 0 62 := t1
    have e2 : C 0 76 = G 0 63 := t2
    exact sm_d2 h (by rw [puz_e, e0, e1, e2, show (1 : Int) + what - 6 = 2 by omega]; exact m.2.2.1.symm)
  rw [if_neg h7, if_neg h7]
  by_cases h8 : what = 8
  · rw [if_pos h8, if_pos h8]
    have sj := fun (j : Int) (a : 0 ≤ j) (b : j < 10) => (SR_j (RW_S h.1) j a b).2.2.2.2
    have e0 : C 0 40 = G 0 45 := sj 0 (by decide) (by decide)
    have e1 : C 0 41 = G 0 46 := sj 1 (by decide) (by decide)
    have e2 : C 0 42 = G 0 47 := sj 2 (by decide) (by decide)
    have e3 : C 0 43 = G 0 48 := sj 3 (by decide) (by decide)
    have e4 : C 0 44 = G 0 49 := sj 4 (by decide) (by decide)
    have e5 : C 0 45 = G 0 50 := sj 5 (by decide) (by decide)
    have e6 : C 0 46 = G 0 51 := sj 6 (by decide) (by decide)
    have e7 : C 0 47 = G 0 52 := sj 7 (by decide) (by decide)
    have e8 : C 0 48 = G 0 53 := sj 8 (by decide) (by decide)
    have e9 : C 0 49 = G 0 54 := sj 9 (by decide) (by decide)
    exact sm_d2 h (by rw [fld_e, e0, e1, e2, e3, e4, e5, e6, e7, e8, e9, show (1 : Int) + what - 6 = 3 by omega]; exact m.2.2.2.symm)
  rw [if_neg h8, if_neg h8]
  by_cases h9 : what = 9
  · rw [if_pos h9, if_pos h9]
    exact sm_d2 h (by rw [show (1 : Int) + what - 6 = 4 by omega]; exact m.2.1)
  rw [if_neg h9, if_neg h9]
  by_cases h10 : what = 10
  · rw [if_pos h10, if_pos h10]
    exact sm_d2 h h.2.2.2.2.1.2.2.2.1
  rw [if_neg h10, if_neg h10]
  by_cases h11 : what = 11
  · rw [if_pos h11, if_pos h11]
    exact sm_d2 h h.2.2.1.1.1
  rw [if_neg h11, if_neg h11]
  exact sm_f1 h (by decide)
theorem s_meanStains {C G : Mem} (h : RelR C G) : RelR C (fX9_meanStains G).2 ∧ AnsL (fX8_meanStains C).1 [6] ((fX9_meanStains G).2 26 0) ∧ ((fX8_meanStains C).1 = 0 → (fX8_meanStains C).2 = (fX9_meanStains G).1) := by
  have z := SR_n (RW_S h.1)
  unfold fX8_meanStains fX9_meanStains fX6_napkins
  rw [z.1]
  by_cases hc : G 0 0 = 0
  · rw [if_pos hc, if_pos hc]
    exact ⟨RelR_26 h 1, al_1 rfl, fun q => absurd (show (6 : Int) = 0 from q) (by decide)⟩
  · rw [if_neg hc, if_neg hc, sum_st h.1]
    exact ⟨RelR_26 h 0, al_0 rfl, fun _ => rfl⟩
theorem s_foldedShare {C G : Mem} (h : RelR C G) : RelR C (fX9_foldedShare G).2 ∧ AnsL (fX8_foldedShare C).1 [6] ((fX9_foldedShare G).2 26 0) ∧ ((fX8_foldedShare C).1 = 0 → (fX8_foldedShare C).2 = (fX9_foldedShare G).1) := by
  have z := SR_n (RW_S h.1)
  unfold fX8_foldedShare fX9_foldedShare fX6_napkins
  rw [z.1]
  by_cases hc : G 0 0 = 0
  · rw [if_pos hc, if_pos hc]
    exact ⟨RelR_26 h 1, al_1 rfl, fun q => absurd (show (6 : Int) = 0 from q) (by decide)⟩
  · rw [if_neg hc, if_neg hc, fol_e h.1]
    exact ⟨RelR_26 h 0, al_0 rfl, fun _ => rfl⟩
