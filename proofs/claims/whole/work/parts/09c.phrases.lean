/-! PHRASES: where it goes wrong, by phrases; where a phrase begins, its mood, whether it agrees. -/
theorem fold_out {N : Mem} {i : Int} (h : N 7 0 ≤ i) : fX4_foldAt N i = 0 := by
  unfold fX4_foldAt
  (repeat' split) <;> first | rfl | omega
theorem crown_L (N : Mem) (n : Int) (hn : N 7 0 = n) (st : Int) : ∀ (k : Nat) (i : Int), i ≤ n → n - i < k → i ≤ fX4_crownFrom_L1 N st k i ∧ fX4_crownFrom_L1 N st k i ≤ n ∧ (∀ j : Int, i ≤ j → j < fX4_crownFrom_L1 N st k i → ¬ fX4_foldAt N j = 4) ∧ (fX4_crownFrom_L1 N st k i = n ∨ fX4_foldAt N (fX4_crownFrom_L1 N st k i) = 4) := by
  intro k
  induction k with
  | zero => intro i _ h; omega
  | succ k ih =>
    intro i h1 h2
    rw [fX4_crownFrom_L1, hn]
    by_cases hc : n ≤ i
    · rw [if_pos hc]
      exact ⟨Int.le_refl _, h1, fun j a b => by omega, Or.inl (by omega)⟩
    · rw [if_neg hc]
      by_cases hf : fX4_foldAt N i = 4
      · rw [if_pos hf]
        exact ⟨Int.le_refl _, h1, fun j a b => by omega, Or.inr hf⟩
      · rw [if_neg hf]
        obtain ⟨a, b, c, d⟩ := ih (i + 1) (by omega) (by omega)
        refine ⟨by omega, b, fun j x y => ?_, d⟩
        by_cases hj : j = i
        · rw [hj]; exact hf
        · exact c j (by omega) y
theorem mood_L (N : Mem) (n : Int) (hn : N 7 0 = n) (st : Int) : ∀ (k : Nat) (i : Int), i ≤ n → n - i < k → i ≤ fX4_moodFrom_L1 N st k i ∧ fX4_moodFrom_L1 N st k i ≤ n ∧ (∀ j : Int, i ≤ j → j < fX4_moodFrom_L1 N st k i → fX4_foldAt N j = 1) ∧ (fX4_moodFrom_L1 N st k i = n ∨ ¬ fX4_foldAt N (fX4_moodFrom_L1 N st k i) = 1) := by
  intro k
  induction k with
  | zero => intro i _ h; omega
  | succ k ih =>
    intro i h1 h2
    rw [fX4_moodFrom_L1, hn]
    by_cases hc : n ≤ i
    · rw [if_pos hc]
      exact ⟨Int.le_refl _, h1, fun j a b => by omega, Or.inl (by omega)⟩
    · rw [if_neg hc]
      by_cases hf : fX4_foldAt N i = 1
      · rw [if_pos hf]
        obtain ⟨a, b, c, d⟩ := ih (i + 1) (by omega) (by omega)
        refine ⟨by omega, b, fun j x y => ?_, d⟩
        by_cases hj : j = i
        · rw [hj]; exact hf
        · exact c j (by omega) y
      · rw [if_neg hf]
        exact ⟨Int.le_refl _, h1, fun j a b => by omega, Or.inr hf⟩
/-- the model's way from i on, in the state s -/
def Wf (G : Mem) (t s i : Int) : Int := fX9_wrongAt_L1 G t 8 s i
theorem wfu_L {N G : Mem} {t : Int} (h : HS N G t) (k k' : Nat) (s i : Int) (h0 : 0 ≤ i) (h1 : i ≤ fX9_countOf G t 0) (h2 : fX9_countOf G t 0 - i < k) (h3 : fX9_countOf G t 0 - i < k') (hs : 0 ≤ s ∧ s ≤ 3) : fX9_wrongAt_L1 G t k s i = fX9_wrongAt_L1 G t k' s i := by
  have a := err_L h 8 k s s i h0 h1 (by have := h.2.1; omega) h2 (Or.inl ⟨rfl, hs⟩) (by omega)
  have b := err_L h 8 k' s s i h0 h1 (by have := h.2.1; omega) h3 (Or.inl ⟨rfl, hs⟩) (by omega)
  exact a.symm.trans b
theorem Wf_end {N G : Mem} {t : Int} (h : HS N G t) (s : Int) : Wf G t s (fX9_countOf G t 0) = if fX9_isEnd s = 0 then fX9_countOf G t 0 else -1 := by
  unfold Wf
  rw [fX9_wrongAt_L1, if_pos (Int.le_refl _)]
theorem Wf_step {N G : Mem} {t : Int} (h : HS N G t) {s i : Int} (h0 : 0 ≤ i) (h1 : i < fX9_countOf G t 0) (hs : 0 ≤ s ∧ s ≤ 3) : Wf G t s i = if fX9_goesOn s (fX4_foldAt N i) = 4 then i else Wf G t (fX9_goesOn s (fX4_foldAt N i)) (i + 1) := by
  have n := h.2.1
  have q := h.2.2 i h0 h1
  rw [q.1]
  have r := rg_X9_goesOn s (fX9_foldAt G t i)
  unfold Wf
  rw [fX9_wrongAt_L1, if_neg (by omega)]
  by_cases hl : fX9_goesOn s (fX9_foldAt G t i) = 4
  · rw [if_pos hl, if_pos hl]
  · rw [if_neg hl, if_neg hl]
    exact wfu_L h 7 8 _ _ (by omega) (by omega) (by omega) (by omega) (by omega)
theorem gs_0 (f : Int) (hf : ¬ f = 1) : fX9_goesOn 0 f = 4 := by unfold fX9_goesOn; (repeat' split) <;> omega
theorem gs_1 (f : Int) (h1 : ¬ f = 1) (h2 : ¬ f = 2) : fX9_goesOn 1 f = 4 := by unfold fX9_goesOn; (repeat' split) <;> omega
theorem gs_2 (f : Int) (h1 : ¬ f = 3) (h2 : ¬ f = 4) : fX9_goesOn 2 f = 4 := by unfold fX9_goesOn; (repeat' split) <;> omega
theorem gs_3 (f : Int) (h1 : ¬ f = 4) : fX9_goesOn 3 f = 4 := by unfold fX9_goesOn; (repeat' split) <;> omega
theorem Wf_sw {N G : Mem} {t : Int} (h : HS N G t) {m : Int} (hm : m ≤ fX9_countOf G t 0) : ∀ (d : Nat) (s i : Int), m - i = d → 0 ≤ i → (s = 1 ∨ (s = 0 ∧ i < m)) → (∀ j : Int, i ≤ j → j < m → fX4_foldAt N j = 1) → Wf G t s i = Wf G t 1 m := by
  intro d
  induction d with
  | zero =>
    intro s i e h0 hs _
    rw [show s = 1 by omega, show i = m by omega]
  | succ d ih =>
    intro s i e h0 hs hj
    rw [Wf_step h h0 (by omega) (by omega), hj i (Int.le_refl _) (by omega), show fX9_goesOn s 1 = 1 from by rcases hs with rfl | ⟨rfl, -⟩ <;> rfl, if_neg (by decide)]
    exact ih 1 (i + 1) (by omega) (by omega) (Or.inl rfl) (fun j a b => hj j (by omega) b)
theorem ebp_L {N G : Mem} {t : Int} (h : HS N G t) : ∀ (k : Nat) (s ph : Int), 0 ≤ s → s ≤ fX9_countOf G t 0 → fX9_countOf G t 0 - s < k → ph ≤ s → fX4_errorByPhrases_L1 N k s ph = Wf G t 0 s := by
  have n := h.2.1
  intro k
  induction k with
  | zero => intro s ph _ _ _ _; omega
  | succ k ih =>
    intro s ph h0 h1 h2 h3
    obtain ⟨c1, c2, c3, c4⟩ := crown_L N _ h.1 s 8 s h1 (by omega)
    obtain ⟨m1, m2, m3, m4⟩ := mood_L N _ h.1 s 8 s h1 (by omega)
    rw [fX4_errorByPhrases_L1, h.1, if_neg (by omega)]
    unfold fX4_errorInPhrase fX4_crownFrom fX4_moodFrom
    generalize fX4_crownFrom_L1 N s 8 s = e at *
    generalize fX4_moodFrom_L1 N s 8 s = m at *
    have rg : ∀ i : Int, 0 ≤ i → i < fX9_countOf G t 0 → 1 ≤ fX4_foldAt N i ∧ fX4_foldAt N i ≤ 4 := fun i a b => by
      rw [(h.2.2 i a b).1]; exact (h.2.2 i a b).2.2.2.2.1
    by_cases hA : m = s
    · rw [if_pos hA, if_neg (by omega)]
      by_cases hn : s = fX9_countOf G t 0
      · rw [hA, hn, Wf_end h]
        rfl
      · rw [Wf_step h h0 (by omega) (by decide), gs_0 _ (by rw [← hA]; exact m4.resolve_left (by omega)), if_pos rfl]
        exact hA
    · rw [if_neg hA]
      have w1 : Wf G t 0 s = Wf G t 1 m := Wf_sw h m2 (m - s).toNat 0 s (by omega) h0 (Or.inr ⟨rfl, by omega⟩) m3
      rw [w1]
      by_cases hB : e ≤ m
      · rw [if_pos hB, if_neg (by omega)]
        by_cases hn : m = fX9_countOf G t 0
        · rw [hn, Wf_end h]
          rfl
        · have e4 : fX4_foldAt N e = 4 := c4.resolve_left (by omega)
          have em : e = m := by
            by_cases hx : e < m
            · have := m3 e c1 hx
              omega
            · omega
          rw [Wf_step h (by omega) (by omega) (by decide), ← em, e4]
          rfl
      · rw [if_neg hB]
        have f4 : ¬ fX4_foldAt N m = 4 := c3 m m1 (by omega)
        have f1 : ¬ fX4_foldAt N m = 1 := m4.resolve_left (by omega)
        by_cases hC : fX4_foldAt N m = 2
        · rw [if_pos hC]
          have w2 : Wf G t 1 m = Wf G t 2 (m + 1) := by
            rw [Wf_step h (by omega) (by omega) (by decide), hC]
            rfl
          rw [w2]
          -- behind the phrase: the end, or a crown
          have tail : ∀ st q : Int, (st = 2 ∨ st = 3) → e = q → 0 ≤ q → (if (-1 : Int) = -1 then if e = fX9_countOf G t 0 then -1 else fX4_errorByPhrases_L1 N k (e + 1) (ph + 1) else -1) = Wf G t st q := by
            intro st q hst hq hq0
            rw [if_pos rfl]
            by_cases hn : e = fX9_countOf G t 0
            · rw [if_pos hn, ← hq, hn, Wf_end h]
              rcases hst with rfl | rfl <;> rfl
            · rw [if_neg hn, ← hq, Wf_step h (by omega) (by omega) (by omega), c4.resolve_left hn, show fX9_goesOn st 4 = 0 from by rcases hst with rfl | rfl <;> rfl, if_neg (by decide)]
              exact ih (e + 1) (ph + 1) (by omega) (by omega) (by omega) (by omega)
          by_cases hD : e ≤ m + 1
          · rw [if_pos hD, if_pos hD]
            exact tail 2 (m + 1) (Or.inl rfl) (by omega) (by omega)
          · rw [if_neg hD]
            have g4 : ¬ fX4_foldAt N (m + 1) = 4 := c3 (m + 1) (by omega) (by omega)
            by_cases hE : fX4_foldAt N (m + 1) = 3
            · rw [if_pos hE]
              have w3 : Wf G t 2 (m + 1) = Wf G t 3 (m + 2) := by
                rw [Wf_step h (by omega) (by omega) (by decide), hE, show m + 1 + 1 = m + 2 by omega]
                rfl
              rw [w3]
              by_cases hF : e ≤ m + 1 + 1
              · rw [if_pos hF]
                exact tail 3 (m + 2) (Or.inr rfl) (by omega) (by omega)
              · rw [if_neg hF, if_neg (by omega), Wf_step h (by omega) (by omega) (by decide), gs_3 _ (c3 (m + 2) (by omega) (by omega)), if_pos rfl]
                omega
            · rw [if_neg hE, if_neg hD, if_neg (by omega), Wf_step h (by omega) (by omega) (by decide), gs_2 _ hE g4, if_pos rfl]
        · rw [if_neg hC, if_neg (by omega), Wf_step h (by omega) (by omega) (by decide), gs_1 _ f1 hC, if_pos rfl]
theorem ebp_e {N G : Mem} {t : Int} (h : HS N G t) : fX4_errorByPhrases N = fX9_wrongAt G t := by
  have n := h.2.1
  unfold fX4_errorByPhrases
  rw [ebp_L h 9 0 0 (by decide) n.1 (by omega) (by decide)]
  exact wfu_L h 8 7 0 0 (by decide) n.1 (by omega) (by omega) (by decide)
theorem told_e {N G : Mem} (hG : GI G) {t : Int} (ht : 0 ≤ t ∧ t < 3) (h : HS N G t) : (fX4_isToldAlike N).1 = 1 ∧ HS (fX4_isToldAlike N).2 G t := by
  have o : ∀ {r : Nat}, Nat.beq r 5 = false → Nat.beq r 6 = false → (fX4_fewestByPoints N).2 r = N r := fun a b => fr_fX4_fewestByPoints a b
  have o1 := o (r := 1) rfl rfl
  have o2 := o (r := 2) rfl rfl
  have o3 := o (r := 3) rfl rfl
  have o4 := o (r := 4) rfl rfl
  have o7 := o (r := 7) rfl rfl
  have hs : HS (fX4_fewestByPoints N).2 G t := by
    obtain ⟨a, b, c⟩ := h
    refine ⟨by rw [o7]; exact a, b, fun i x y => ?_⟩
    have q := c i x y
    unfold fX4_foldAt fX4_napkinAt fX4_colourAt fX4_stainsAt fX4_isNumber at q ⊢
    rw [o1, o2, o3, o4, o7]
    exact q
  unfold fX4_isToldAlike
  rw [if_pos ((err_e h).trans (ebp_e h).symm), if_pos ((few_e h).trans (pts_e hG ht h).symm), if_pos ((dbt_e hs).trans (dbf_e hs).symm)]
  exact ⟨rfl, hs⟩
/-! where a phrase begins -/
/-- behind the c-th crown -/
def posL : List Int → Nat → Int
  | _, 0 => 0
  | [], _ + 1 => 0
  | f :: r, c + 1 => 1 + (if f = 4 then posL r c else posL r (c + 1))
theorem bpos_L {G : Mem} (hG : GI G) {t : Int} (ht : 0 ≤ t ∧ t < 3) (ph : Int) : ∀ (k : Nat) (i c : Int), 0 ≤ i → i ≤ (GL G t).length → ((GL G t).length : Int) - i < k → c ≤ ph → ph - c ≤ cntL idI 4 ((FL G t).drop i.toNat) → fX9_beginOf_L1 G t ph k i c = i + posL ((FL G t).drop i.toNat) (ph - c).toNat := by
  intro k
  induction k with
  | zero => intro i c _ _ _ _ _; omega
  | succ k ih =>
    intro i c h0 h1 h2 h3 h4
    rw [fX9_beginOf_L1]
    by_cases hc : ph ≤ c
    · rw [if_pos hc, show (ph - c).toNat = 0 by omega]
      have : posL ((FL G t).drop i.toNat) 0 = 0 := by cases (FL G t).drop i.toNat <;> rfl
      omega
    · rw [if_neg hc]
      have hl : i < (GL G t).length := by
        by_cases hl : ((GL G t).length : Int) ≤ i
        · rw [FL_end (by omega)] at h4
          have : cntL idI 4 [] = 0 := rfl
          omega
        · omega
      rw [g_foldF hG ht h0 hl]
      rw [FL_drop (k := i.toNat) (by omega), cntL, if_neg (by decide)] at h4
      have h4' : ph - c ≤ (if (FL G t).getD i.toNat 0 = 4 then 1 else 0) + cntL idI 4 ((FL G t).drop (i.toNat + 1)) := h4
      rw [FL_drop (k := i.toNat) (by omega), show (ph - c).toNat = (ph - c - 1).toNat + 1 by omega, posL]
      have e : (i + 1).toNat = i.toNat + 1 := by omega
      by_cases hf : (FL G t).getD i.toNat 0 = 4
      · rw [if_pos hf] at h4' ⊢
        rw [if_pos hf, ih _ _ (by omega) (by omega) (by omega) (by omega) (by rw [e]; omega), e, show (ph - (c + 1)).toNat = (ph - c - 1).toNat by omega]
        omega
      · rw [if_neg hf] at h4' ⊢
        rw [if_neg hf, ih _ _ (by omega) (by omega) (by omega) (by omega) (by rw [e]; omega), e, show (ph - (c + 0)).toNat = (ph - c - 1).toNat + 1 by omega]
        omega
theorem pos_jump {N G : Mem} (hG : GI G) {t : Int} (ht : 0 ≤ t ∧ t < 3) (h : HS N G t) {e : Int} (he : e < (GL G t).length) (h4 : fX4_foldAt N e = 4) (c : Nat) : ∀ (d : Nat) (s : Int), e - s = d → 0 ≤ s → (∀ j : Int, s ≤ j → j < e → ¬ fX4_foldAt N j = 4) → posL ((FL G t).drop s.toNat) (c + 1) = (e + 1 - s) + posL ((FL G t).drop (e + 1).toNat) c := by
  have n := g_size hG ht
  have fo : ∀ i : Int, 0 ≤ i → i < (GL G t).length → (FL G t).getD i.toNat 0 = fX4_foldAt N i := fun i a b => by
    rw [(h.2.2 i a (by omega)).1, g_foldF hG ht a b]
  intro d
  induction d with
  | zero =>
    intro s hd h0 _
    have es : s = e := by omega
    rw [es, FL_drop (k := e.toNat) (by omega), posL, fo e (by omega) he, if_pos h4, show (e + 1).toNat = e.toNat + 1 by omega]
    omega
  | succ d ih =>
    intro s hd h0 hj
    rw [FL_drop (k := s.toNat) (by omega), posL, fo s h0 (by omega), if_neg (hj s (Int.le_refl _) (by omega)), show s.toNat + 1 = (s + 1).toNat by omega, ih (s + 1) (by omega) (by omega) (fun j a b => hj j (by omega) b)]
    omega
theorem cnt_jump {N G : Mem} (hG : GI G) {t : Int} (ht : 0 ≤ t ∧ t < 3) (h : HS N G t) {e : Int} (he : e ≤ (GL G t).length) : ∀ (d : Nat) (s : Int), e - s = d → 0 ≤ s → (∀ j : Int, s ≤ j → j < e → ¬ fX4_foldAt N j = 4) → cntL idI 4 ((FL G t).drop s.toNat) = cntL idI 4 ((FL G t).drop e.toNat) := by
  have n := g_size hG ht
  intro d
  induction d with
  | zero =>
    intro s hd h0 _
    rw [show s = e by omega]
  | succ d ih =>
    intro s hd h0 hj
    have f := hj s (Int.le_refl _) (by omega)
    rw [(h.2.2 s h0 (by omega)).1, g_foldF hG ht h0 (by omega)] at f
    rw [FL_drop (k := s.toNat) (by omega), cntL, if_neg (by decide), if_neg f, show s.toNat + 1 = (s + 1).toNat by omega, ih (s + 1) (by omega) (by omega) (fun j a b => hj j (by omega) b), Int.zero_add]
theorem spos_L {N G : Mem} (hG : GI G) {t : Int} (ht : 0 ≤ t ∧ t < 3) (h : HS N G t) (ph : Int) : ∀ (k : Nat) (s c : Int), 0 ≤ s → s ≤ (GL G t).length → ph - c < k → 0 < (k : Int) → c ≤ ph → ph - c ≤ cntL idI 4 ((FL G t).drop s.toNat) → fX4_startOf_L1 N ph k s c = s + posL ((FL G t).drop s.toNat) (ph - c).toNat := by
  have n := g_size hG ht
  have z := GL_len hG ht
  intro k
  induction k with
  | zero => intro s c _ _ _ h; exact absurd h (by decide)
  | succ k ih =>
    intro s c h0 h1 h2 _ h3 h4
    rw [fX4_startOf_L1, h.1]
    by_cases hc : ph ≤ c
    · rw [if_pos hc, show (ph - c).toNat = 0 by omega]
      have : posL ((FL G t).drop s.toNat) 0 = 0 := by cases (FL G t).drop s.toNat <;> rfl
      omega
    · rw [if_neg hc]
      have hl : s < (GL G t).length := by
        by_cases hl : ((GL G t).length : Int) ≤ s
        · rw [FL_end (by omega)] at h4
          have : cntL idI 4 [] = 0 := rfl
          omega
        · omega
      rw [if_neg (by omega)]
      obtain ⟨c1, c2, c3, c4⟩ := crown_L N _ h.1 s 8 s (by omega) (by omega)
      unfold fX4_crownFrom
      generalize fX4_crownFrom_L1 N s 8 s = e at *
      have cj := cnt_jump hG ht h (e := e) (by omega) (e - s).toNat s (by omega) h0 c3
      have hen : e < (GL G t).length := by
        by_cases hx : e = (GL G t).length
        · rw [cj, hx, FL_end (by omega)] at h4
          have : cntL idI 4 [] = 0 := rfl
          omega
        · omega
      have e4 := c4.resolve_left (by omega)
      have pj := pos_jump hG ht h hen e4 (ph - c - 1).toNat (e - s).toNat s (by omega) h0 c3
      have cc : cntL idI 4 ((FL G t).drop e.toNat) = 1 + cntL idI 4 ((FL G t).drop (e + 1).toNat) := by
        rw [(h.2.2 e (by omega) (by omega)).1, g_foldF hG ht (by omega) (by omega)] at e4
        rw [FL_drop (k := e.toNat) (by omega), cntL, if_neg (by decide), if_pos e4, show (e + 1).toNat = e.toNat + 1 by omega]
      rw [ih (e + 1) (c + 1) (by omega) (by omega) (by omega) (by omega) (by omega) (by omega), show (ph - c).toNat = (ph - c - 1).toNat + 1 by omega, pj, show (ph - (c + 1)).toNat = (ph - c - 1).toNat by omega]
      omega
theorem start_e {N G : Mem} (hG : GI G) {t : Int} (ht : 0 ≤ t ∧ t < 3) (h : HS N G t) {ph : Int} (hp : 0 ≤ ph ∧ ph < fX9_phrasesOf G t) : fX4_startOf N ph = fX9_beginOf G t ph := by
  have z := GL_len hG ht
  have c := ph_cnt hG ht
  have c2 := rg_X9_phrasesOf hG t ht
  have cn : ph - 0 ≤ cntL idI 4 ((FL G t).drop (0 : Int).toNat) := by omega
  unfold fX4_startOf fX9_beginOf
  rw [bpos_L hG ht ph 8 0 0 (by decide) (by omega) (by omega) hp.1 cn, spos_L hG ht h ph 10 0 0 (by decide) (by omega) (by omega) (by decide) hp.1 cn]
theorem mood_e {N G : Mem} (hG : GI G) {t : Int} (ht : 0 ≤ t ∧ t < 3) (h : HS N G t) {b : Int} (hb : 0 ≤ b) : ∀ (k k' : Nat) (n : Int), 0 ≤ n → ((GL G t).length : Int) - (b + n) < k → ((GL G t).length : Int) - (b + n) < k' → SubG G t (b + n) → fX4_moodFrom_L1 N b k (b + n) = b + fX9_subjectsFrom_L1 G t b k' n := by
  have z := g_size hG ht
  intro k
  induction k with
  | zero => intro k' n h0 h1 _ hs; have := sub_in (by omega) hs; omega
  | succ k ih =>
    intro k' n h0 h1 h2 hs
    have hl := sub_in (by omega) hs
    cases k' with
    | zero => omega
    | succ k' =>
      rw [fX4_moodFrom_L1, fX9_subjectsFrom_L1, h.1, if_neg (by omega), (h.2.2 (b + n) (by omega) (by omega)).1]
      by_cases hf : fX9_foldAt G t (b + n) = 1
      · rw [if_pos hf, if_pos hf, show b + n + 1 = b + (n + 1) by omega]
        have hs2 := sub_step hG ht (by omega) hs hf
        rw [show b + n + 1 = b + (n + 1) by omega] at hs2
        exact ih _ _ (by omega) (by omega) (by omega) hs2
      · rw [if_neg hf, if_neg hf]
theorem moods_e {N G : Mem} (hG : GI G) {t : Int} (ht : 0 ≤ t ∧ t < 3) (h : HS N G t) {b : Int} (hb : 0 ≤ b) (hs : SubG G t b) : fX4_moodFrom N b = b + fX9_subjectsFrom G t b := by
  have z := GL_len hG ht
  have q := mood_e hG ht h hb 8 8 0 (by decide) (by omega) (by omega) (by rw [Int.add_zero]; exact hs)
  rw [Int.add_zero] at q
  exact q
theorem agr1_L {G : Mem} (t b n : Int) : ∀ (k : Nat) (i : Int), b + n - i < k → 0 < (k : Int) → fX9_doAgree_L1 G t b n k 1 i = 1 := by
  intro k
  induction k with
  | zero => intro i _ h; exact absurd h (by decide)
  | succ k ih =>
    intro i h _
    rw [fX9_doAgree_L1]
    split
    · rfl
    · rw [if_neg (by decide)]
      exact ih _ (by omega) (by omega)
theorem agr_L {N G : Mem} {t : Int} (h : HS N G t) {b n : Int} (hb : 0 ≤ b) (hn : b + n < fX9_countOf G t 0) : ∀ (k k' : Nat) (i : Int), 0 ≤ i → b + n - i < k → b + n - i < k' → 0 < (k : Int) → 0 < (k' : Int) → fX4_isAgreed_L1 N b (b + n) k i = fX9_doAgree_L1 G t b n k' 0 i := by
  intro k
  induction k with
  | zero => intro k' i _ _ _ h _; exact absurd h (by decide)
  | succ k ih =>
    intro k' i h0 h1 h2 _ h4
    cases k' with
    | zero => exact absurd h4 (by decide)
    | succ k' =>
      rw [fX4_isAgreed_L1, fX9_doAgree_L1]
      by_cases hc : b + n ≤ i
      · rw [if_pos hc, if_pos hc]
      · rw [if_neg hc, if_neg hc, if_pos rfl, (h.2.2 i h0 (by omega)).2.2.1, (h.2.2 (b + n) (by omega) hn).2.2.1]
        split
        · rw [agr1_L t b n k' _ (by omega) (by omega)]
        · exact ih _ _ (by omega) (by omega) (by omega) (by omega) (by omega)
theorem agr_e {N G : Mem} (hG : GI G) {t : Int} (ht : 0 ≤ t ∧ t < 3) (h : HS N G t) {b n : Int} (hb : 0 ≤ b) (h0 : 0 ≤ n) (hn : b + n < fX9_countOf G t 0) : fX4_isAgreed N b (b + n) = fX9_doAgree G t b n := agr_L h hb hn 8 8 b hb (by have := h.2.1; omega) (by have := h.2.1; omega) (by decide) (by decide)
theorem nap_out {N : Mem} {i : Int} (h : i < 0 ∨ N 7 0 ≤ i) : fX4_napkinAt N i = -1 := by
  unfold fX4_napkinAt
  rw [num_0 h, if_pos rfl]
