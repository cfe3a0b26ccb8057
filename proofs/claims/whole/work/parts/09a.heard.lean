/-! THE RELATION between the class's cells and the model's: one state's row; what a table says, heard by the class. -/
/-- class row c, model row g: the same state -/
def SR (c g : Int → Int) : Prop :=
  (c 77 = g 0 ∧ 0 ≤ g 0 ∧ g 0 ≤ 10) ∧
  (∀ j : Int, 0 ≤ j → j < 10 → c j = g (5 + j) ∧ c (10 + j) = g (15 + j) ∧ c (20 + j) = g (25 + j) ∧ c (30 + j) = g (35 + j) ∧ c (40 + j) = g (45 + j)) ∧
  (∀ j : Int, g 0 ≤ j → j < 10 → g (15 + j) = 0 ∧ g (25 + j) = 0 ∧ g (35 + j) = 0 ∧ g (45 + j) = 0) ∧
  (∀ t : Int, 0 ≤ t → t < 3 → c (68 + t) = g (55 + t) ∧ c (71 + t) = g (58 + t) ∧ c (74 + t) = g (61 + t)) ∧
  (∀ t p : Int, 0 ≤ t → t < 3 → 0 ≤ p → p < g (55 + t) → c (50 + t * 6 + p) = g (64 + 6 * t + p) ∧ g (64 + 6 * t + p) < g 0) ∧
  (∀ t p u q : Int, 0 ≤ t → t < 3 → 0 ≤ p → p < g (55 + t) → 0 ≤ u → u < 3 → 0 ≤ q → q < g (55 + u) → g (64 + 6 * t + p) = g (64 + 6 * u + q) → t = u ∧ p = q) ∧
  (c 78 = g 1 ∧ c 79 = g 4 ∧ g 2 = g 61 + g 62 + g 63 ∧ g 3 = g 45 + g 46 + g 47 + g 48 + g 49 + g 50 + g 51 + g 52 + g 53 + g 54)
theorem SR_n {c g : Int → Int} (h : SR c g) : c 77 = g 0 ∧ 0 ≤ g 0 ∧ g 0 ≤ 10 := h.1
theorem SR_j {c g : Int → Int} (h : SR c g) (j : Int) (a : 0 ≤ j) (b : j < 10) : c j = g (5 + j) ∧ c (10 + j) = g (15 + j) ∧ c (20 + j) = g (25 + j) ∧ c (30 + j) = g (35 + j) ∧ c (40 + j) = g (45 + j) := h.2.1 j a b
theorem SR_z {c g : Int → Int} (h : SR c g) (j : Int) (a : g 0 ≤ j) (b : j < 10) : g (15 + j) = 0 ∧ g (25 + j) = 0 ∧ g (35 + j) = 0 ∧ g (45 + j) = 0 := h.2.2.1 j a b
theorem SR_t {c g : Int → Int} (h : SR c g) (t : Int) (a : 0 ≤ t) (b : t < 3) : c (68 + t) = g (55 + t) ∧ c (71 + t) = g (58 + t) ∧ c (74 + t) = g (61 + t) := h.2.2.2.1 t a b
theorem SR_s {c g : Int → Int} (h : SR c g) (t p : Int) (a : 0 ≤ t) (b : t < 3) (d : 0 ≤ p) (e : p < g (55 + t)) : c (50 + t * 6 + p) = g (64 + 6 * t + p) ∧ g (64 + 6 * t + p) < g 0 := h.2.2.2.2.1 t p a b d e
theorem SR_u {c g : Int → Int} (h : SR c g) (t p u q : Int) (a : 0 ≤ t) (b : t < 3) (d : 0 ≤ p) (e : p < g (55 + t)) (a' : 0 ≤ u) (b' : u < 3) (d' : 0 ≤ q) (e' : q < g (55 + u)) (f : g (64 + 6 * t + p) = g (64 + 6 * u + q)) : t = u ∧ p = q := h.2.2.2.2.2.1 t p u q a b d e a' b' d' e' f
theorem SR_m {c g : Int → Int} (h : SR c g) : c 78 = g 1 ∧ c 79 = g 4 ∧ g 2 = g 61 + g 62 + g 63 ∧ g 3 = g 45 + g 46 + g 47 + g 48 + g 49 + g 50 + g 51 + g 52 + g 53 + g 54 := h.2.2.2.2.2.2
theorem ofN_e {M : Mem} {f n : Int} (h1 : 0 ≤ n) (h2 : n < 10) : fX6_ofNapkin M f n = M 0 (f + n) := by
  unfold fX6_ofNapkin
  rw [if_neg (by omega), if_neg (by omega)]
/-- the sentence that lies in N is that of the napkins L -/
def HP (N G : Mem) (L : List Int) : Prop := N 7 0 = L.length ∧ ∀ i : Nat, i < L.length → N 1 i = L.getD i (-1) ∧ N 2 i = G 0 (15 + L.getD i (-1)) ∧ N 3 i = G 0 (5 + L.getD i (-1)) ∧ N 4 i = G 0 (35 + L.getD i (-1))
theorem HP_add {N G : Mem} {L : List Int} (h : HP N G L) {x a b c : Int} (ha : a = G 0 (15 + x)) (hb : b = G 0 (5 + x)) (hc : c = G 0 (35 + x)) : HP (msf (mst (mst (mst (mst N 1 (N 7 0) x) 2 (N 7 0) a) 3 (N 7 0) b) 4 (N 7 0) c) 7 (N 7 0 + 1)) G (L ++ [x]) := by
  obtain ⟨h7, hi⟩ := h
  refine ⟨?_, fun i hl => ?_⟩
  · show N 7 0 + 1 = _
    rw [List.length_append, List.length_singleton]
    omega
  · show up (N 1) (N 7 0) x i = _ ∧ up (N 2) (N 7 0) a i = _ ∧ up (N 3) (N 7 0) b i = _ ∧ up (N 4) (N 7 0) c i = _
    rw [List.length_append, List.length_singleton] at hl
    by_cases he : i < L.length
    · rw [up_n (by omega), up_n (by omega), up_n (by omega), up_n (by omega)]
      have e : (L ++ [x]).getD i (-1) = L.getD i (-1) := by
        rw [List.getD_eq_getElem?_getD, List.getD_eq_getElem?_getD, List.getElem?_append_left he]
      rw [e]
      exact hi i he
    · have e0 : (i : Int) = N 7 0 := by omega
      have e : (L ++ [x]).getD i (-1) = x := by
        rw [List.getD_eq_getElem?_getD, List.getElem?_append_right (by omega), show i - L.length = 0 by omega]
        rfl
      rw [e, e0, up_e, up_e, up_e, up_e]
      exact ⟨rfl, ha, hb, hc⟩
theorem hear_L {M G : Mem} (hS : SR (M 0) (G 0)) (hG : GI G) {t : Int} (ht : 0 ≤ t ∧ t < 3) : ∀ (k : Nat) (Mx : Mem) (p : Int) (L : List Int), Mx 0 = M 0 → 0 ≤ p → p ≤ G 0 (55 + t) → G 0 (55 + t) - p < k → HP Mx G L → (L.length : Int) ≤ p → HP (fX4_hear_L1 M t k Mx p) G (L ++ sl (gS G t) (gF G) (G 0 (55 + t) - p).toNat p) := by
  have g := GI_55 hG (55 + t) (by omega) (by omega)
  intro k
  induction k with
  | zero => intro Mx p L _ _ _ _ _ _; omega
  | succ k ih =>
    intro Mx p L h0 h1 h2 h3 hP hl
    have e1 : fX6_laidOn Mx t = G 0 (55 + t) := by rw [laid_e ht, h0]; exact (SR_t hS t ht.1 ht.2).1
    rw [fX4_hear_L1, e1]
    by_cases hc : G 0 (55 + t) ≤ p
    · rw [if_pos hc, sl_end hc, List.append_nil]
      exact hP
    · rw [if_neg hc, sl_succ (by omega)]
      have s := SR_s hS t p ht.1 ht.2 h1 (by omega)
      have n := SR_n hS
      have e2 : fX6_seatedAt Mx t p = gS G t p := by rw [seated_e ht (by omega), h0]; exact s.1
      rw [e2]
      have x0 : 0 ≤ gS G t p := (GI_64 hG (64 + 6 * t + p) (by omega) (by omega)).1
      have x1 : gS G t p < 10 := by have : gS G t p < G 0 0 := s.2; omega
      have j := SR_j hS (gS G t p) x0 x1
      have e3 : fX6_foldOf Mx (gS G t p) = gF G (gS G t p) := by unfold fX6_foldOf; rw [ofN_e x0 x1, h0]; exact j.2.1
      have e4 : fX6_colourOf Mx (gS G t p) = G 0 (5 + gS G t p) := by unfold fX6_colourOf; rw [ofN_e x0 x1, h0, Int.zero_add]; exact j.1
      have e5 : fX6_stainsOf Mx (gS G t p) = G 0 (35 + gS G t p) := by unfold fX6_stainsOf; rw [ofN_e x0 x1, h0]; exact j.2.2.2.1
      rw [e3]
      by_cases hf : gF G (gS G t p) = 0
      · rw [if_pos hf, if_pos hf]
        exact ih _ _ _ h0 (by omega) (by omega) (by omega) hP (by omega)
      · rw [if_neg hf, if_neg hf, if_neg (by have := hP.1; omega), e4, e5]
        have q := ih (msf (mst (mst (mst (mst Mx 1 (Mx 7 0) (gS G t p)) 2 (Mx 7 0) (gF G (gS G t p))) 3 (Mx 7 0) (G 0 (5 + gS G t p))) 4 (Mx 7 0) (G 0 (35 + gS G t p))) 7 (Mx 7 0 + 1)) (p + 1) (L ++ [gS G t p]) h0 (by omega) (by omega) (by omega) (HP_add hP rfl rfl rfl) (by rw [List.length_append, List.length_singleton]; omega)
        rw [List.append_assoc] at q
        exact q
theorem hear_P {M G : Mem} (hS : SR (M 0) (G 0)) (hG : GI G) {t : Int} (ht : 0 ≤ t ∧ t < 3) : HP (fX4_hear M t) G (GL G t) := by
  have g := GI_55 hG (55 + t) (by omega) (by omega)
  have q := hear_L hS hG ht 8 (msf M 7 0) 0 [] rfl (by decide) (by omega) (by omega) ⟨rfl, fun i h => absurd h (Nat.not_lt_zero i)⟩ (by decide)
  rw [List.nil_append] at q
  exact q
/-- N holds what the model's table t says -/
def HS (N G : Mem) (t : Int) : Prop := N 7 0 = fX9_countOf G t 0 ∧ (0 ≤ fX9_countOf G t 0 ∧ fX9_countOf G t 0 ≤ 6) ∧ ∀ i : Int, 0 ≤ i → i < fX9_countOf G t 0 → fX4_foldAt N i = fX9_foldAt G t i ∧ fX4_napkinAt N i = fX9_saidAt G t i ∧ fX4_colourAt N i = G 0 (5 + fX9_saidAt G t i) ∧ fX4_stainsAt N i = G 0 (35 + fX9_saidAt G t i) ∧ (1 ≤ fX9_foldAt G t i ∧ fX9_foldAt G t i ≤ 4) ∧ (0 ≤ fX9_saidAt G t i ∧ fX9_saidAt G t i ≤ 9)
theorem num_1 {N : Mem} {i : Int} (h0 : 0 ≤ i) (h1 : i < N 7 0) (h2 : i < 6) : fX4_isNumber N i = 1 := by
  unfold fX4_isNumber
  rw [if_neg (by omega), if_neg (by omega), if_neg (by omega)]
theorem num_0 {N : Mem} {i : Int} (h : i < 0 ∨ N 7 0 ≤ i) : fX4_isNumber N i = 0 := by
  unfold fX4_isNumber
  (repeat' split) <;> omega
theorem HS_of {N G : Mem} (hG : GI G) {t : Int} (ht : 0 ≤ t ∧ t < 3) (h : HP N G (GL G t)) : HS N G t := by
  have z := GL_len hG ht
  have n := g_size hG ht
  refine ⟨by rw [n]; exact h.1, by omega, fun i h0 h1 => ?_⟩
  rw [n] at h1
  have h7 := h.1
  obtain ⟨a, b, c, d⟩ := h.2 i.toNat (by omega)
  rw [Int.toNat_of_nonneg h0] at a b c d
  have s := g_said hG ht h0
  have f := g_fold hG ht h0 h1
  have m := GL_mem hG ht _ (getD_in (d := -1) (show i.toNat < (GL G t).length by omega))
  have u := num_1 (N := N) (i := i) h0 (by omega) (by omega)
  refine ⟨?_, ?_, ?_, ?_, ?_, ?_⟩
  · unfold fX4_foldAt
    rw [if_neg (by omega), if_neg (by omega), if_neg (by omega), b, f]
  · unfold fX4_napkinAt
    rw [u, if_neg (by decide), a, s]
  · unfold fX4_colourAt
    rw [u, if_neg (by decide), c, s]
  · unfold fX4_stainsAt
    rw [u, if_neg (by decide), d, s]
  · rw [f]
    exact m.2.2
  · rw [s]
    exact ⟨m.1, m.2.1⟩
theorem hear_S {M G : Mem} (hS : SR (M 0) (G 0)) (hG : GI G) {t : Int} (ht : 0 ≤ t ∧ t < 3) : HS (fX4_hear M t) G t := HS_of hG ht (hear_P hS hG ht)
/-! the points of a sentence: -1 there, 4 here -/
def PS (p s : Int) : Prop := (p = s ∧ 0 ≤ s ∧ s ≤ 3) ∨ (p = -1 ∧ s = 4)
theorem PS_step {p s f : Int} (h : PS p s) (hf : 1 ≤ f ∧ f ≤ 4) : PS (fX4_pointAfter p f) (fX9_goesOn s f) := by
  have a : f = 1 ∨ f = 2 ∨ f = 3 ∨ f = 4 := by omega
  have b : (p = 0 ∧ s = 0) ∨ (p = 1 ∧ s = 1) ∨ (p = 2 ∧ s = 2) ∨ (p = 3 ∧ s = 3) ∨ (p = -1 ∧ s = 4) := by
    unfold PS at h
    omega
  unfold PS
  rcases b with ⟨rfl, rfl⟩ | ⟨rfl, rfl⟩ | ⟨rfl, rfl⟩ | ⟨rfl, rfl⟩ | ⟨rfl, rfl⟩ <;> rcases a with rfl | rfl | rfl | rfl <;> decide
theorem PS_end {p s : Int} (h : PS p s) : fX4_isEnd p = fX9_isEnd s := by
  unfold PS at h
  unfold fX4_isEnd fX9_isEnd
  (repeat' split) <;> omega
theorem PS_0 : PS 0 0 := Or.inl ⟨rfl, by decide, by decide⟩
theorem PS_lost {p s : Int} (h : PS p s) : p = -1 ↔ s = 4 := by unfold PS at h; omega
theorem goes_4 (f : Int) : fX9_goesOn 4 f = 4 := by unfold fX9_goesOn; (repeat' split) <;> omega
theorem end_4 : fX9_isEnd 4 = 0 := by decide
/-! where it goes wrong -/
theorem err_L {N G : Mem} {t : Int} (h : HS N G t) : ∀ (k k' : Nat) (p s i : Int), 0 ≤ i → i ≤ fX9_countOf G t 0 → fX9_countOf G t 0 - i < k → fX9_countOf G t 0 - i < k' → PS p s → ¬ s = 4 → fX4_errorByNapkins_L1 N k p i = fX9_wrongAt_L1 G t k' s i := by
  intro k
  induction k with
  | zero => intro k' p s i _ _ _ _ _ _; omega
  | succ k ih =>
    intro k' p s i h0 h1 h2 h3 hp hs
    cases k' with
    | zero => omega
    | succ k' =>
      rw [fX4_errorByNapkins_L1, fX9_wrongAt_L1, h.1]
      by_cases hc : fX9_countOf G t 0 ≤ i
      · rw [if_pos hc, if_pos hc, PS_end hp]
      · rw [if_neg hc, if_neg hc]
        have q := h.2.2 i h0 (by omega)
        rw [q.1]
        have z := PS_step hp q.2.2.2.2.1
        by_cases hl : fX9_goesOn s (fX9_foldAt G t i) = 4
        · rw [if_pos ((PS_lost z).mpr hl), if_pos hl]
        · rw [if_neg (fun e => hl ((PS_lost z).mp e)), if_neg hl]
          exact ih _ _ _ _ (by omega) (by omega) (by omega) (by omega) z hl
theorem err_e {N G : Mem} {t : Int} (h : HS N G t) : fX4_errorByNapkins N = fX9_wrongAt G t := err_L h 8 7 0 0 0 (by decide) h.2.1.1 (by have := h.2.1; omega) (by have := h.2.1; omega) PS_0 (by decide)
theorem lost_L {G : Mem} {t : Int} : ∀ (k : Nat) (i : Int), fX9_countOf G t 0 - i < k → 0 < (k : Int) → fX9_stateOf_L1 G t k 4 i = 4 := by
  intro k
  induction k with
  | zero => intro i _ h; exact absurd h (by decide)
  | succ k ih =>
    intro i h _
    rw [fX9_stateOf_L1]
    split
    · rfl
    · rw [goes_4]
      exact ih _ (by omega) (by omega)
theorem wst_L {G : Mem} {t : Int} : ∀ (k k' : Nat) (s i : Int), 0 ≤ i → fX9_countOf G t 0 - i < k → fX9_countOf G t 0 - i < k' → 0 < (k : Int) → 0 < (k' : Int) → (0 ≤ fX9_countOf G t 0) → (fX9_wrongAt_L1 G t k s i = -1 ∧ fX9_isEnd (fX9_stateOf_L1 G t k' s i) = 1) ∨ (0 ≤ fX9_wrongAt_L1 G t k s i ∧ fX9_isEnd (fX9_stateOf_L1 G t k' s i) = 0) := by
  intro k
  induction k with
  | zero => intro k' s i _ _ _ h _ _; exact absurd h (by decide)
  | succ k ih =>
    intro k' s i h0 h1 h2 _ h4 hn
    cases k' with
    | zero => exact absurd h4 (by decide)
    | succ k' =>
      rw [fX9_wrongAt_L1, fX9_stateOf_L1]
      by_cases hc : fX9_countOf G t 0 ≤ i
      · rw [if_pos hc, if_pos hc]
        have b := bX9_isEnd s
        split
        · right; exact ⟨hn, by assumption⟩
        · left; exact ⟨rfl, by omega⟩
      · rw [if_neg hc, if_neg hc]
        by_cases hl : fX9_goesOn s (fX9_foldAt G t i) = 4
        · rw [if_pos hl, hl, lost_L k' _ (by omega) (by omega)]
          right
          exact ⟨h0, by decide⟩
        · rw [if_neg hl]
          exact ih _ _ _ (by omega) (by omega) (by omega) (by omega) (by omega) hn
theorem right_e {N G : Mem} {t : Int} (h : HS N G t) : (fX4_errorByNapkins N = -1 ∧ fX9_rightly G t = 1) ∨ (0 ≤ fX4_errorByNapkins N ∧ fX9_rightly G t = 0) := by
  rw [err_e h]
  exact wst_L 7 7 0 0 (by decide) (by have := h.2.1; omega) (by have := h.2.1; omega) (by decide) (by decide) h.2.1.1
theorem whole_e {N G : Mem} {t : Int} (h : HS N G t) : fX4_isWhole N = fX9_rightly G t := by
  unfold fX4_isWhole
  rcases right_e h with ⟨a, b⟩ | ⟨a, b⟩
  · rw [if_pos a, b]
  · rw [if_neg (by omega), b]
/-! how many -/
def cnE (f : Int) : List Int → Int
  | [] => 0
  | x :: r => (if x = f then 1 else 0) + cnE f r
theorem cnE_e {f : Int} (hf : ¬ f = 0) : ∀ L : List Int, cntL idI f L = cnE f L := by
  intro L
  induction L with
  | nil => rfl
  | cons x r ih => rw [cntL, cnE, if_neg hf, ih]
theorem cnE_0 : ∀ L : List Int, (∀ x ∈ L, 1 ≤ x ∧ x ≤ 4) → cnE 0 L = 0 := by
  intro L
  induction L with
  | nil => intro _; rfl
  | cons x r ih =>
    intro h
    have := h x List.mem_cons_self
    rw [cnE, if_neg (by omega), ih (fun y hy => h y (List.mem_cons_of_mem _ hy))]
    rfl
theorem cnt_L {N G : Mem} (hG : GI G) {t : Int} (ht : 0 ≤ t ∧ t < 3) (h : HS N G t) (f : Int) : ∀ (k : Nat) (c i : Int), 0 ≤ i → i ≤ fX9_countOf G t 0 → fX9_countOf G t 0 - i < k → fX4_countOf_L1 N f k c i = c + cnE f ((FL G t).drop i.toNat) := by
  have n := g_size hG ht
  intro k
  induction k with
  | zero => intro c i _ _ _; omega
  | succ k ih =>
    intro c i h0 h1 h2
    rw [fX4_countOf_L1, h.1]
    by_cases hc : fX9_countOf G t 0 ≤ i
    · rw [if_pos hc, FL_end (by omega)]
      show c = c + 0
      omega
    · rw [if_neg hc, (h.2.2 i h0 (by omega)).1, g_foldF hG ht h0 (by omega), FL_drop (k := i.toNat) (by omega), cnE]
      have e : (i + 1).toNat = i.toNat + 1 := by omega
      by_cases hf : (FL G t).getD i.toNat 0 = f
      · rw [if_pos hf, if_pos hf, ih _ _ (by omega) (by omega) (by omega), e]
        omega
      · rw [if_neg hf, if_neg hf, ih _ _ (by omega) (by omega) (by omega), e]
        omega
theorem cnt_e {N G : Mem} (hG : GI G) {t : Int} (ht : 0 ≤ t ∧ t < 3) (h : HS N G t) {f : Int} (hf : ¬ f = 0) : fX4_countOf N f = fX9_countOf G t f := by
  unfold fX4_countOf
  rw [cnt_L hG ht h f 8 0 0 (by decide) h.2.1.1 (by have := h.2.1; omega), g_countF hG ht, cnE_e hf]
  show 0 + cnE f (FL G t) = _
  omega
theorem cnt_0 {N G : Mem} (hG : GI G) {t : Int} (ht : 0 ≤ t ∧ t < 3) (h : HS N G t) : fX4_countOf N 0 = 0 := by
  unfold fX4_countOf
  rw [cnt_L hG ht h 0 8 0 0 (by decide) h.2.1.1 (by have := h.2.1; omega)]
  show 0 + cnE 0 (FL G t) = _
  rw [cnE_0 _ (FL_mem hG ht)]
  rfl
theorem phr_e {N G : Mem} (hG : GI G) {t : Int} (ht : 0 ≤ t ∧ t < 3) (h : HS N G t) : fX4_phraseCount N = fX9_phrasesOf G t := by
  unfold fX4_phraseCount fX9_phrasesOf
  rw [cnt_e hG ht h (by decide)]
  rcases right_e h with ⟨a, b⟩ | ⟨a, b⟩
  · rw [if_pos a, b, if_neg (by decide)]
  · rw [if_neg (by omega), b, if_pos rfl]
/-! doubts -/
theorem dbt_L {N G : Mem} {t : Int} (h : HS N G t) : ∀ (k k' : Nat) (c i : Int), 0 ≤ i → i ≤ fX9_countOf G t 0 → fX9_countOf G t 0 - i < k → fX9_countOf G t 0 - i < k' → fX4_doubtByNapkins_L1 N k c i = fX9_doubtOf_L1 G t k' c i := by
  intro k
  induction k with
  | zero => intro k' c i _ _ _ _; omega
  | succ k ih =>
    intro k' c i h0 h1 h2 h3
    cases k' with
    | zero => omega
    | succ k' =>
      rw [fX4_doubtByNapkins_L1, fX9_doubtOf_L1, h.1]
      by_cases hc : fX9_countOf G t 0 ≤ i
      · rw [if_pos hc, if_pos hc]
      · rw [if_neg hc, if_neg hc, (h.2.2 i h0 (by omega)).2.2.2.1]
        exact ih _ _ _ (by omega) (by omega) (by omega) (by omega)
theorem dbt_e {N G : Mem} {t : Int} (h : HS N G t) : fX4_doubtByNapkins N = fX9_doubtOf G t := dbt_L h 8 7 0 0 (by decide) h.2.1.1 (by have := h.2.1; omega) (by have := h.2.1; omega)
theorem dbf_L {N G : Mem} {t : Int} (h : HS N G t) : ∀ (k : Nat) (a b c d i : Int), 0 ≤ i → i ≤ fX9_countOf G t 0 → fX9_countOf G t 0 - i < k → fX4_stainsOfAll_L1 N 1 k a i + fX4_stainsOfAll_L1 N 2 k b i + fX4_stainsOfAll_L1 N 3 k c i + fX4_stainsOfAll_L1 N 4 k d i = fX4_doubtByNapkins_L1 N k (a + b + c + d) i := by
  intro k
  induction k with
  | zero => intro a b c d i _ _ _; omega
  | succ k ih =>
    intro a b c d i h0 h1 h2
    rw [fX4_doubtByNapkins_L1, fX4_stainsOfAll_L1, fX4_stainsOfAll_L1, fX4_stainsOfAll_L1, fX4_stainsOfAll_L1, h.1]
    by_cases hc : fX9_countOf G t 0 ≤ i
    · rw [if_pos hc, if_pos hc, if_pos hc, if_pos hc, if_pos hc]
    · rw [if_neg hc, if_neg hc, if_neg hc, if_neg hc, if_neg hc]
      have q := h.2.2 i h0 (by omega)
      rw [q.1]
      have r := q.2.2.2.2.1
      have f : fX9_foldAt G t i = 1 ∨ fX9_foldAt G t i = 2 ∨ fX9_foldAt G t i = 3 ∨ fX9_foldAt G t i = 4 := by omega
      rcases f with f | f | f | f <;> rw [f]
      · rw [if_pos rfl, if_neg (by decide), if_neg (by decide), if_neg (by decide), ih _ _ _ _ _ (by omega) (by omega) (by omega)]
        congr 1
        omega
      · rw [if_neg (by decide), if_pos rfl, if_neg (by decide), if_neg (by decide), ih _ _ _ _ _ (by omega) (by omega) (by omega)]
        congr 1
        omega
      · rw [if_neg (by decide), if_neg (by decide), if_pos rfl, if_neg (by decide), ih _ _ _ _ _ (by omega) (by omega) (by omega)]
        congr 1
        omega
      · rw [if_neg (by decide), if_neg (by decide), if_neg (by decide), if_pos rfl, ih _ _ _ _ _ (by omega) (by omega) (by omega)]
        congr 1
        omega
theorem dbf_u (N : Mem) : fX4_doubtByFolds N = 0 + fX4_stainsOfAll N 1 + fX4_stainsOfAll N 2 + fX4_stainsOfAll N 3 + fX4_stainsOfAll N 4 := by
  unfold fX4_doubtByFolds
  rw [fX4_doubtByFolds_L1, if_neg (by decide), fX4_doubtByFolds_L1, if_neg (by decide), fX4_doubtByFolds_L1, if_neg (by decide), fX4_doubtByFolds_L1, if_neg (by decide), fX4_doubtByFolds_L1, if_pos (by decide)]
  rfl
theorem dbf_e {N G : Mem} {t : Int} (h : HS N G t) : fX4_doubtByFolds N = fX9_doubtOf G t := by
  rw [dbf_u, ← dbt_e h]
  have q := dbf_L h 8 0 0 0 0 0 (by decide) h.2.1.1 (by have := h.2.1; omega)
  unfold fX4_stainsOfAll fX4_doubtByNapkins
  rw [show (0 : Int) + 0 + 0 + 0 = 0 from rfl] at q
  omega
