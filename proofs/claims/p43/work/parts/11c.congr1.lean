/-! WHAT AN ANSWER RESTS ON: two objects whose eighty cells agree answer alike (the row's cells, the sentence heard out of them). -/
def REq (M N : Mem) : Prop := ∀ j : Int, 0 ≤ j → j < 80 → M 0 j = N 0 j
def SEq (M N : Mem) : Prop := M 7 0 = N 7 0 ∧ ∀ r : Nat, (r = 1 ∨ r = 2 ∨ r = 3 ∨ r = 4) → ∀ i : Int, 0 ≤ i → i < N 7 0 → M r i = N r i
theorem REq.rf (M : Mem) : REq M M := fun _ _ _ => rfl
theorem REq.tr {M N K : Mem} (h : REq M N) (g : REq N K) : REq M K := fun j a b => (h j a b).trans (g j a b)
theorem REq.sy {M N : Mem} (h : REq M N) : REq N M := fun j a b => (h j a b).symm
theorem REq.of {M N : Mem} (h : M 0 = N 0) : REq M N := fun j _ _ => by rw [h]
theorem REq.of2 {M N M' N' : Mem} (h : REq M N) (hm : M' 0 = M 0) (hn : N' 0 = N 0) : REq M' N' := fun j a b => by rw [hm, hn]; exact h j a b
/-! reading cells -/
theorem on_c {M N : Mem} (h : REq M N) {f : Int} (h0 : 0 ≤ f ∧ f ≤ 70) (n : Int) : fX6_ofNapkin M f n = fX6_ofNapkin N f n := by
  unfold fX6_ofNapkin
  split
  · rfl
  split
  · rfl
  · exact h _ (by omega) (by omega)
theorem ot_c {M N : Mem} (h : REq M N) {f : Int} (h0 : 0 ≤ f ∧ f ≤ 77) (n : Int) : fX6_ofTable M f n = fX6_ofTable N f n := by
  unfold fX6_ofTable
  split
  · rfl
  split
  · rfl
  · exact h _ (by omega) (by omega)
theorem cr_c {M N : Mem} (h : REq M N) (n : Int) : fX6_creasesOf M n = fX6_creasesOf N n := on_c h (by decide) n
theorem cu_c {M N : Mem} (h : REq M N) (n : Int) : fX6_colourOf M n = fX6_colourOf N n := on_c h (by decide) n
theorem fo_c {M N : Mem} (h : REq M N) (n : Int) : fX6_foldOf M n = fX6_foldOf N n := on_c h (by decide) n
theorem sn_c {M N : Mem} (h : REq M N) (n : Int) : fX6_stainsOf M n = fX6_stainsOf N n := on_c h (by decide) n
theorem fg_c {M N : Mem} (h : REq M N) (n : Int) : fX6_foldingsOf M n = fX6_foldingsOf N n := on_c h (by decide) n
theorem la_c {M N : Mem} (h : REq M N) (n : Int) : fX6_laidOn M n = fX6_laidOn N n := ot_c h (by decide) n
theorem rd_c {M N : Mem} (h : REq M N) (n : Int) : fX6_readingsOf M n = fX6_readingsOf N n := ot_c h (by decide) n
theorem pz_c {M N : Mem} (h : REq M N) (n : Int) : fX6_puzzlesOf M n = fX6_puzzlesOf N n := ot_c h (by decide) n
theorem np_c {M N : Mem} (h : REq M N) : fX6_napkins M = fX6_napkins N := h 77 (by decide) (by decide)
theorem hn_c {M N : Mem} (h : REq M N) (n : Int) : fX6_hasNapkin M n = fX6_hasNapkin N n := by
  unfold fX6_hasNapkin
  rw [h 77 (by decide) (by decide)]
theorem hp_c {M N : Mem} (h : REq M N) (t p : Int) : fX6_hasPlace M t p = fX6_hasPlace N t p := by
  unfold fX6_hasPlace
  rw [la_c h]
theorem sa_c {M N : Mem} (h : REq M N) (t p : Int) : fX6_seatedAt M t p = fX6_seatedAt N t p := by
  unfold fX6_seatedAt fX6_isSeat
  by_cases h1 : t < 0
  · rw [if_pos h1]; rfl
  rw [if_neg h1]
  by_cases h2 : 3 ≤ t
  · rw [if_pos h2]; rfl
  rw [if_neg h2]
  by_cases h3 : p < 0
  · rw [if_pos h3]; rfl
  rw [if_neg h3]
  by_cases h4 : 6 ≤ p
  · rw [if_pos h4]; rfl
  rw [if_neg h4]
  exact h _ (by omega) (by omega)
theorem su_c {M N : Mem} (h : REq M N) (n : Int) : ∀ (k : Nat) (s : Int), 0 ≤ s → fX6_seatUnder_L1 M n k s = fX6_seatUnder_L1 N n k s := by
  intro k
  induction k with
  | zero => intro s _; rfl
  | succ k ih =>
    intro s hs
    rw [fX6_seatUnder_L1, fX6_seatUnder_L1]
    by_cases h1 : 18 ≤ s
    · rw [if_pos h1, if_pos h1]
    · rw [if_neg h1, if_neg h1, h (68 + s / 6) (by omega) (by omega), h (50 + s) (by omega) (by omega), ih (s + 1) (by omega)]
theorem tu_c {M N : Mem} (h : REq M N) (n : Int) : fX6_tableUnder M n = fX6_tableUnder N n := by
  unfold fX6_tableUnder fX6_seatUnder
  rw [su_c h n 19 0 (by decide)]
theorem pu_c {M N : Mem} (h : REq M N) (n : Int) : fX6_placeUnder M n = fX6_placeUnder N n := by
  unfold fX6_placeUnder fX6_seatUnder
  rw [su_c h n 19 0 (by decide)]
theorem sum_c {M N : Mem} (h : REq M N) (f c : Int) : ∀ (k : Nat) (s i : Int), 0 ≤ i → fX6_sumOf_L1 M f c k s i = fX6_sumOf_L1 N f c k s i := by
  intro k
  induction k with
  | zero => intro s i _; rfl
  | succ k ih =>
    intro s i hi
    rw [fX6_sumOf_L1, fX6_sumOf_L1]
    by_cases h1 : f + c ≤ i
    · rw [if_pos h1, if_pos h1]
    rw [if_neg h1, if_neg h1]
    by_cases h2 : 80 ≤ i
    · rw [if_pos h2, if_pos h2]
    rw [if_neg h2, if_neg h2, h i hi (by omega), ih _ (i + 1) (by omega)]
theorem sm_c {M N : Mem} (h : REq M N) {f : Int} (h0 : 0 ≤ f) (c : Int) : fX6_sumOf M f c = fX6_sumOf N f c := sum_c h f c 11 0 f h0
theorem fc_c {M N : Mem} (h : REq M N) : ∀ (k : Nat) (c n : Int), fX6_foldedCount_L1 M k c n = fX6_foldedCount_L1 N k c n := by
  intro k
  induction k with
  | zero => intro c n; rfl
  | succ k ih => intro c n; rw [fX6_foldedCount_L1, fX6_foldedCount_L1, np_c h, fo_c h, ih, ih]
/-! writing cells -/
theorem ms_c {M N : Mem} (h : REq M N) (z v : Int) : REq (mst M 0 z v) (mst N 0 z v) := fun j a b => by
  show up (M 0) z v j = up (N 0) z v j
  unfold up
  split
  · rfl
  · exact h j a b
theorem wn_c {M N : Mem} (h : REq M N) (f n v : Int) : REq (fX6_setOfNapkin M f n v) (fX6_setOfNapkin N f n v) := by
  unfold fX6_setOfNapkin
  split
  · exact h
  split
  · exact h
  · exact ms_c h _ _
theorem wt_c {M N : Mem} (h : REq M N) (f n v : Int) : REq (fX6_setOfTable M f n v) (fX6_setOfTable N f n v) := by
  unfold fX6_setOfTable
  split
  · exact h
  split
  · exact h
  · exact ms_c h _ _
theorem ws_c {M N : Mem} (h : REq M N) (t p v : Int) : REq (fX6_setSeat M t p v) (fX6_setSeat N t p v) := by
  unfold fX6_setSeat
  split
  · exact h
  · exact ms_c h _ _
/-- a value and the cells behind it -/
def PE (A B : Int × Mem) : Prop := A.1 = B.1 ∧ REq A.2 B.2
theorem an_c {M N : Mem} (h : REq M N) (c : Int) : PE (fX6_addNapkin M c) (fX6_addNapkin N c) := by
  unfold fX6_addNapkin
  rw [np_c h]
  split
  · exact ⟨rfl, h⟩
  · exact ⟨rfl, wn_c (ms_c h _ _) _ _ _⟩
theorem ft_c {M N : Mem} (h : REq M N) (n f c : Int) : PE (fX6_foldTo M n f c) (fX6_foldTo N n f c) := by
  unfold fX6_foldTo
  rw [cr_c h]
  have e := wn_c (wn_c h 10 n f) 20 n (fX6_creasesOf N n + c)
  rw [fg_c e]
  exact ⟨rfl, wn_c e _ _ _⟩
theorem op_c {M N : Mem} (h : REq M N) (n : Int) : PE (fX6_open M n) (fX6_open N n) := ⟨fo_c h n, wn_c h _ _ _⟩
theorem as_c {M N : Mem} (h : REq M N) (n f : Int) : PE (fX6_addStains M n f) (fX6_addStains N n f) := by
  unfold fX6_addStains
  rw [sn_c h]
  exact ⟨rfl, wn_c h _ _ _⟩
theorem ce_c {M N : Mem} (h : REq M N) (n : Int) : PE (fX6_clean M n) (fX6_clean N n) := by
  unfold fX6_clean
  have e := wn_c (wn_c h 30 n 0) 10 n 0
  rw [sn_c h, e 79 (by decide) (by decide)]
  exact ⟨rfl, ms_c e _ _⟩
theorem il_c {M N : Mem} (h : REq M N) (t p n : Int) : ∀ (k : Nat) (Mx Nx : Mem) (i : Int), REq Mx Nx → REq (fX6_insert_L1 M t p n k Mx i) (fX6_insert_L1 N t p n k Nx i) := by
  intro k
  induction k with
  | zero => intro Mx Nx i g; exact g
  | succ k ih =>
    intro Mx Nx i g
    rw [fX6_insert_L1, fX6_insert_L1]
    by_cases h1 : i ≤ p
    · rw [if_pos h1, if_pos h1, la_c h]
      exact wt_c (ws_c g _ _ _) _ _ _
    · rw [if_neg h1, if_neg h1, sa_c g]
      exact ih _ _ _ (ws_c g _ _ _)
theorem in_c {M N : Mem} (h : REq M N) (t p n : Int) : REq (fX6_insert M t p n) (fX6_insert N t p n) := by
  unfold fX6_insert
  rw [la_c h]
  exact il_c h t p n 7 _ _ _ h
theorem rl_c {M N : Mem} (h : REq M N) (t p : Int) : ∀ (k : Nat) (Mx Nx : Mem) (i : Int), REq Mx Nx → REq (fX6_removeAt_L1 M t p k Mx i) (fX6_removeAt_L1 N t p k Nx i) := by
  intro k
  induction k with
  | zero => intro Mx Nx i g; exact g
  | succ k ih =>
    intro Mx Nx i g
    rw [fX6_removeAt_L1, fX6_removeAt_L1, la_c h]
    split
    · exact wt_c g _ _ _
    · rw [sa_c g]
      exact ih _ _ _ (ws_c g _ _ _)
theorem rm_c {M N : Mem} (h : REq M N) (t p : Int) : REq (fX6_removeAt M t p) (fX6_removeAt N t p) := rl_c h t p 8 _ _ _ h
theorem al_cc {M N : Mem} (h : REq M N) (n t : Int) : PE (fX6_addLast M n t) (fX6_addLast N n t) := by
  unfold fX6_addLast
  rw [la_c h]
  exact ⟨rfl, in_c h _ _ _⟩
theorem re_c {M N : Mem} (h : REq M N) (n : Int) : PE (fX6_remove M n) (fX6_remove N n) := by
  unfold fX6_remove
  rw [pu_c h, tu_c h]
  exact ⟨rfl, rm_c h _ _⟩
theorem sh_c {M N : Mem} (h : REq M N) (t f g : Int) : PE (fX6_shift M t f g) (fX6_shift N t f g) := by
  unfold fX6_shift
  rw [sa_c h]
  exact ⟨rfl, in_c (rm_c h _ _) _ _ _⟩
theorem ntr_c {M N : Mem} (h : REq M N) (t p : Int) : REq (fX6_noteReading M t p) (fX6_noteReading N t p) := by
  unfold fX6_noteReading
  rw [rd_c h]
  have e1 := wt_c h 71 t (fX6_readingsOf N t + 1)
  split
  · rw [pz_c e1]
    have e2 := wt_c e1 74 t (fX6_puzzlesOf (fX6_setOfTable N 71 t (fX6_readingsOf N t + 1)) t + 1)
    rw [e2 78 (by decide) (by decide)]
    exact ms_c e2 _ _
  · rw [e1 78 (by decide) (by decide)]
    exact ms_c e1 _ _
/-! the sentence -/
theorem is_c {M N : Mem} (h : SEq M N) (i : Int) : fX4_isNumber M i = fX4_isNumber N i := by
  unfold fX4_isNumber
  rw [h.1]
theorem isN {N : Mem} {i : Int} (h : ¬ fX4_isNumber N i = 0) : 0 ≤ i ∧ i < N 7 0 := by
  unfold fX4_isNumber at h
  (repeat' split at h) <;> first | exact absurd rfl h | exact ⟨by omega, by omega⟩
theorem fa_c {M N : Mem} (h : SEq M N) (i : Int) : fX4_foldAt M i = fX4_foldAt N i := by
  unfold fX4_foldAt
  rw [h.1]
  split
  · rfl
  split
  · rfl
  split
  · rfl
  · exact h.2 2 (by decide) i (by omega) (by omega)
theorem ca_c {M N : Mem} (h : SEq M N) (i : Int) : fX4_colourAt M i = fX4_colourAt N i := by
  unfold fX4_colourAt
  rw [is_c h]
  split
  · rfl
  · rename_i g; exact h.2 3 (by decide) i (isN g).1 (isN g).2
theorem ta_c {M N : Mem} (h : SEq M N) (i : Int) : fX4_stainsAt M i = fX4_stainsAt N i := by
  unfold fX4_stainsAt
  rw [is_c h]
  split
  · rfl
  · rename_i g; exact h.2 4 (by decide) i (isN g).1 (isN g).2
theorem npa_c {M N : Mem} (h : SEq M N) (i : Int) : fX4_napkinAt M i = fX4_napkinAt N i := by
  unfold fX4_napkinAt
  rw [is_c h]
  split
  · rfl
  · rename_i g; exact h.2 1 (by decide) i (isN g).1 (isN g).2
theorem ib_c {M N : Mem} (h : SEq M N) (i : Int) : fX4_isBoatAt M i = fX4_isBoatAt N i := by
  unfold fX4_isBoatAt
  rw [fa_c h]
theorem col_c {M N : Mem} (h : SEq M N) (f : Int) : ∀ (k : Nat) (c n : Int), fX4_countOf_L1 M f k c n = fX4_countOf_L1 N f k c n := by
  intro k
  induction k with
  | zero => intro c n; rfl
  | succ k ih => intro c n; rw [fX4_countOf_L1, fX4_countOf_L1, h.1, fa_c h, ih, ih]
theorem co_c {M N : Mem} (h : SEq M N) (f : Int) : fX4_countOf M f = fX4_countOf N f := col_c h f 8 0 0
theorem enl_c {M N : Mem} (h : SEq M N) : ∀ (k : Nat) (p n : Int), fX4_errorByNapkins_L1 M k p n = fX4_errorByNapkins_L1 N k p n := by
  intro k
  induction k with
  | zero => intro c n; rfl
  | succ k ih => intro c n; rw [fX4_errorByNapkins_L1, fX4_errorByNapkins_L1, h.1, fa_c h, ih]
theorem en_c {M N : Mem} (h : SEq M N) : fX4_errorByNapkins M = fX4_errorByNapkins N := enl_c h 8 0 0
theorem iw_c {M N : Mem} (h : SEq M N) : fX4_isWhole M = fX4_isWhole N := by
  unfold fX4_isWhole
  rw [en_c h]
theorem pc_c {M N : Mem} (h : SEq M N) : fX4_phraseCount M = fX4_phraseCount N := by
  unfold fX4_phraseCount
  rw [en_c h, co_c h]
theorem cfl_c {M N : Mem} (h : SEq M N) (s : Int) : ∀ (k : Nat) (n : Int), fX4_crownFrom_L1 M s k n = fX4_crownFrom_L1 N s k n := by
  intro k
  induction k with
  | zero => intro n; rfl
  | succ k ih => intro n; rw [fX4_crownFrom_L1, fX4_crownFrom_L1, h.1, fa_c h, ih]
theorem cf_c {M N : Mem} (h : SEq M N) (s : Int) : fX4_crownFrom M s = fX4_crownFrom N s := cfl_c h s 8 s
theorem mfl_c {M N : Mem} (h : SEq M N) (s : Int) : ∀ (k : Nat) (n : Int), fX4_moodFrom_L1 M s k n = fX4_moodFrom_L1 N s k n := by
  intro k
  induction k with
  | zero => intro n; rfl
  | succ k ih => intro n; rw [fX4_moodFrom_L1, fX4_moodFrom_L1, h.1, fa_c h, ih]
theorem mf_c {M N : Mem} (h : SEq M N) (s : Int) : fX4_moodFrom M s = fX4_moodFrom N s := mfl_c h s 8 s
theorem ep_c {M N : Mem} (h : SEq M N) (s f : Int) : fX4_errorInPhrase M s f = fX4_errorInPhrase N s f := by
  unfold fX4_errorInPhrase
  simp only [mf_c h, fa_c h]
theorem eql_c {M N : Mem} (h : SEq M N) : ∀ (k : Nat) (s p : Int), fX4_errorByPhrases_L1 M k s p = fX4_errorByPhrases_L1 N k s p := by
  intro k
  induction k with
  | zero => intro s p; rfl
  | succ k ih => intro s p; rw [fX4_errorByPhrases_L1, fX4_errorByPhrases_L1]; simp only [h.1, ep_c h, cf_c h, ih]
theorem eq_cc {M N : Mem} (h : SEq M N) : fX4_errorByPhrases M = fX4_errorByPhrases N := eql_c h 9 0 0
theorem sol_c {M N : Mem} (h : SEq M N) (q : Int) : ∀ (k : Nat) (s p : Int), fX4_startOf_L1 M q k s p = fX4_startOf_L1 N q k s p := by
  intro k
  induction k with
  | zero => intro s p; rfl
  | succ k ih => intro s p; rw [fX4_startOf_L1, fX4_startOf_L1, h.1, cf_c h, ih]
theorem so_c {M N : Mem} (h : SEq M N) (q : Int) : fX4_startOf M q = fX4_startOf N q := sol_c h q 10 0 0
theorem agl_c {M N : Mem} (h : SEq M N) (s m : Int) : ∀ (k : Nat) (n : Int), fX4_isAgreed_L1 M s m k n = fX4_isAgreed_L1 N s m k n := by
  intro k
  induction k with
  | zero => intro n; rfl
  | succ k ih => intro n; rw [fX4_isAgreed_L1, fX4_isAgreed_L1]; simp only [ca_c h, ih]
theorem ag_c {M N : Mem} (h : SEq M N) (s m : Int) : fX4_isAgreed M s m = fX4_isAgreed N s m := agl_c h s m 8 s
theorem pal_c {M N : Mem} (h : SEq M N) (o : Int) : ∀ (k : Nat) (p n : Int), fX4_pointAtEnd_L1 M o k p n = fX4_pointAtEnd_L1 N o k p n := by
  intro k
  induction k with
  | zero => intro p n; rfl
  | succ k ih => intro p n; rw [fX4_pointAtEnd_L1, fX4_pointAtEnd_L1, h.1, fa_c h, ih, ih]
theorem pa_c {M N : Mem} (h : SEq M N) (o : Int) : fX4_pointAtEnd M o = fX4_pointAtEnd N o := pal_c h o 8 0 0
theorem fll_c {M N : Mem} (h : SEq M N) : ∀ (k : Nat) (s f : Int), fX4_followers_L1 M k s f = fX4_followers_L1 N k s f := by
  intro k
  induction k with
  | zero => intro s f; rfl
  | succ k ih => intro s f; rw [fX4_followers_L1, fX4_followers_L1, pa_c h, ih, ih]
theorem fl_c {M N : Mem} (h : SEq M N) : fX4_followers M = fX4_followers N := fll_c h 6 0 1
theorem dnl_c {M N : Mem} (h : SEq M N) : ∀ (k : Nat) (d n : Int), fX4_doubtByNapkins_L1 M k d n = fX4_doubtByNapkins_L1 N k d n := by
  intro k
  induction k with
  | zero => intro d n; rfl
  | succ k ih => intro d n; rw [fX4_doubtByNapkins_L1, fX4_doubtByNapkins_L1, h.1, ta_c h, ih]
theorem dn_c {M N : Mem} (h : SEq M N) : fX4_doubtByNapkins M = fX4_doubtByNapkins N := dnl_c h 8 0 0
theorem fsl_c {M N : Mem} (h : SEq M N) : ∀ (k : Nat) (f o : Int), fX4_fewestBySets_L1 M k f o = fX4_fewestBySets_L1 N k f o := by
  intro k
  induction k with
  | zero => intro f o; rfl
  | succ k ih => intro f o; rw [fX4_fewestBySets_L1, fX4_fewestBySets_L1]; simp only [h.1, pa_c h, ih]
theorem fs_c {M N : Mem} (h : SEq M N) : fX4_fewestBySets M = fX4_fewestBySets N := fsl_c h 65 (-1) 0
/-! hearing -/
theorem hel_c (M N : Mem) (t : Int) : ∀ (k : Nat) (Mx Nx : Mem) (p : Int), REq Mx Nx → SEq Mx Nx → REq (fX4_hear_L1 M t k Mx p) (fX4_hear_L1 N t k Nx p) ∧ SEq (fX4_hear_L1 M t k Mx p) (fX4_hear_L1 N t k Nx p) := by
  intro k
  induction k with
  | zero => intro Mx Nx p g s; exact ⟨g, s⟩
  | succ k ih =>
    intro Mx Nx p g s
    rw [fX4_hear_L1, fX4_hear_L1]
    simp only [la_c g, sa_c g, fo_c g, cu_c g, sn_c g, s.1]
    split
    · exact ⟨g, s⟩
    split
    · exact ih _ _ _ g s
    split
    · exact ih _ _ _ g s
    · refine ih _ _ _ (fun j a b => g j a b) ⟨rfl, ?_⟩
      have B : ∀ (r : Nat) (v i : Int), (r = 1 ∨ r = 2 ∨ r = 3 ∨ r = 4) → 0 ≤ i → i < Nx 7 0 + 1 → up (Mx r) (Nx 7 0) v i = up (Nx r) (Nx 7 0) v i := fun r v i hr a b => by
        unfold up
        split
        · rfl
        · exact s.2 r hr i a (by omega)
      intro r hr i a b
      have b : i < Nx 7 0 + 1 := b
      rcases hr with rfl | rfl | rfl | rfl
      · exact B 1 _ i (by decide) a b
      · exact B 2 _ i (by decide) a b
      · exact B 3 _ i (by decide) a b
      · exact B 4 _ i (by decide) a b
theorem he_c {M N : Mem} (h : REq M N) (t : Int) : REq (fX4_hear M t) (fX4_hear N t) ∧ SEq (fX4_hear M t) (fX4_hear N t) := hel_c M N t 8 _ _ 0 (fun j a b => h j a b) ⟨rfl, fun r _ i a b => by have b : i < (0 : Int) := b; omega⟩
