/-! CHANGES: what is judged and carried out rests on the eighty cells. -/
theorem jr_c {M N : Mem} (h : REq M N) (t : Int) : PE (fX5_judgeRead M t) (fX5_judgeRead N t) := by
  have e := he_c h t
  unfold fX5_judgeRead fX4_size
  rw [la_c e.1, e.2.1]
  split
  · exact ⟨rfl, h⟩
  split
  · exact ⟨rfl, e.1⟩
  · exact ⟨rfl, e.1⟩
theorem rh_c {M N : Mem} (h : REq M N) (t : Int) : PE (fX5_readByHost M t) (fX5_readByHost N t) := by
  have e := he_c h t
  unfold fX5_readByHost
  rw [pc_c e.2]
  exact ⟨rfl, ntr_c e.1 _ _⟩
theorem jn_c {M N : Mem} (h : REq M N) (c : Int) : fX5_judgeNew M c = fX5_judgeNew N c := by
  unfold fX5_judgeNew
  rw [np_c h]
theorem jf_c {M N : Mem} (h : REq M N) (n f : Int) : fX5_judgeFold M n f = fX5_judgeFold N n f := by
  unfold fX5_judgeFold
  simp only [hn_c h, fo_c h, cr_c h]
theorem jo_c {M N : Mem} (h : REq M N) (n : Int) : fX5_judgeOpen M n = fX5_judgeOpen N n := by
  unfold fX5_judgeOpen
  simp only [hn_c h, fo_c h]
theorem jl_c {M N : Mem} (h : REq M N) (n t : Int) : fX5_judgeLay M n t = fX5_judgeLay N n t := by
  unfold fX5_judgeLay
  simp only [hn_c h, tu_c h, la_c h]
theorem jt_c {M N : Mem} (h : REq M N) (n : Int) : fX5_judgeTake M n = fX5_judgeTake N n := by
  unfold fX5_judgeTake
  simp only [hn_c h, tu_c h]
theorem jm_c {M N : Mem} (h : REq M N) (t f g : Int) : fX5_judgeMove M t f g = fX5_judgeMove N t f g := by
  unfold fX5_judgeMove
  simp only [hp_c h]
theorem js_c {M N : Mem} (h : REq M N) (n f : Int) : fX5_judgeStain M n f = fX5_judgeStain N n f := by
  unfold fX5_judgeStain
  simp only [hn_c h, sn_c h]
theorem jw_c {M N : Mem} (h : REq M N) (n : Int) : fX5_judgeWash M n = fX5_judgeWash N n := by
  unfold fX5_judgeWash
  simp only [hn_c h, tu_c h, sn_c h]
theorem ju_c {M N : Mem} (h : REq M N) (co a b d : Int) : PE (fX5_judge M co a b d) (fX5_judge N co a b d) := by
  unfold fX5_judge
  split
  · exact ⟨jn_c h _, h⟩
  split
  · exact ⟨jf_c h _ _, h⟩
  split
  · exact ⟨jo_c h _, h⟩
  split
  · exact ⟨jl_c h _ _, h⟩
  split
  · exact ⟨jt_c h _, h⟩
  split
  · exact ⟨jm_c h _ _ _, h⟩
  split
  · exact ⟨js_c h _ _, h⟩
  split
  · exact ⟨jw_c h _, h⟩
  · exact jr_c h _
theorem cy_c {M N : Mem} (h : REq M N) (co a b d : Int) : PE (fX5_carryOut M co a b d) (fX5_carryOut N co a b d) := by
  unfold fX5_carryOut
  split
  · exact an_c h _
  split
  · exact ft_c h _ _ _
  split
  · exact op_c h _
  split
  · exact al_cc h _ _
  split
  · exact re_c h _
  split
  · exact sh_c h _ _ _
  split
  · exact as_c h _ _
  split
  · exact ce_c h _
  · exact rh_c h _
theorem pcp_0 (M : Mem) : (fX2_push (fX6_copyTo_b M)) 0 = M 0 := (fr_fX2_push rfl rfl).trans (fr_fX6_copyTo_b rfl)
theorem ch_c {M N : Mem} (h : REq M N) (co a b d : Int) : (fX8_change M co a b d).1 = (fX8_change N co a b d).1 ∧ (fX8_change M co a b d).2.1 = (fX8_change N co a b d).2.1 ∧ REq (fX8_change M co a b d).2.2 (fX8_change N co a b d).2.2 := by
  have e := ju_c h co a b d
  have e1 := e.1
  unfold fX8_change
  rw [e1]
  split
  · exact ⟨rfl, rfl, e.2⟩
  split
  · exact ⟨rfl, rfl, e.2⟩
  split
  · have k := cy_c (e.2.of2 (pcp_0 _) (pcp_0 _)) co a b d
    exact ⟨rfl, k.1, k.2⟩
  · exact ⟨rfl, rfl, fun j x y => e.2 j x y⟩
/-- a refusal is told -/
theorem ch_18 {M : Mem} {co a b d v : Int} (h : (fX5_judge M co a b d).1 = v) (h0 : 0 < v) : (fX8_change M co a b d).1 = 3 ∧ (fX8_change M co a b d).2.2 18 0 = v ∧ (fX8_change M co a b d).2.2 19 0 = 0 ∧ (fX8_change M co a b d).2.2 0 = M 0 := by
  unfold fX8_change
  rw [h, if_neg (by omega), if_neg (by omega), if_neg (by omega)]
  exact ⟨rfl, rfl, rfl, fr_fX5_judge co a b d rfl rfl rfl rfl rfl⟩
/-! QUESTIONS -/
theorem q_wrong {M N : Mem} (h : REq M N) (t : Int) : (fX8_wrong M t).1 = (fX8_wrong N t).1 ∧ (fX8_wrong M t).2.1 = (fX8_wrong N t).2.1 := by
  unfold fX8_wrong fX8_checkTable fX8_heard
  rw [en_c (he_c h t).2]
  split <;> exact ⟨rfl, rfl⟩
theorem q_wrongAgain {M N : Mem} (h : REq M N) (t : Int) : (fX8_wrongAgain M t).1 = (fX8_wrongAgain N t).1 ∧ (fX8_wrongAgain M t).2.1 = (fX8_wrongAgain N t).2.1 := by
  unfold fX8_wrongAgain fX8_checkTable fX8_heard
  rw [eq_cc (he_c h t).2]
  split <;> exact ⟨rfl, rfl⟩
theorem q_isRight {M N : Mem} (h : REq M N) (t : Int) : (fX8_isRight M t).1 = (fX8_isRight N t).1 ∧ (fX8_isRight M t).2.1 = (fX8_isRight N t).2.1 := by
  unfold fX8_isRight fX8_checkTable fX8_heard
  rw [iw_c (he_c h t).2]
  split <;> exact ⟨rfl, rfl⟩
theorem q_phrases {M N : Mem} (h : REq M N) (t : Int) : (fX8_phrases M t).1 = (fX8_phrases N t).1 ∧ (fX8_phrases M t).2.1 = (fX8_phrases N t).2.1 := by
  unfold fX8_phrases fX8_checkTable fX8_heard
  rw [pc_c (he_c h t).2]
  split <;> exact ⟨rfl, rfl⟩
theorem q_next {M N : Mem} (h : REq M N) (t : Int) : (fX8_next M t).1 = (fX8_next N t).1 ∧ (fX8_next M t).2.1 = (fX8_next N t).2.1 := by
  unfold fX8_next fX8_checkTable fX8_heard
  rw [fl_c (he_c h t).2]
  split <;> exact ⟨rfl, rfl⟩
theorem q_doubt {M N : Mem} (h : REq M N) (t : Int) : (fX8_doubt M t).1 = (fX8_doubt N t).1 ∧ (fX8_doubt M t).2.1 = (fX8_doubt N t).2.1 := by
  unfold fX8_doubt fX8_checkTable fX8_heard
  rw [dn_c (he_c h t).2]
  split <;> exact ⟨rfl, rfl⟩
theorem q_fewest {M N : Mem} (h : REq M N) (t : Int) : (fX8_fewest M t).1 = (fX8_fewest N t).1 ∧ (fX8_fewest M t).2.1 = (fX8_fewest N t).2.1 := by
  unfold fX8_fewest fX8_checkTable fX8_heard
  rw [fs_c (he_c h t).2]
  (repeat' split) <;> exact ⟨rfl, rfl⟩
theorem q_sure {M N : Mem} (h : REq M N) (t : Int) : (fX8_sure M t).1 = (fX8_sure N t).1 ∧ (fX8_sure M t).2.1 = (fX8_sure N t).2.1 := by
  unfold fX8_sure fX8_checkTable fX8_heard fX4_size
  rw [dn_c (he_c h t).2, (he_c h t).2.1]
  (repeat' split) <;> exact ⟨rfl, rfl⟩
theorem q_phraseOf {M N : Mem} (h : REq M N) (t p w : Int) : (fX8_phraseOf M t p w).1 = (fX8_phraseOf N t p w).1 ∧ (fX8_phraseOf M t p w).2.1 = (fX8_phraseOf N t p w).2.1 := by
  have s := (he_c h t).2
  unfold fX8_phraseOf fX8_checkTable fX8_heard
  rw [pc_c s, so_c s, mf_c s, npa_c s, ib_c s, npa_c s, ag_c s]
  (repeat' split) <;> exact ⟨rfl, rfl⟩
theorem q_tableOf {M N : Mem} (h : REq M N) (t w : Int) : (fX8_tableOf M t w).1 = (fX8_tableOf N t w).1 ∧ (fX8_tableOf M t w).2.1 = (fX8_tableOf N t w).2.1 := by
  have s := (he_c h t).2
  unfold fX8_tableOf fX8_checkTable fX8_heard fX4_size
  rw [la_c h, s.1, co_c s, co_c s, rd_c h, pz_c h]
  (repeat' split) <;> exact ⟨rfl, rfl⟩
theorem q_napkinOf {M N : Mem} (h : REq M N) (n w : Int) : fX8_napkinOf M n w = fX8_napkinOf N n w := by
  unfold fX8_napkinOf
  rw [hn_c h, cu_c h, fo_c h, cr_c h, sn_c h, tu_c h, pu_c h, fg_c h]
theorem rt_c (M N : Mem) : ∀ (k : Nat) (Mx Nx : Mem) (c t : Int), REq Mx Nx → (fX8_rightTables_L1 M k Mx c t).1 = (fX8_rightTables_L1 N k Nx c t).1 := by
  intro k
  induction k with
  | zero => intro Mx Nx c t _; rfl
  | succ k ih =>
    intro Mx Nx c t g
    have e := he_c g t
    rw [fX8_rightTables_L1, fX8_rightTables_L1]
    unfold fX8_heard
    rw [iw_c e.2]
    split
    · rfl
    split
    · exact ih _ _ _ _ e.1
    · exact ih _ _ _ _ e.1
/-- an account of the cells -/
theorem q_account {M N : Mem} (h : REq M N) {w : Int} (hw : 0 ≤ w ∧ w ≤ 9) : (fX8_account M w).2.1 = (fX8_account N w).2.1 := by
  rcases (show w = 0 ∨ w = 1 ∨ w = 2 ∨ w = 3 ∨ w = 4 ∨ w = 5 ∨ w = 6 ∨ w = 7 ∨ w = 8 ∨ w = 9 by omega) with rfl | rfl | rfl | rfl | rfl | rfl | rfl | rfl | rfl | rfl
  · exact h 77 (by decide) (by decide)
  · exact fc_c h 11 0 0
  · exact sm_c h (f := 68) (by decide) 3
  · exact sm_c h (f := 20) (by decide) 10
  · exact sm_c h (f := 30) (by decide) 10
  · exact rt_c M N 4 M N 0 0 h
  · exact h 78 (by decide) (by decide)
  · exact sm_c h (f := 74) (by decide) 3
  · exact sm_c h (f := 40) (by decide) 10
  · exact h 79 (by decide) (by decide)
theorem nal_c {M N : Mem} (h : REq M N) (n : Int) : ∀ (k : Nat) (c i : Int), fX8_napkinsAheadOf_L1 M n k c i = fX8_napkinsAheadOf_L1 N n k c i := by
  intro k
  induction k with
  | zero => intro c i; rfl
  | succ k ih =>
    intro c i
    rw [fX8_napkinsAheadOf_L1, fX8_napkinsAheadOf_L1]
    unfold fX8_isNapkinAhead
    simp only [np_c h, cr_c h, sn_c h, ih]
theorem wol_c {M N : Mem} (h : REq M N) (p : Int) : ∀ (k : Nat) (i : Int), fX8_worn_L1 M p k i = fX8_worn_L1 N p k i := by
  intro k
  induction k with
  | zero => intro i; rfl
  | succ k ih =>
    intro i
    rw [fX8_worn_L1, fX8_worn_L1]
    unfold fX8_napkinsAheadOf
    rw [np_c h, nal_c h, ih]
theorem q_worn {M N : Mem} (h : REq M N) (p : Int) : fX8_worn M p = fX8_worn N p := wol_c h p 12 0
theorem ta2_c {M N : Mem} (h : REq M N) (o t : Int) : PE (fX8_isTableAhead M o t) (fX8_isTableAhead N o t) := by
  have h1 := he_c h o
  have h2 := he_c h1.1 t
  have h3 := he_c h2.1 o
  have h4 := he_c h3.1 t
  unfold fX8_isTableAhead fX8_heard
  rw [pc_c h1.2, pc_c h2.2, dn_c h3.2, dn_c h4.2]
  (repeat' split) <;> first | exact ⟨rfl, h4.1⟩ | exact ⟨rfl, h2.1⟩
theorem tal_c (M N : Mem) (t : Int) : ∀ (k : Nat) (Mx Nx : Mem) (c i : Int), REq Mx Nx → PE (fX8_tablesAheadOf_L1 M t k Mx c i) (fX8_tablesAheadOf_L1 N t k Nx c i) := by
  intro k
  induction k with
  | zero => intro Mx Nx c i g; exact ⟨rfl, g⟩
  | succ k ih =>
    intro Mx Nx c i g
    have e := ta2_c g i t
    rw [fX8_tablesAheadOf_L1, fX8_tablesAheadOf_L1, e.1]
    split
    · exact ⟨rfl, g⟩
    split
    · exact ih _ _ _ _ e.2
    · exact ih _ _ _ _ e.2
theorem clr_c (M N : Mem) (p : Int) : ∀ (k : Nat) (Mx Nx : Mem) (i : Int), REq Mx Nx → (fX8_clearest_L1 M p k Mx i).1 = (fX8_clearest_L1 N p k Nx i).1 ∧ (fX8_clearest_L1 M p k Mx i).2.1 = (fX8_clearest_L1 N p k Nx i).2.1 := by
  intro k
  induction k with
  | zero => intro Mx Nx i g; exact ⟨rfl, rfl⟩
  | succ k ih =>
    intro Mx Nx i g
    have e := tal_c Mx Nx i 4 Mx Nx 0 0 g
    have e1 : (fX8_tablesAheadOf Mx i).1 = (fX8_tablesAheadOf Nx i).1 := e.1
    rw [fX8_clearest_L1, fX8_clearest_L1, e1]
    split
    · exact ⟨rfl, rfl⟩
    split
    · exact ⟨rfl, rfl⟩
    · exact ih _ _ _ e.2
theorem q_clearest {M N : Mem} (h : REq M N) (p : Int) : (fX8_clearest M p).1 = (fX8_clearest N p).1 ∧ (fX8_clearest M p).2.1 = (fX8_clearest N p).2.1 := clr_c M N p 4 M N 0 h
/-! fewest, by points -/
def FEq (M N : Mem) : Prop := SEq M N ∧ (∀ i : Int, 0 ≤ i → i < 4 → M 5 i = N 5 i)
def FE2 (M N : Mem) (n : Int) : Prop := FEq M N ∧ (∀ i : Int, 0 ≤ i → i < n → M 6 i = N 6 i)
theorem SEq.of5 {M N : Mem} (h : SEq M N) {z v w : Int} {k : Nat} (hk : k = 5 ∨ k = 6) : SEq (mst M k z v) (mst N k z w) := by
  rcases hk with rfl | rfl
  · refine ⟨h.1, fun r hr i a b => ?_⟩
    have q := h.2 r hr i a b
    rcases hr with rfl | rfl | rfl | rfl <;> exact q
  · refine ⟨h.1, fun r hr i a b => ?_⟩
    have q := h.2 r hr i a b
    rcases hr with rfl | rfl | rfl | rfl <;> exact q
theorem g2_c (M N : Mem) (f p : Int) : ∀ (k : Nat) (Mx Nx : Mem) (i : Int), 0 ≤ i → i ≤ 4 → 4 - i < k → FE2 Mx Nx 4 → FEq (fX4_goOnWith_L2 M f p k Mx i) (fX4_goOnWith_L2 N f p k Nx i) := by
  intro k
  induction k with
  | zero => intro Mx Nx i a a4 b; omega
  | succ k ih =>
    intro Mx Nx i a a4 b g
    rw [fX4_goOnWith_L2, fX4_goOnWith_L2]
    by_cases h1 : 4 ≤ i
    · rw [if_pos h1, if_pos h1]
      refine ⟨⟨g.1.1.1, fun r hr i a b => ?_⟩, fun i a b => ?_⟩
      · have q := g.1.1.2 r hr i a b
        rcases hr with rfl | rfl | rfl | rfl <;> exact q
      · show cpI (Mx 6) (Mx 5) 0 0 4 i = cpI (Nx 6) (Nx 5) 0 0 4 i
        unfold cpI
        rw [if_pos ⟨a, by omega⟩, if_pos ⟨a, by omega⟩]
        exact g.2 _ (by omega) (by omega)
    rw [if_neg h1, if_neg h1]
    by_cases h2 : fX4_pointAfter i f < 0
    · rw [if_pos h2, if_pos h2]
      exact ih _ _ _ (by omega) (by omega) (by omega) g
    rw [if_neg h2, if_neg h2]
    by_cases h3 : 4 ≤ fX4_pointAfter i f
    · rw [if_pos h3, if_pos h3]
      exact ih _ _ _ (by omega) (by omega) (by omega) g
    rw [if_neg h3, if_neg h3]
    refine ih _ _ _ (by omega) (by omega) (by omega) ⟨⟨g.1.1.of5 (Or.inr rfl), fun j x y => g.1.2 j x y⟩, fun j x y => ?_⟩
    rw [g.1.2 i a (by omega), g.2 _ (by omega) (by omega)]
    show up (Mx 6) _ _ j = up (Nx 6) _ _ j
    unfold up
    split
    · rfl
    · exact g.2 j x y
theorem g1_c (M N : Mem) (f : Int) : ∀ (k : Nat) (Mx Nx : Mem) (i : Int), 0 ≤ i → i ≤ 4 → 4 - i < k → FE2 Mx Nx i → FEq (fX4_goOnWith_L1 M f k Mx i) (fX4_goOnWith_L1 N f k Nx i) := by
  intro k
  induction k with
  | zero => intro Mx Nx i a b c; omega
  | succ k ih =>
    intro Mx Nx i a b c g
    rw [fX4_goOnWith_L1, fX4_goOnWith_L1]
    by_cases h1 : 4 ≤ i
    · rw [if_pos h1, if_pos h1]
      refine g2_c M N f i 5 Mx Nx 0 (by decide) (by decide) (by decide) ⟨g.1, fun j x y => g.2 j x (by omega)⟩
    rw [if_neg h1, if_neg h1]
    refine ih _ _ _ (by omega) (by omega) (by omega) ⟨⟨g.1.1.of5 (Or.inr rfl), fun j x y => g.1.2 j x y⟩, fun j x y => ?_⟩
    rw [g.1.2 i a (by omega)]
    show up (Mx 6) _ _ j = up (Nx 6) _ _ j
    unfold up
    split
    · rfl
    · exact g.2 j x (by omega)
theorem go_c {M N : Mem} (h : FEq M N) (f : Int) : FEq (fX4_goOnWith M f) (fX4_goOnWith N f) := g1_c M N f 5 M N 0 (by decide) (by decide) (by decide) ⟨h, fun j x y => by omega⟩
theorem fp2_c (M N : Mem) (p : Int) : ∀ (k : Nat) (Mx Nx : Mem) (i : Int), FEq Mx Nx → (fX4_fewestByPoints_L2 M p k Mx i).1 = (fX4_fewestByPoints_L2 N p k Nx i).1 := by
  intro k
  induction k with
  | zero => intro Mx Nx i g; rfl
  | succ k ih =>
    intro Mx Nx i g
    rw [fX4_fewestByPoints_L2, fX4_fewestByPoints_L2, g.1.1, fa_c g.1, g.2 2 (by decide) (by decide), g.2 3 (by decide) (by decide)]
    split
    · split <;> rfl
    · exact ih _ _ _ (go_c g _)
theorem fp1_c (M N : Mem) : ∀ (k : Nat) (Mx Nx : Mem) (i : Int), 0 ≤ i → i ≤ 4 → 4 - i < k → SEq Mx Nx → (∀ j : Int, 0 ≤ j → j < i → Mx 5 j = Nx 5 j) → (fX4_fewestByPoints_L1 M k Mx i).1 = (fX4_fewestByPoints_L1 N k Nx i).1 := by
  intro k
  induction k with
  | zero => intro Mx Nx i a b c; omega
  | succ k ih =>
    intro Mx Nx i a b c g q
    have U : ∀ (v j : Int), 0 ≤ j → j < i + 1 → mst Mx 5 i v 5 j = mst Nx 5 i v 5 j := fun v j x y => by
      show up (Mx 5) i v j = up (Nx 5) i v j
      unfold up
      split
      · rfl
      · exact q j x (by omega)
    rw [fX4_fewestByPoints_L1, fX4_fewestByPoints_L1]
    by_cases h1 : 4 ≤ i
    · rw [if_pos h1, if_pos h1]
      exact fp2_c M N i 8 _ _ 0 ⟨g, fun j x y => q j x (by omega)⟩
    rw [if_neg h1, if_neg h1]
    by_cases h2 : i = 0
    · rw [if_pos h2, if_pos h2]
      exact ih _ _ _ (by omega) (by omega) (by omega) (g.of5 (Or.inl rfl)) (U 0)
    · rw [if_neg h2, if_neg h2]
      exact ih _ _ _ (by omega) (by omega) (by omega) (g.of5 (Or.inl rfl)) (U 1000)
theorem q_fewestAgain {M N : Mem} (h : REq M N) (t : Int) : (fX8_fewestAgain M t).1 = (fX8_fewestAgain N t).1 ∧ (fX8_fewestAgain M t).2.1 = (fX8_fewestAgain N t).2.1 := by
  have e : (fX4_fewestByPoints (fX4_hear M t)).1 = (fX4_fewestByPoints (fX4_hear N t)).1 := fp1_c _ _ 5 _ _ 0 (by decide) (by decide) (by decide) (he_c h t).2 (fun j x y => by omega)
  unfold fX8_fewestAgain fX8_checkTable fX8_heard
  rw [e]
  (repeat' split) <;> exact ⟨rfl, rfl⟩
